theorem tw_902 : (Jvm.Cond.methodLink "CorpuslineModel" (156 : Nat) ({ cls := "CorpuslineModel", name := "hasAligned", desc := "(III)Z" } : Jvm.MethodName)) ∈ TB := tb_of 902 (by decide +kernel) rfl
theorem tw_904 : (Jvm.Cond.instanceMethod ({ cls := "CorpuslineModel", name := "hasAligned", desc := "(III)Z" } : Jvm.MethodName)) ∈ TB := tb_of 904 (by decide +kernel) rfl
theorem tw_905 : (Jvm.Cond.code ({ cls := "CorpuslineModel", name := "hasAligned", desc := "(III)Z" } : Jvm.MethodName) prog_9_method_45_code (9 : Nat) (Option.some Jvm.ClassFile.FieldType.boolean)) ∈ TB := tb_of 905 (by decide +kernel) rfl
theorem ts_34 : Cond.selects "CorpuslineModel" ({ cls := "CorpuslineModel", name := "hasAligned", desc := "(III)Z" } : MethodName) ({ cls := "CorpuslineModel", name := "hasAligned", desc := "(III)Z" } : MethodName) ∈ TB := tb_sel 34 (by decide +kernel) rfl
theorem ok_RX7_156 : okV RX7 156 yX7_hasAligned cX7_hasAligned 9 (Option.some Jvm.ClassFile.FieldType.boolean) 3 := ⟨tw_902, tw_904, ts_34, tw_5, tw_905, ⟨by decide, by decide, by decide +kernel⟩⟩
theorem bI_inj {a c : Bool} : bI a = bI c ↔ a = c := by cases a <;> cases c <;> decide
def sameH (S T : mS) : Prop := sameC S T ∧ ∀ i, mN S 7 i = mN T 7 i
theorem mHas_c {S T : mS} (h : sameH S T) (s its pat : Nat) : mHas S s its pat = mHas T s its pat := by
  unfold mHas
  rw [h.1.1]
  congr 1
  funext j
  unfold haF paB
  rw [mLong_c h.1, h.1.2.2.1, h.2]
def sdR (S : mS) (r : Nat) : Nat := if mI S 20 r = nI 1 then 1 else 0
theorem sdR_lt (S : mS) (r : Nat) : sdR S r < 2 := by unfold sdR; split <;> omega
theorem sdR_of {S : mS} (I : mInv S) {r : Nat} (hr : r < 8) (h : mI S 20 r ≠ -1) : mI S 20 r = nI (sdR S r) := by
  have h1 := I.2.2.2.2.2.2.2.2.2.2.2.2.1 r hr
  unfold sdR
  rcases h1 with q | q | q
  · exact absurd q h
  · rw [q, if_neg (by decide)]
  · rw [if_pos q, q]
def cAl (S : mS) (r pat : Int32) : Nat := if (mIsR S r && mIsP S pat) = true then 0 else 1
theorem cAl_0 {S : mS} (I : mInv S) {r pat : Int32} (h : cAl S r pat = 0) : r = nI (tn r) ∧ tn r < 8 ∧ mI S 20 (tn r) ≠ -1 ∧ pat = nI (tn pat) ∧ tn pat < mK S 15 := by
  unfold cAl at h
  split at h
  · rename_i c
    rw [Bool.and_eq_true] at c
    obtain ⟨e1, e2, e3⟩ := mIsR_of c.1
    have i1 := pats_le I
    obtain ⟨e4, e5⟩ := inI_of (by omega) c.2
    exact ⟨e1, e2, e3, e4, e5⟩
  · omega
def alB (S : mS) (r pat : Nat) (nn : Bool) (k : Nat) : Bool := !decide (mN S 21 (40 * r + k) = 0) && !decide (mHas S (sdR S r) (mN S 3 (40 * sdR S r + k)) pat = nn)
def alV (S : mS) (r pat : Nat) (nn : Bool) (k : Nat) : Nat := if alB S r pat nn k = true then mN S 21 (40 * r + k) else 0
def alF (S : mS) (r pat : Nat) (nn : Bool) (k : Nat) : Nat → Nat := fun z => if 40 * r ≤ z ∧ z < 40 * r + k then alV S r pat nn (z - 40 * r) else mN S 21 z
def alS (S : mS) (r pat : Nat) (nn : Bool) (k : Nat) : mS := sN (uK S 0 0) 21 (alF S r pat nn k)
theorem al_init {S : mS} {r pat : Nat} {nn : Bool} : uK S 0 0 = sI (alS S r pat nn 0) 19 (fun z => mI S 19 z) := by
  unfold alS
  rw [← sN_init (S := uK S 0 0) (k := 21)]
  · apply sI_init
    intro z; rfl
  · intro z
    unfold alF
    rw [if_neg (by omega)]; rfl
theorem al_r {S : mS} {r pat k : Nat} {nn : Bool} : mN (alS S r pat nn k) 21 (40 * r + k) = mN S 21 (40 * r + k) := by
  unfold alS
  rw [mN_sN, if_pos rfl]
  unfold alF
  rw [if_neg (by omega)]
theorem al_step {S : mS} {r pat k : Nat} {nn : Bool} {g : Nat → Int32} : uN (sI (alS S r pat nn k) 19 g) 21 (40 * r + k) (alV S r pat nn k) = sI (alS S r pat nn (k + 1)) 19 g := by
  rw [uN_sI]
  unfold alS
  rw [sN_step (g := alF S r pat nn (k + 1))]
  intro z
  unfold alF
  by_cases c : z = 40 * r + k
  · rw [if_pos c, if_pos (by omega), c, Nat.add_sub_cancel_left]
  · rw [if_neg c]
    by_cases d : 40 * r ≤ z ∧ z < 40 * r + k
    · rw [if_pos d, if_pos (by omega)]
    · rw [if_neg d, if_neg (by omega)]
theorem alF_lt {S : mS} (I : mInv S) {r pat z : Nat} {nn : Bool} (hr : r < 8) (hz : z < 320) : alF S r pat nn 40 z < 512 := by
  unfold alF
  split
  · unfold alV
    split
    · exact len_lt I (by omega)
    · omega
  · exact len_lt I hz
def tAl (S : mS) (r pat : Int32) (nn : Bool) : mS := if cAl S r pat = 0 then alS S (tn r) (tn pat) nn 40 else uK S 0 1
def rAl (S : mS) (r pat : Int32) (nn : Bool) : Nat := if cAl S r pat = 0 then mSize (tAl S r pat nn) (tn r) else 0
def hasB (S : mS) (r k : Nat) : Bool := decide (mN S 21 (40 * r + k / 9) / 2 ^ (k % 9) % 2 = 1)
def cntM (S : mS) (r k : Nat) : Nat := sumTo (fun j => (hasB S r j).toNat) k
def fdM (S : mS) (r m : Nat) : Nat → Nat
  | 0 => 0
  | k + 1 => if hasB S r k = true ∧ cntM S r k = m then 100 * (k / 9) + k % 9 else fdM S r m k
def cMatch (S : mS) (r m : Int32) : Nat := if (mIsR S r && inI m (nI 0) (nI (mSize S (tn r)) - nI 1)) = true then 0 else 1
theorem mSize_le (S : mS) (r : Nat) : mSize S r ≤ 320 := by
  unfold mSize
  refine Nat.le_trans (sumTo_le (c := 8) (k := 40) fun j _ => ?_) (by decide)
  unfold bits8
  exact Nat.le_trans (sumTo_le (c := 1) (k := 8) fun i _ => by omega) (by decide)
theorem cMatch_0 {S : mS} {r m : Int32} (h : cMatch S r m = 0) : r = nI (tn r) ∧ tn r < 8 ∧ m = nI (tn m) ∧ tn m < 320 := by
  unfold cMatch at h
  split at h
  · rename_i c
    rw [Bool.and_eq_true] at c
    obtain ⟨e1, e2, -⟩ := mIsR_of c.1
    have h1 := mSize_le S (tn r)
    obtain ⟨e4, e5⟩ := inI_of (by omega) c.2
    exact ⟨e1, e2, e4, by omega⟩
  · omega
def rMatch (S : mS) (r m : Int32) : Nat := if cMatch S r m = 0 then fdM S (tn r) (tn m) 360 else 0
theorem sub_sub_nI (a c : Nat) (w : Bool) : (nI a - nI c) - bI w = nI a - nI (c + w.toNat) := by
  rw [bI_n, ← nI_add, Int32.sub_eq_add_neg, Int32.sub_eq_add_neg, Int32.sub_eq_add_neg, Int32.neg_add, Int32.add_assoc, Int32.sub_eq_add_neg]
theorem sub_0 {a c : Nat} (ha : a < 2147483648) (hc : c < 2147483648) : nI a - nI c = 0 ↔ c = a := by
  constructor
  · intro h
    have : nI a = nI c := by
      have h2 := congrArg (fun z => z + nI c) h
      simp only [Int32.sub_add_cancel, Int32.zero_add] at h2
      exact h2
    exact (nI_inj ha hc this).symm
  · intro h; rw [h, Int32.sub_self]
theorem sub_cnt0 (a : Nat) (S : mS) (r : Nat) : nI a - nI (cntM S r 0) = nI a := by
  show nI a - nI 0 = nI a
  rw [nI_0]; exact Int32.sub_zero _
theorem cntM_le (S : mS) (r k : Nat) : cntM S r k ≤ k := by
  have := sumTo_le (f := fun j => (hasB S r j).toNat) (c := 1) (k := k) (fun j _ => by cases hasB S r j <;> decide)
  unfold cntM
  omega
/-- groups -/
def plM (L : Bool) (k : Nat) : Nat := k / 9 + (if L = true then k % 9 - 1 else 0)
def vlM (S : mS) (r a : Nat) (L : Bool) (k : Nat) : Nat := mVal S (sdR S r) (plM L k) a
def cvM (S : mS) (r a : Nat) (L : Bool) (k z : Nat) : Nat := sumTo (fun j => if hasB S r j = true ∧ vlM S r a L j = z then 1 else 0) k
def ndM (S : mS) (r a : Nat) (L : Bool) : Nat → Nat
  | 0 => 0
  | k + 1 => ndM S r a L k + (if hasB S r k = true ∧ cvM S r a L k (vlM S r a L k) = 0 then 1 else 0)
def cvR (S : mS) (r a : Nat) (L : Bool) (k : Nat) : Nat → Nat := fun z => if z < 100 then cvM S r a L k z else mN S 22 z
theorem cvM_le (S : mS) (r a : Nat) (L : Bool) (k z : Nat) : cvM S r a L k z ≤ k := by
  have := sumTo_le (f := fun j => if hasB S r j = true ∧ vlM S r a L j = z then 1 else 0) (c := 1) (k := k) (fun j _ => ite_le (by omega) (by omega))
  unfold cvM
  omega
theorem ndM_le (S : mS) (r a : Nat) (L : Bool) : ∀ k, ndM S r a L k ≤ k
  | 0 => Nat.le_refl _
  | k + 1 => by
    rw [ndM]
    have := ndM_le S r a L k
    split <;> omega
theorem pl_lt {S : mS} (I : mInv S) {r k : Nat} (hr : r < 8) (h1 : mI S 20 r ≠ -1) (hk : k < 360) (h : mN S 21 (40 * r + k / 9) / 2 ^ (k % 9) % 2 = 1) (L : Bool) : plM L k < 40 ∧ 1 ≤ k % 9 := by
  have e := sdR_of I hr h1
  have h2 := I.2.2.2.2.2.2.2.2.2.2.2.2.2.2.1 r (sdR S r) hr (sdR_lt S r) e (k / 9) (by omega) (k % 9) (by omega) h
  have h3 := I.1 (sdR S r) (sdR_lt S r)
  have h4 := (I.2.2.2.2.2.2.2.2.2.2.2.2.2.1 (40 * r + k / 9) (by omega)).2
  have h5 : 1 ≤ k % 9 := by
    rcases Nat.eq_zero_or_pos (k % 9) with q | q
    · rw [q, Nat.pow_zero, Nat.div_one] at h; omega
    · exact q
  refine ⟨?_, h5⟩
  unfold plM
  split <;> omega
theorem cv_step {S : mS} {r a k : Nat} {L : Bool} (h : hasB S r k = true) (hv : vlM S r a L k < 100) : uN (sN S 22 (cvR S r a L k)) 22 (vlM S r a L k) (cvM S r a L k (vlM S r a L k) + 1) = sN S 22 (cvR S r a L (k + 1)) := by
  rw [sN_step (g := cvR S r a L (k + 1))]
  intro z
  unfold cvR
  by_cases c : z = vlM S r a L k
  · rw [if_pos c, if_pos (by omega), c]
    show _ = sumTo _ (k + 1)
    rw [sumTo, if_pos ⟨h, rfl⟩]; rfl
  · rw [if_neg c]
    by_cases d : z < 100
    · rw [if_pos d, if_pos d]
      show _ = sumTo _ (k + 1)
      rw [sumTo, if_neg (fun q => c q.2.symm)]; rfl
    · rw [if_neg d, if_neg d]
theorem cv_skip {S : mS} {r a k : Nat} {L : Bool} (h : ¬ hasB S r k = true) : sN S 22 (cvR S r a L k) = sN S 22 (cvR S r a L (k + 1)) := by
  congr 1
  funext z
  unfold cvR
  split
  · show _ = sumTo _ (k + 1)
    rw [sumTo, if_neg (fun q => h q.1)]; rfl
  · rfl
def cGr (S : mS) (r a : Int32) : Nat := if mIsR S r = true then (if inR a 0 2 = true then 0 else 2) else 1
theorem cGr_0 {S : mS} {r a : Int32} (h : cGr S r a = 0) : r = nI (tn r) ∧ tn r < 8 ∧ mI S 20 (tn r) ≠ -1 ∧ a = nI (tn a) ∧ tn a < 3 := by
  unfold cGr at h
  split at h
  · rename_i c
    split at h
    · rename_i d
      obtain ⟨e1, e2, e3⟩ := mIsR_of c
      obtain ⟨e4, -, e5⟩ := inR_of d (by decide) (by decide)
      exact ⟨e1, e2, e3, e4, by omega⟩
    · omega
  · omega
def rGr (S : mS) (r a : Int32) (L : Bool) : Nat := if cGr S r a = 0 then ndM S (tn r) (tn a) L 360 else 0
def cGA (S : mS) (r a : Int32) (L : Bool) (g : Int32) : Nat := if mIsR S r = true then (if inR a 0 2 = true then (if inI g (nI 0) (nI (ndM S (tn r) (tn a) L 360) - nI 1) = true then 0 else 1) else 2) else 1
def ahM (c : Nat → Nat) (v k : Nat) : Nat := sumTo (fun j => if c v < c j ∨ c j = c v ∧ j < v then 1 else 0) k
def fdG (c : Nat → Nat) (g : Nat) : Nat → Nat
  | 0 => 0
  | v + 1 => if ahM c v 100 = g then v else fdG c g v
theorem fdG_lt (c : Nat → Nat) (g : Nat) : ∀ v, fdG c g v ≤ v - 1
  | 0 => Nat.le_refl _
  | v + 1 => by
    rw [fdG]
    have := fdG_lt c g v
    split <;> omega
theorem ahM_le (c : Nat → Nat) (v k : Nat) : ahM c v k ≤ k := by
  have := sumTo_le (f := fun j => if c v < c j ∨ c j = c v ∧ j < v then 1 else 0) (c := 1) (k := k) (fun j _ => ite_le (by omega) (by omega))
  unfold ahM
  omega
def rGA (S : mS) (r a : Int32) (L : Bool) (g : Int32) : Nat := if cGA S r a L g = 0 then 1000 * cvM S (tn r) (tn a) L 360 (fdG (cvM S (tn r) (tn a) L 360) (tn g) 100) + fdG (cvM S (tn r) (tn a) L 360) (tn g) 100 else 0

def dl_X7_hasAligned : List (Nat × Instr × Nat) := [(0, .iconst 0, 1), (1, .istore 4, 2), (3, .iconst 1, 1), (4, .iload_n 1, 1), (5, .isub, 1), (6, .istore 5, 2), (8, .iconst 0, 1), (9, .istore 6, 2), (11, .iload 6, 2), (13, .aload_n 0, 1), (14, .getfield 7, 3), (17, .iload 5, 2), (19, .iaload, 1), (20, .if_icmp .ge 95, 3), (23, .iload 4, 2), (25, .ifCond .ne 90, 3), (28, .aload_n 0, 1), (29, .getfield 16, 3), (32, .bipush 40, 2), (34, .iload 5, 2), (36, .imul, 1), (37, .iload 6, 2), (39, .iadd, 1), (40, .iaload, 1), (41, .istore 7, 2), (43, .aload_n 0, 1), (44, .getfield 29, 3), (47, .iload_n 1, 1), (48, .ifCond .ne 7, 3), (51, .iload_n 2, 1), (52, .goto 5, 3), (55, .iload 7, 2), (57, .laload, 1), (58, .iload_n 1, 1), (59, .ifCond .ne 8, 3), (62, .iload 7, 2), (64, .goto 4, 3), (67, .iload_n 2, 1), (68, .lshr, 1), (69, .lconst 1, 1), (70, .land, 1), (71, .lconst 1, 1), (72, .lcmp, 1), (73, .ifCond .ne 7, 3), (76, .iconst 1, 1), (77, .goto 4, 3), (80, .iconst 0, 1), (81, .istore 8, 2), (83, .iload 8, 2), (85, .ifCond .eq 21, 3), (88, .aload_n 0, 1), (89, .iload_n 3, 1), (90, .iload 5, 2), (92, .iload 6, 2), (94, .iconst 1, 1), (95, .iconst 0, 1), (96, .invokevirtual 146, 3), (99, .ifCond .le 7, 3), (102, .iconst 1, 1), (103, .goto 4, 3), (106, .iconst 0, 1), (107, .istore 4, 2), (109, .iinc 6 1, 3), (112, .goto (-101), 3), (115, .iload 4, 2), (117, .ireturn, 1)]
theorem dc_X7_hasAligned : dnL cX7_hasAligned dl_X7_hasAligned = true := by decide +kernel
theorem d_X7_hasAligned_0 : dn cX7_hasAligned 0 (.iconst 0) 1 1 := dnAt dc_X7_hasAligned 0 rfl rfl
theorem d_X7_hasAligned_1 : dn cX7_hasAligned 1 (.istore 4) 2 3 := dnAt dc_X7_hasAligned 1 rfl rfl
theorem d_X7_hasAligned_3 : dn cX7_hasAligned 3 (.iconst 1) 1 4 := dnAt dc_X7_hasAligned 2 rfl rfl
theorem d_X7_hasAligned_4 : dn cX7_hasAligned 4 (.iload_n 1) 1 5 := dnAt dc_X7_hasAligned 3 rfl rfl
theorem d_X7_hasAligned_5 : dn cX7_hasAligned 5 (.isub) 1 6 := dnAt dc_X7_hasAligned 4 rfl rfl
theorem d_X7_hasAligned_6 : dn cX7_hasAligned 6 (.istore 5) 2 8 := dnAt dc_X7_hasAligned 5 rfl rfl
theorem d_X7_hasAligned_8 : dn cX7_hasAligned 8 (.iconst 0) 1 9 := dnAt dc_X7_hasAligned 6 rfl rfl
theorem d_X7_hasAligned_9 : dn cX7_hasAligned 9 (.istore 6) 2 11 := dnAt dc_X7_hasAligned 7 rfl rfl
theorem d_X7_hasAligned_11 : dn cX7_hasAligned 11 (.iload 6) 2 13 := dnAt dc_X7_hasAligned 8 rfl rfl
theorem d_X7_hasAligned_13 : dn cX7_hasAligned 13 (.aload_n 0) 1 14 := dnAt dc_X7_hasAligned 9 rfl rfl
theorem d_X7_hasAligned_14 : dn cX7_hasAligned 14 (.getfield 7) 3 17 := dnAt dc_X7_hasAligned 10 rfl rfl
theorem d_X7_hasAligned_17 : dn cX7_hasAligned 17 (.iload 5) 2 19 := dnAt dc_X7_hasAligned 11 rfl rfl
theorem d_X7_hasAligned_19 : dn cX7_hasAligned 19 (.iaload) 1 20 := dnAt dc_X7_hasAligned 12 rfl rfl
theorem d_X7_hasAligned_20 : dn cX7_hasAligned 20 (.if_icmp .ge 95) 3 23 := dnAt dc_X7_hasAligned 13 rfl rfl
theorem d_X7_hasAligned_23 : dn cX7_hasAligned 23 (.iload 4) 2 25 := dnAt dc_X7_hasAligned 14 rfl rfl
theorem d_X7_hasAligned_25 : dn cX7_hasAligned 25 (.ifCond .ne 90) 3 28 := dnAt dc_X7_hasAligned 15 rfl rfl
theorem d_X7_hasAligned_28 : dn cX7_hasAligned 28 (.aload_n 0) 1 29 := dnAt dc_X7_hasAligned 16 rfl rfl
theorem d_X7_hasAligned_29 : dn cX7_hasAligned 29 (.getfield 16) 3 32 := dnAt dc_X7_hasAligned 17 rfl rfl
theorem d_X7_hasAligned_32 : dn cX7_hasAligned 32 (.bipush 40) 2 34 := dnAt dc_X7_hasAligned 18 rfl rfl
theorem d_X7_hasAligned_34 : dn cX7_hasAligned 34 (.iload 5) 2 36 := dnAt dc_X7_hasAligned 19 rfl rfl
theorem d_X7_hasAligned_36 : dn cX7_hasAligned 36 (.imul) 1 37 := dnAt dc_X7_hasAligned 20 rfl rfl
theorem d_X7_hasAligned_37 : dn cX7_hasAligned 37 (.iload 6) 2 39 := dnAt dc_X7_hasAligned 21 rfl rfl
theorem d_X7_hasAligned_39 : dn cX7_hasAligned 39 (.iadd) 1 40 := dnAt dc_X7_hasAligned 22 rfl rfl
theorem d_X7_hasAligned_40 : dn cX7_hasAligned 40 (.iaload) 1 41 := dnAt dc_X7_hasAligned 23 rfl rfl
theorem d_X7_hasAligned_41 : dn cX7_hasAligned 41 (.istore 7) 2 43 := dnAt dc_X7_hasAligned 24 rfl rfl
theorem d_X7_hasAligned_43 : dn cX7_hasAligned 43 (.aload_n 0) 1 44 := dnAt dc_X7_hasAligned 25 rfl rfl
theorem d_X7_hasAligned_44 : dn cX7_hasAligned 44 (.getfield 29) 3 47 := dnAt dc_X7_hasAligned 26 rfl rfl
theorem d_X7_hasAligned_47 : dn cX7_hasAligned 47 (.iload_n 1) 1 48 := dnAt dc_X7_hasAligned 27 rfl rfl
theorem d_X7_hasAligned_48 : dn cX7_hasAligned 48 (.ifCond .ne 7) 3 51 := dnAt dc_X7_hasAligned 28 rfl rfl
theorem d_X7_hasAligned_51 : dn cX7_hasAligned 51 (.iload_n 2) 1 52 := dnAt dc_X7_hasAligned 29 rfl rfl
theorem d_X7_hasAligned_52 : dn cX7_hasAligned 52 (.goto 5) 3 55 := dnAt dc_X7_hasAligned 30 rfl rfl
theorem d_X7_hasAligned_55 : dn cX7_hasAligned 55 (.iload 7) 2 57 := dnAt dc_X7_hasAligned 31 rfl rfl
theorem d_X7_hasAligned_57 : dn cX7_hasAligned 57 (.laload) 1 58 := dnAt dc_X7_hasAligned 32 rfl rfl
theorem d_X7_hasAligned_58 : dn cX7_hasAligned 58 (.iload_n 1) 1 59 := dnAt dc_X7_hasAligned 33 rfl rfl
theorem d_X7_hasAligned_59 : dn cX7_hasAligned 59 (.ifCond .ne 8) 3 62 := dnAt dc_X7_hasAligned 34 rfl rfl
theorem d_X7_hasAligned_62 : dn cX7_hasAligned 62 (.iload 7) 2 64 := dnAt dc_X7_hasAligned 35 rfl rfl
theorem d_X7_hasAligned_64 : dn cX7_hasAligned 64 (.goto 4) 3 67 := dnAt dc_X7_hasAligned 36 rfl rfl
theorem d_X7_hasAligned_67 : dn cX7_hasAligned 67 (.iload_n 2) 1 68 := dnAt dc_X7_hasAligned 37 rfl rfl
theorem d_X7_hasAligned_68 : dn cX7_hasAligned 68 (.lshr) 1 69 := dnAt dc_X7_hasAligned 38 rfl rfl
theorem d_X7_hasAligned_69 : dn cX7_hasAligned 69 (.lconst 1) 1 70 := dnAt dc_X7_hasAligned 39 rfl rfl
theorem d_X7_hasAligned_70 : dn cX7_hasAligned 70 (.land) 1 71 := dnAt dc_X7_hasAligned 40 rfl rfl
theorem d_X7_hasAligned_71 : dn cX7_hasAligned 71 (.lconst 1) 1 72 := dnAt dc_X7_hasAligned 41 rfl rfl
theorem d_X7_hasAligned_72 : dn cX7_hasAligned 72 (.lcmp) 1 73 := dnAt dc_X7_hasAligned 42 rfl rfl
theorem d_X7_hasAligned_73 : dn cX7_hasAligned 73 (.ifCond .ne 7) 3 76 := dnAt dc_X7_hasAligned 43 rfl rfl
theorem d_X7_hasAligned_76 : dn cX7_hasAligned 76 (.iconst 1) 1 77 := dnAt dc_X7_hasAligned 44 rfl rfl
theorem d_X7_hasAligned_77 : dn cX7_hasAligned 77 (.goto 4) 3 80 := dnAt dc_X7_hasAligned 45 rfl rfl
theorem d_X7_hasAligned_80 : dn cX7_hasAligned 80 (.iconst 0) 1 81 := dnAt dc_X7_hasAligned 46 rfl rfl
theorem d_X7_hasAligned_81 : dn cX7_hasAligned 81 (.istore 8) 2 83 := dnAt dc_X7_hasAligned 47 rfl rfl
theorem d_X7_hasAligned_83 : dn cX7_hasAligned 83 (.iload 8) 2 85 := dnAt dc_X7_hasAligned 48 rfl rfl
theorem d_X7_hasAligned_85 : dn cX7_hasAligned 85 (.ifCond .eq 21) 3 88 := dnAt dc_X7_hasAligned 49 rfl rfl
theorem d_X7_hasAligned_88 : dn cX7_hasAligned 88 (.aload_n 0) 1 89 := dnAt dc_X7_hasAligned 50 rfl rfl
theorem d_X7_hasAligned_89 : dn cX7_hasAligned 89 (.iload_n 3) 1 90 := dnAt dc_X7_hasAligned 51 rfl rfl
theorem d_X7_hasAligned_90 : dn cX7_hasAligned 90 (.iload 5) 2 92 := dnAt dc_X7_hasAligned 52 rfl rfl
theorem d_X7_hasAligned_92 : dn cX7_hasAligned 92 (.iload 6) 2 94 := dnAt dc_X7_hasAligned 53 rfl rfl
theorem d_X7_hasAligned_94 : dn cX7_hasAligned 94 (.iconst 1) 1 95 := dnAt dc_X7_hasAligned 54 rfl rfl
theorem d_X7_hasAligned_95 : dn cX7_hasAligned 95 (.iconst 0) 1 96 := dnAt dc_X7_hasAligned 55 rfl rfl
theorem d_X7_hasAligned_96 : dn cX7_hasAligned 96 (.invokevirtual 146) 3 99 := dnAt dc_X7_hasAligned 56 rfl rfl
theorem d_X7_hasAligned_99 : dn cX7_hasAligned 99 (.ifCond .le 7) 3 102 := dnAt dc_X7_hasAligned 57 rfl rfl
theorem d_X7_hasAligned_102 : dn cX7_hasAligned 102 (.iconst 1) 1 103 := dnAt dc_X7_hasAligned 58 rfl rfl
theorem d_X7_hasAligned_103 : dn cX7_hasAligned 103 (.goto 4) 3 106 := dnAt dc_X7_hasAligned 59 rfl rfl
theorem d_X7_hasAligned_106 : dn cX7_hasAligned 106 (.iconst 0) 1 107 := dnAt dc_X7_hasAligned 60 rfl rfl
theorem d_X7_hasAligned_107 : dn cX7_hasAligned 107 (.istore 4) 2 109 := dnAt dc_X7_hasAligned 61 rfl rfl
theorem d_X7_hasAligned_109 : dn cX7_hasAligned 109 (.iinc 6 1) 3 112 := dnAt dc_X7_hasAligned 62 rfl rfl
theorem d_X7_hasAligned_112 : dn cX7_hasAligned 112 (.goto (-101)) 3 115 := dnAt dc_X7_hasAligned 63 rfl rfl
theorem d_X7_hasAligned_115 : dn cX7_hasAligned 115 (.iload 4) 2 117 := dnAt dc_X7_hasAligned 64 rfl rfl
theorem d_X7_hasAligned_117 : dn cX7_hasAligned 117 (.ireturn) 1 118 := dnAt dc_X7_hasAligned 65 rfl rfl
set_option maxHeartbeats 4000000 in
set_option maxRecDepth 100000 in
theorem m_hasAligned (S : mS) (f : Nat → Int32) (s its pat : Nat) (I : mCore S) (hs : s < 2) (hi : its < 40) (ht : pat < 21) : mC yX7_hasAligned cX7_hasAligned 9 (Option.some Jvm.ClassFile.FieldType.boolean) { frames := 4, cells := 0, slots := 0, locals := 109 } [.int (nI s), .int (nI its), .int (nI pat)] (sI S 19 f) (fun v9 T9 => v9 = some (.int (bI (mHas S s its pat))) ∧ ∃ f9, T9 = sI S 19 f9) := by
  refine mC.of (by decide) (Nat.le_of_ble_eq_true rfl) ?_
  intro G x q h0 C A TY
  show VM G x q h0 (sI S 19 f) 0 [(0, .ref (q 0)), (1, .int (nI s)), (2, .int (nI its)), (3, .int (nI pat))] []
  have i1 := I.1 (1 - s) (by omega)
  refine m_iconst C d_X7_hasAligned_0 (v := (bI false)) rfl ?_
  refine m_istore C d_X7_hasAligned_1 (lv' := [(4, .int (bI false)), (0, .ref (q 0)), (1, .int (nI s)), (2, .int (nI its)), (3, .int (nI pat))]) (by decide) rfl ?_
  refine m_iconst C d_X7_hasAligned_3 (v := (nI 1)) rfl ?_
  refine m_iload_n C d_X7_hasAligned_4 2 rfl ?_
  refine mn_isub C d_X7_hasAligned_5 (by omega) ?_
  refine m_istore C d_X7_hasAligned_6 (lv' := [(5, .int (nI (1 - s))), (4, .int (bI false)), (0, .ref (q 0)), (1, .int (nI s)), (2, .int (nI its)), (3, .int (nI pat))]) (by decide) rfl ?_
  refine m_iconst C d_X7_hasAligned_8 (v := (nI 0)) rfl ?_
  refine m_istore C d_X7_hasAligned_9 (lv' := [(6, .int (nI 0)), (5, .int (nI (1 - s))), (4, .int (bI false)), (0, .ref (q 0)), (1, .int (nI s)), (2, .int (nI its)), (3, .int (nI pat))]) (by decide) rfl ?_
  have loop_11 : ∀ (fuel : Nat) (k : Nat) (g : Nat → Int32), (k ≤ mN S 1 (1 - s)) → (41 - k) < fuel → VM G x q h0 (sI S 19 g) 11 [(0, .ref (q 0)), (1, .int (nI s)), (2, .int (nI its)), (3, .int (nI pat)), (4, .int (bI (haO (haF S s its pat) k))), (5, .int (nI (1 - s))), (6, .int (nI k))] [] := by
    intro fuel
    induction fuel with
    | zero => intro k g hk hf9; exact absurd hf9 (Nat.not_lt_zero _)
    | succ fuel ih_11 =>
      intro k g hk hf9
      refine m_iload C d_X7_hasAligned_11 6 rfl ?_
      refine m_aload_n C d_X7_hasAligned_13 0 rfl ?_
      refine m_get C d_X7_hasAligned_14 fd_RX7_7 (v := .ref (q 1)) rfl ?_
      refine m_iload C d_X7_hasAligned_17 5 rfl ?_
      refine m_ald C d_X7_hasAligned_19 (k := 1) (by decide) rfl (by show _ < 2; omega) (by decide) ?_
      refine m_st (st' := [.int (nI (mN S 1 (1 - s))), .int (nI k)]) rfl ?_
      refine mn_icmp_ge C d_X7_hasAligned_20 (tgt := 115) rfl (by omega) (by omega) (fun c_20 => ?_) (fun c_20 => ?_)
      · skip
        refine m_iload C d_X7_hasAligned_115 4 rfl ?_
        exact m_iret C A TY d_X7_hasAligned_117 (bI_nar _) (⟨by rw [mHas, show k = mN S 1 (1 - s) by omega], _, rfl⟩)
      · skip
        refine m_iload C d_X7_hasAligned_23 4 rfl ?_
        refine mb_if_ne C d_X7_hasAligned_25 (tgt := 115) rfl (fun c_25 => ?_) (fun c_25 => ?_)
        · skip
          refine m_iload C d_X7_hasAligned_115 4 rfl ?_
          exact m_iret C A TY d_X7_hasAligned_117 (bI_nar _) (⟨by rw [mHas, c_25]; exact congrArg (fun z => some (Value.int (bI z))) (by have := haO_mono c_25 (mN S 1 (1 - s) - k); rw [show k + (mN S 1 (1 - s) - k) = mN S 1 (1 - s) by omega] at this; exact this.symm), _, rfl⟩)
        · skip
          refine m_aload_n C d_X7_hasAligned_28 0 rfl ?_
          refine m_get C d_X7_hasAligned_29 fd_RX7_16 (v := .ref (q 3)) rfl ?_
          refine m_bipush C d_X7_hasAligned_32 (v := (nI 40)) rfl ?_
          refine m_iload C d_X7_hasAligned_34 5 rfl ?_
          refine mn_imul C d_X7_hasAligned_36 ?_
          refine m_iload C d_X7_hasAligned_37 6 rfl ?_
          refine mn_iadd C d_X7_hasAligned_39 ?_
          refine m_ald C d_X7_hasAligned_40 (k := 3) (by decide) rfl (by show _ < 80; omega) (by decide) ?_
          refine m_st (st' := [.int (nI (mN S 3 ((40 * (1 - s)) + k)))]) rfl ?_
          have hth : mN S 3 (40 * (1 - s) + k) < 40 := by have := I.2.2.1 (40 * (1 - s) + k) (by omega); omega
          refine m_istore C d_X7_hasAligned_41 (lv' := [(7, .int (nI (mN S 3 ((40 * (1 - s)) + k)))), (0, .ref (q 0)), (1, .int (nI s)), (2, .int (nI its)), (3, .int (nI pat)), (4, .int (bI (haO (haF S s its pat) k))), (5, .int (nI (1 - s))), (6, .int (nI k))]) (by decide) rfl ?_
          have join_57 : VM G x q h0 (sI S 19 g) 57 [(0, .ref (q 0)), (1, .int (nI s)), (2, .int (nI its)), (3, .int (nI pat)), (4, .int (bI (haO (haF S s its pat) k))), (5, .int (nI (1 - s))), (6, .int (nI k)), (7, .int (nI (mN S 3 (40 * (1 - s) + k))))] [.int (nI (if s = 0 then its else mN S 3 (40 * (1 - s) + k))), .ref (q 7)] := by
            have hix : (if s = 0 then its else mN S 3 (40 * (1 - s) + k)) < 40 := by split <;> omega
            refine m_lld C d_X7_hasAligned_57 (k := 7) (by decide) rfl (by show _ < 40; omega) (by decide) ?_
            refine m_st (st' := [.long (lN (mN S 7 (if s = 0 then its else mN S 3 (40 * (1 - s) + k))))]) rfl ?_
            have join_68 : VM G x q h0 (sI S 19 g) 68 [(0, .ref (q 0)), (1, .int (nI s)), (2, .int (nI its)), (3, .int (nI pat)), (4, .int (bI (haO (haF S s its pat) k))), (5, .int (nI (1 - s))), (6, .int (nI k)), (7, .int (nI (mN S 3 (40 * (1 - s) + k))))] [.int (nI (if s = 0 then mN S 3 (40 * (1 - s) + k) else its)), .long (lN (mN S 7 (if s = 0 then its else mN S 3 (40 * (1 - s) + k))))] := by
              refine mn_lshr C d_X7_hasAligned_68 (by have := I.2.2.2.2.1 (if s = 0 then its else mN S 3 (40 * (1 - s) + k)) hix; omega) (by split <;> omega) ?_
              have join_81 : VM G x q h0 (sI S 19 g) 81 [(0, .ref (q 0)), (1, .int (nI s)), (2, .int (nI its)), (3, .int (nI pat)), (4, .int (bI (haO (haF S s its pat) k))), (5, .int (nI (1 - s))), (6, .int (nI k)), (7, .int (nI (mN S 3 (40 * (1 - s) + k))))] [.int (bI (paB S s its k))] := by
                refine m_istore C d_X7_hasAligned_81 (lv' := [(8, .int (bI (paB S s its k))), (0, .ref (q 0)), (1, .int (nI s)), (2, .int (nI its)), (3, .int (nI pat)), (4, .int (bI (haO (haF S s its pat) k))), (5, .int (nI (1 - s))), (6, .int (nI k)), (7, .int (nI (mN S 3 (40 * (1 - s) + k))))]) (by decide) rfl ?_
                have join_107 : ∀ (g2 : Nat → Int32), VM G x q h0 (sI S 19 g2) 107 [(0, .ref (q 0)), (1, .int (nI s)), (2, .int (nI its)), (3, .int (nI pat)), (5, .int (nI (1 - s))), (6, .int (nI k))] [.int (bI (haO (haF S s its pat) (k + 1)))] := by
                  intro g2
                  refine m_istore C d_X7_hasAligned_107 (lv' := [(4, .int (bI (haO (haF S s its pat) (k + 1)))), (0, .ref (q 0)), (1, .int (nI s)), (2, .int (nI its)), (3, .int (nI pat)), (5, .int (nI (1 - s))), (6, .int (nI k))]) (by decide) rfl ?_
                  refine mn_iinc C d_X7_hasAligned_109 (lv' := [(6, .int (nI (k + 1))), (4, .int (bI (haO (haF S s its pat) (k + 1)))), (0, .ref (q 0)), (1, .int (nI s)), (2, .int (nI its)), (3, .int (nI pat)), (5, .int (nI (1 - s)))]) 6 rfl (nI_inc _ rfl) (by decide) rfl ?_
                  refine m_goto C d_X7_hasAligned_112 (tgt := 11) rfl ?_
                  refine m_lv (lv' := [(0, .ref (q 0)), (1, .int (nI s)), (2, .int (nI its)), (3, .int (nI pat)), (4, .int (bI (haO (haF S s its pat) (k + 1)))), (5, .int (nI (1 - s))), (6, .int (nI (k + 1)))]) [2, 3, 4, 5, 1, 6, 0] rfl ?_
                  exact ih_11 (k + 1) g2 (by omega) (by omega)
                refine m_iload C d_X7_hasAligned_83 0 rfl ?_
                refine mb_if_eq C d_X7_hasAligned_85 (tgt := 106) rfl (fun c_85 => ?_) (fun c_85 => ?_)
                · skip
                  refine m_iconst C d_X7_hasAligned_106 (v := (bI false)) rfl ?_
                  refine m_lv (lv' := [(0, .ref (q 0)), (1, .int (nI s)), (2, .int (nI its)), (3, .int (nI pat)), (5, .int (nI (1 - s))), (6, .int (nI k))]) [1, 2, 3, 4, 6, 7] rfl ?_
                  refine m_st (st' := [.int (bI (haO (haF S s its pat) (k + 1)))]) (by rw [haO, c_25, haF, c_85]; rfl) ?_
                  exact join_107 g 
                · skip
                  refine m_aload_n C d_X7_hasAligned_88 1 rfl ?_
                  refine m_iload_n C d_X7_hasAligned_89 4 rfl ?_
                  refine m_iload C d_X7_hasAligned_90 6 rfl ?_
                  refine m_iload C d_X7_hasAligned_92 7 rfl ?_
                  refine m_iconst C d_X7_hasAligned_94 (v := (nI 1)) rfl ?_
                  refine m_iconst C d_X7_hasAligned_95 (v := (bI false)) rfl ?_
                  refine m_callV C d_X7_hasAligned_96 ok_RX7_146 (m_longest S g pat (1 - s) k 1 false I ht (by omega) c_20 (by omega)) rfl (rest := []) rfl rfl (Nat.le_of_ble_eq_true rfl) ⟨⟨by decide, by decide⟩, by decide, by decide⟩ (fun v9 T9 e9 => ?_)
                  obtain ⟨rfl, f9, rfl⟩ := e9
                  show VM G x q h0 (sI S 19 f9) 99 [(8, .int (bI (paB S s its k))), (0, .ref (q 0)), (1, .int (nI s)), (2, .int (nI its)), (3, .int (nI pat)), (4, .int (bI (haO (haF S s its pat) k))), (5, .int (nI (1 - s))), (6, .int (nI k)), (7, .int (nI (mN S 3 (40 * (1 - s) + k))))] [.int (nI (mLong S pat (1 - s) k 1 false))]
                  refine mn_if_le C d_X7_hasAligned_99 (tgt := 106) rfl (by have := mLong_le I (pat := pat) (s := 1 - s) (p := k) (bd := 1) (L := false) ht; omega) (fun c_99 => ?_) (fun c_99 => ?_)
                  · skip
                    refine m_iconst C d_X7_hasAligned_106 (v := (bI false)) rfl ?_
                    refine m_lv (lv' := [(0, .ref (q 0)), (1, .int (nI s)), (2, .int (nI its)), (3, .int (nI pat)), (5, .int (nI (1 - s))), (6, .int (nI k))]) [1, 2, 3, 4, 6, 7] rfl ?_
                    refine m_st (st' := [.int (bI (haO (haF S s its pat) (k + 1)))]) (by rw [haO, c_25, haF, c_85, decide_eq_false (by omega)]; rfl) ?_
                    exact join_107 f9 
                  · skip
                    refine m_iconst C d_X7_hasAligned_102 (v := (bI true)) rfl ?_
                    refine m_goto C d_X7_hasAligned_103 (tgt := 107) rfl ?_
                    refine m_lv (lv' := [(0, .ref (q 0)), (1, .int (nI s)), (2, .int (nI its)), (3, .int (nI pat)), (5, .int (nI (1 - s))), (6, .int (nI k))]) [1, 2, 3, 4, 6, 7] rfl ?_
                    refine m_st (st' := [.int (bI (haO (haF S s its pat) (k + 1)))]) (by rw [haO, c_25, haF, c_85, decide_eq_true c_99]; rfl) ?_
                    exact join_107 f9 
              refine m_lconst C d_X7_hasAligned_69 (v := (lN 1)) rfl ?_
              refine mn_land C d_X7_hasAligned_70 ?_
              refine m_st (st' := [.long (lN (mN S 7 (if s = 0 then its else mN S 3 (40 * (1 - s) + k)) / 2 ^ (if s = 0 then mN S 3 (40 * (1 - s) + k) else its) % 2))]) (by rw [and1]) ?_
              refine m_lconst C d_X7_hasAligned_71 (v := (lN 1)) rfl ?_
              refine mn_lcmp C d_X7_hasAligned_72 (by omega) (by omega) ?_
              refine m_if_ne C d_X7_hasAligned_73 (tgt := 80) rfl (fun c_73 => ?_) (fun c_73 => ?_)
              · skip
                have c9 : ¬ mN S 7 (if s = 0 then its else mN S 3 (40 * (1 - s) + k)) / 2 ^ (if s = 0 then mN S 3 (40 * (1 - s) + k) else its) % 2 = 1 := fun z => c_73 ((lcmp_0 (by omega) (by omega)).mpr z)
                refine m_iconst C d_X7_hasAligned_80 (v := (bI false)) rfl ?_
                refine m_st (st' := [.int (bI (paB S s its k))]) (by rw [paB, decide_eq_false c9]) ?_
                exact join_81  
              · skip
                have c9 : mN S 7 (if s = 0 then its else mN S 3 (40 * (1 - s) + k)) / 2 ^ (if s = 0 then mN S 3 (40 * (1 - s) + k) else its) % 2 = 1 := (lcmp_0 (by omega) (by omega)).mp (Classical.not_not.mp c_73)
                refine m_iconst C d_X7_hasAligned_76 (v := (bI true)) rfl ?_
                refine m_goto C d_X7_hasAligned_77 (tgt := 81) rfl ?_
                refine m_st (st' := [.int (bI (paB S s its k))]) (by rw [paB, decide_eq_true c9]) ?_
                exact join_81  
            refine m_iload_n C d_X7_hasAligned_58 1 rfl ?_
            refine mn_if_ne C d_X7_hasAligned_59 (tgt := 67) rfl (by omega) (fun c_59 => ?_) (fun c_59 => ?_)
            · skip
              refine m_iload_n C d_X7_hasAligned_67 2 rfl ?_
              refine m_st (st' := [.int (nI (if s = 0 then mN S 3 (40 * (1 - s) + k) else its)), .long (lN (mN S 7 (if s = 0 then its else mN S 3 (40 * (1 - s) + k))))]) (by simp [show ¬ s = 0 by omega]) ?_
              exact join_68  
            · skip
              refine m_iload C d_X7_hasAligned_62 7 rfl ?_
              refine m_goto C d_X7_hasAligned_64 (tgt := 68) rfl ?_
              refine m_st (st' := [.int (nI (if s = 0 then mN S 3 (40 * (1 - s) + k) else its)), .long (lN (mN S 7 (if s = 0 then its else mN S 3 (40 * (1 - s) + k))))]) (by simp [c_59]) ?_
              exact join_68  
          refine m_aload_n C d_X7_hasAligned_43 1 rfl ?_
          refine m_get C d_X7_hasAligned_44 fd_RX7_29 (v := .ref (q 7)) rfl ?_
          refine m_iload_n C d_X7_hasAligned_47 2 rfl ?_
          refine mn_if_ne C d_X7_hasAligned_48 (tgt := 55) rfl (by omega) (fun c_48 => ?_) (fun c_48 => ?_)
          · skip
            refine m_iload C d_X7_hasAligned_55 0 rfl ?_
            refine m_lv (lv' := [(0, .ref (q 0)), (1, .int (nI s)), (2, .int (nI its)), (3, .int (nI pat)), (4, .int (bI (haO (haF S s its pat) k))), (5, .int (nI (1 - s))), (6, .int (nI k)), (7, .int (nI (mN S 3 ((40 * (1 - s)) + k))))]) [1, 2, 3, 4, 5, 6, 7, 0] rfl ?_
            refine m_lve (lv' := [(0, .ref (q 0)), (1, .int (nI s)), (2, .int (nI its)), (3, .int (nI pat)), (4, .int (bI (haO (haF S s its pat) k))), (5, .int (nI (1 - s))), (6, .int (nI k)), (7, .int (nI (mN S 3 (40 * (1 - s) + k))))]) (rfl) ?_
            refine m_st (st' := [.int (nI (if s = 0 then its else mN S 3 (40 * (1 - s) + k))), .ref (q 7)]) (by rw [if_neg (by omega)]) ?_
            exact join_57  
          · skip
            refine m_iload_n C d_X7_hasAligned_51 3 rfl ?_
            refine m_goto C d_X7_hasAligned_52 (tgt := 57) rfl ?_
            refine m_lv (lv' := [(0, .ref (q 0)), (1, .int (nI s)), (2, .int (nI its)), (3, .int (nI pat)), (4, .int (bI (haO (haF S s its pat) k))), (5, .int (nI (1 - s))), (6, .int (nI k)), (7, .int (nI (mN S 3 ((40 * (1 - s)) + k))))]) [1, 2, 3, 4, 5, 6, 7, 0] rfl ?_
            refine m_lve (lv' := [(0, .ref (q 0)), (1, .int (nI s)), (2, .int (nI its)), (3, .int (nI pat)), (4, .int (bI (haO (haF S s its pat) k))), (5, .int (nI (1 - s))), (6, .int (nI k)), (7, .int (nI (mN S 3 (40 * (1 - s) + k))))]) (rfl) ?_
            refine m_st (st' := [.int (nI (if s = 0 then its else mN S 3 (40 * (1 - s) + k))), .ref (q 7)]) (by rw [if_pos c_48]) ?_
            exact join_57  
  refine m_lv (lv' := [(0, .ref (q 0)), (1, .int (nI s)), (2, .int (nI its)), (3, .int (nI pat)), (4, .int (bI false)), (5, .int (nI (1 - s))), (6, .int (nI 0))]) [3, 4, 5, 6, 2, 1, 0] rfl ?_
  refine m_lve (lv' := [(0, .ref (q 0)), (1, .int (nI s)), (2, .int (nI its)), (3, .int (nI pat)), (4, .int (bI (haO (haF S s its pat) 0))), (5, .int (nI (1 - s))), (6, .int (nI 0))]) (rfl) ?_
  exact loop_11 _ 0 f (by omega) (Nat.lt_succ_self _)
def dl_X7_aligned : List (Nat × Instr × Nat) := [(0, .aload_n 0, 1), (1, .aload_n 0, 1), (2, .iload_n 1, 1), (3, .invokevirtual 153, 3), (6, .ifCond .eq 15, 3), (9, .aload_n 0, 1), (10, .iload_n 2, 1), (11, .invokevirtual 140, 3), (14, .ifCond .eq 7, 3), (17, .iconst 0, 1), (18, .goto 4, 3), (21, .iconst 1, 1), (22, .invokevirtual 84, 3), (25, .ifCond .ne 5, 3), (28, .iconst 0, 1), (29, .ireturn, 1), (30, .aload_n 0, 1), (31, .getfield 63, 3), (34, .iload_n 1, 1), (35, .iaload, 1), (36, .istore 4, 2), (38, .iconst 0, 1), (39, .istore 5, 2), (41, .iload 5, 2), (43, .bipush 40, 2), (45, .if_icmp .ge 88, 3), (48, .aload_n 0, 1), (49, .getfield 66, 3), (52, .bipush 40, 2), (54, .iload_n 1, 1), (55, .imul, 1), (56, .iload 5, 2), (58, .iadd, 1), (59, .iaload, 1), (60, .ifCond .eq 31, 3), (63, .aload_n 0, 1), (64, .iload 4, 2), (66, .aload_n 0, 1), (67, .getfield 16, 3), (70, .bipush 40, 2), (72, .iload 4, 2), (74, .imul, 1), (75, .iload 5, 2), (77, .iadd, 1), (78, .iaload, 1), (79, .iload_n 2, 1), (80, .invokevirtual 156, 3), (83, .iload_n 3, 1), (84, .if_icmp .eq 7, 3), (87, .iconst 1, 1), (88, .goto 4, 3), (91, .iconst 0, 1), (92, .istore 6, 2), (94, .aload_n 0, 1), (95, .getfield 66, 3), (98, .bipush 40, 2), (100, .iload_n 1, 1), (101, .imul, 1), (102, .iload 5, 2), (104, .iadd, 1), (105, .iload 6, 2), (107, .ifCond .eq 18, 3), (110, .aload_n 0, 1), (111, .getfield 66, 3), (114, .bipush 40, 2), (116, .iload_n 1, 1), (117, .imul, 1), (118, .iload 5, 2), (120, .iadd, 1), (121, .iaload, 1), (122, .goto 4, 3), (125, .iconst 0, 1), (126, .iastore, 1), (127, .iinc 5 1, 3), (130, .goto (-89), 3), (133, .aload_n 0, 1), (134, .iload_n 1, 1), (135, .invokevirtual 150, 3), (138, .ireturn, 1)]
theorem dc_X7_aligned : dnL cX7_aligned dl_X7_aligned = true := by decide +kernel
theorem d_X7_aligned_0 : dn cX7_aligned 0 (.aload_n 0) 1 1 := dnAt dc_X7_aligned 0 rfl rfl
theorem d_X7_aligned_1 : dn cX7_aligned 1 (.aload_n 0) 1 2 := dnAt dc_X7_aligned 1 rfl rfl
theorem d_X7_aligned_2 : dn cX7_aligned 2 (.iload_n 1) 1 3 := dnAt dc_X7_aligned 2 rfl rfl
theorem d_X7_aligned_3 : dn cX7_aligned 3 (.invokevirtual 153) 3 6 := dnAt dc_X7_aligned 3 rfl rfl
theorem d_X7_aligned_6 : dn cX7_aligned 6 (.ifCond .eq 15) 3 9 := dnAt dc_X7_aligned 4 rfl rfl
theorem d_X7_aligned_9 : dn cX7_aligned 9 (.aload_n 0) 1 10 := dnAt dc_X7_aligned 5 rfl rfl
theorem d_X7_aligned_10 : dn cX7_aligned 10 (.iload_n 2) 1 11 := dnAt dc_X7_aligned 6 rfl rfl
theorem d_X7_aligned_11 : dn cX7_aligned 11 (.invokevirtual 140) 3 14 := dnAt dc_X7_aligned 7 rfl rfl
theorem d_X7_aligned_14 : dn cX7_aligned 14 (.ifCond .eq 7) 3 17 := dnAt dc_X7_aligned 8 rfl rfl
theorem d_X7_aligned_17 : dn cX7_aligned 17 (.iconst 0) 1 18 := dnAt dc_X7_aligned 9 rfl rfl
theorem d_X7_aligned_18 : dn cX7_aligned 18 (.goto 4) 3 21 := dnAt dc_X7_aligned 10 rfl rfl
theorem d_X7_aligned_21 : dn cX7_aligned 21 (.iconst 1) 1 22 := dnAt dc_X7_aligned 11 rfl rfl
theorem d_X7_aligned_22 : dn cX7_aligned 22 (.invokevirtual 84) 3 25 := dnAt dc_X7_aligned 12 rfl rfl
theorem d_X7_aligned_25 : dn cX7_aligned 25 (.ifCond .ne 5) 3 28 := dnAt dc_X7_aligned 13 rfl rfl
theorem d_X7_aligned_28 : dn cX7_aligned 28 (.iconst 0) 1 29 := dnAt dc_X7_aligned 14 rfl rfl
theorem d_X7_aligned_29 : dn cX7_aligned 29 (.ireturn) 1 30 := dnAt dc_X7_aligned 15 rfl rfl
theorem d_X7_aligned_30 : dn cX7_aligned 30 (.aload_n 0) 1 31 := dnAt dc_X7_aligned 16 rfl rfl
theorem d_X7_aligned_31 : dn cX7_aligned 31 (.getfield 63) 3 34 := dnAt dc_X7_aligned 17 rfl rfl
theorem d_X7_aligned_34 : dn cX7_aligned 34 (.iload_n 1) 1 35 := dnAt dc_X7_aligned 18 rfl rfl
theorem d_X7_aligned_35 : dn cX7_aligned 35 (.iaload) 1 36 := dnAt dc_X7_aligned 19 rfl rfl
theorem d_X7_aligned_36 : dn cX7_aligned 36 (.istore 4) 2 38 := dnAt dc_X7_aligned 20 rfl rfl
theorem d_X7_aligned_38 : dn cX7_aligned 38 (.iconst 0) 1 39 := dnAt dc_X7_aligned 21 rfl rfl
theorem d_X7_aligned_39 : dn cX7_aligned 39 (.istore 5) 2 41 := dnAt dc_X7_aligned 22 rfl rfl
theorem d_X7_aligned_41 : dn cX7_aligned 41 (.iload 5) 2 43 := dnAt dc_X7_aligned 23 rfl rfl
theorem d_X7_aligned_43 : dn cX7_aligned 43 (.bipush 40) 2 45 := dnAt dc_X7_aligned 24 rfl rfl
theorem d_X7_aligned_45 : dn cX7_aligned 45 (.if_icmp .ge 88) 3 48 := dnAt dc_X7_aligned 25 rfl rfl
theorem d_X7_aligned_48 : dn cX7_aligned 48 (.aload_n 0) 1 49 := dnAt dc_X7_aligned 26 rfl rfl
theorem d_X7_aligned_49 : dn cX7_aligned 49 (.getfield 66) 3 52 := dnAt dc_X7_aligned 27 rfl rfl
theorem d_X7_aligned_52 : dn cX7_aligned 52 (.bipush 40) 2 54 := dnAt dc_X7_aligned 28 rfl rfl
theorem d_X7_aligned_54 : dn cX7_aligned 54 (.iload_n 1) 1 55 := dnAt dc_X7_aligned 29 rfl rfl
theorem d_X7_aligned_55 : dn cX7_aligned 55 (.imul) 1 56 := dnAt dc_X7_aligned 30 rfl rfl
theorem d_X7_aligned_56 : dn cX7_aligned 56 (.iload 5) 2 58 := dnAt dc_X7_aligned 31 rfl rfl
theorem d_X7_aligned_58 : dn cX7_aligned 58 (.iadd) 1 59 := dnAt dc_X7_aligned 32 rfl rfl
theorem d_X7_aligned_59 : dn cX7_aligned 59 (.iaload) 1 60 := dnAt dc_X7_aligned 33 rfl rfl
theorem d_X7_aligned_60 : dn cX7_aligned 60 (.ifCond .eq 31) 3 63 := dnAt dc_X7_aligned 34 rfl rfl
theorem d_X7_aligned_63 : dn cX7_aligned 63 (.aload_n 0) 1 64 := dnAt dc_X7_aligned 35 rfl rfl
theorem d_X7_aligned_64 : dn cX7_aligned 64 (.iload 4) 2 66 := dnAt dc_X7_aligned 36 rfl rfl
theorem d_X7_aligned_66 : dn cX7_aligned 66 (.aload_n 0) 1 67 := dnAt dc_X7_aligned 37 rfl rfl
theorem d_X7_aligned_67 : dn cX7_aligned 67 (.getfield 16) 3 70 := dnAt dc_X7_aligned 38 rfl rfl
theorem d_X7_aligned_70 : dn cX7_aligned 70 (.bipush 40) 2 72 := dnAt dc_X7_aligned 39 rfl rfl
theorem d_X7_aligned_72 : dn cX7_aligned 72 (.iload 4) 2 74 := dnAt dc_X7_aligned 40 rfl rfl
theorem d_X7_aligned_74 : dn cX7_aligned 74 (.imul) 1 75 := dnAt dc_X7_aligned 41 rfl rfl
theorem d_X7_aligned_75 : dn cX7_aligned 75 (.iload 5) 2 77 := dnAt dc_X7_aligned 42 rfl rfl
theorem d_X7_aligned_77 : dn cX7_aligned 77 (.iadd) 1 78 := dnAt dc_X7_aligned 43 rfl rfl
theorem d_X7_aligned_78 : dn cX7_aligned 78 (.iaload) 1 79 := dnAt dc_X7_aligned 44 rfl rfl
theorem d_X7_aligned_79 : dn cX7_aligned 79 (.iload_n 2) 1 80 := dnAt dc_X7_aligned 45 rfl rfl
theorem d_X7_aligned_80 : dn cX7_aligned 80 (.invokevirtual 156) 3 83 := dnAt dc_X7_aligned 46 rfl rfl
theorem d_X7_aligned_83 : dn cX7_aligned 83 (.iload_n 3) 1 84 := dnAt dc_X7_aligned 47 rfl rfl
theorem d_X7_aligned_84 : dn cX7_aligned 84 (.if_icmp .eq 7) 3 87 := dnAt dc_X7_aligned 48 rfl rfl
theorem d_X7_aligned_87 : dn cX7_aligned 87 (.iconst 1) 1 88 := dnAt dc_X7_aligned 49 rfl rfl
theorem d_X7_aligned_88 : dn cX7_aligned 88 (.goto 4) 3 91 := dnAt dc_X7_aligned 50 rfl rfl
theorem d_X7_aligned_91 : dn cX7_aligned 91 (.iconst 0) 1 92 := dnAt dc_X7_aligned 51 rfl rfl
theorem d_X7_aligned_92 : dn cX7_aligned 92 (.istore 6) 2 94 := dnAt dc_X7_aligned 52 rfl rfl
theorem d_X7_aligned_94 : dn cX7_aligned 94 (.aload_n 0) 1 95 := dnAt dc_X7_aligned 53 rfl rfl
theorem d_X7_aligned_95 : dn cX7_aligned 95 (.getfield 66) 3 98 := dnAt dc_X7_aligned 54 rfl rfl
theorem d_X7_aligned_98 : dn cX7_aligned 98 (.bipush 40) 2 100 := dnAt dc_X7_aligned 55 rfl rfl
theorem d_X7_aligned_100 : dn cX7_aligned 100 (.iload_n 1) 1 101 := dnAt dc_X7_aligned 56 rfl rfl
theorem d_X7_aligned_101 : dn cX7_aligned 101 (.imul) 1 102 := dnAt dc_X7_aligned 57 rfl rfl
theorem d_X7_aligned_102 : dn cX7_aligned 102 (.iload 5) 2 104 := dnAt dc_X7_aligned 58 rfl rfl
theorem d_X7_aligned_104 : dn cX7_aligned 104 (.iadd) 1 105 := dnAt dc_X7_aligned 59 rfl rfl
theorem d_X7_aligned_105 : dn cX7_aligned 105 (.iload 6) 2 107 := dnAt dc_X7_aligned 60 rfl rfl
theorem d_X7_aligned_107 : dn cX7_aligned 107 (.ifCond .eq 18) 3 110 := dnAt dc_X7_aligned 61 rfl rfl
theorem d_X7_aligned_110 : dn cX7_aligned 110 (.aload_n 0) 1 111 := dnAt dc_X7_aligned 62 rfl rfl
theorem d_X7_aligned_111 : dn cX7_aligned 111 (.getfield 66) 3 114 := dnAt dc_X7_aligned 63 rfl rfl
theorem d_X7_aligned_114 : dn cX7_aligned 114 (.bipush 40) 2 116 := dnAt dc_X7_aligned 64 rfl rfl
theorem d_X7_aligned_116 : dn cX7_aligned 116 (.iload_n 1) 1 117 := dnAt dc_X7_aligned 65 rfl rfl
theorem d_X7_aligned_117 : dn cX7_aligned 117 (.imul) 1 118 := dnAt dc_X7_aligned 66 rfl rfl
theorem d_X7_aligned_118 : dn cX7_aligned 118 (.iload 5) 2 120 := dnAt dc_X7_aligned 67 rfl rfl
theorem d_X7_aligned_120 : dn cX7_aligned 120 (.iadd) 1 121 := dnAt dc_X7_aligned 68 rfl rfl
theorem d_X7_aligned_121 : dn cX7_aligned 121 (.iaload) 1 122 := dnAt dc_X7_aligned 69 rfl rfl
theorem d_X7_aligned_122 : dn cX7_aligned 122 (.goto 4) 3 125 := dnAt dc_X7_aligned 70 rfl rfl
theorem d_X7_aligned_125 : dn cX7_aligned 125 (.iconst 0) 1 126 := dnAt dc_X7_aligned 71 rfl rfl
theorem d_X7_aligned_126 : dn cX7_aligned 126 (.iastore) 1 127 := dnAt dc_X7_aligned 72 rfl rfl
theorem d_X7_aligned_127 : dn cX7_aligned 127 (.iinc 5 1) 3 130 := dnAt dc_X7_aligned 73 rfl rfl
theorem d_X7_aligned_130 : dn cX7_aligned 130 (.goto (-89)) 3 133 := dnAt dc_X7_aligned 74 rfl rfl
theorem d_X7_aligned_133 : dn cX7_aligned 133 (.aload_n 0) 1 134 := dnAt dc_X7_aligned 75 rfl rfl
theorem d_X7_aligned_134 : dn cX7_aligned 134 (.iload_n 1) 1 135 := dnAt dc_X7_aligned 76 rfl rfl
theorem d_X7_aligned_135 : dn cX7_aligned 135 (.invokevirtual 150) 3 138 := dnAt dc_X7_aligned 77 rfl rfl
theorem d_X7_aligned_138 : dn cX7_aligned 138 (.ireturn) 1 139 := dnAt dc_X7_aligned 78 rfl rfl
set_option maxHeartbeats 4000000 in
set_option maxRecDepth 100000 in
theorem m_aligned (S : mS) (r pat : Int32) (nn : Bool) (I : mInv S) : mC yX7_aligned cX7_aligned 7 (Option.some Jvm.ClassFile.FieldType.int) { frames := 5, cells := 0, slots := 0, locals := 137 } [.int r, .int pat, .int (bI nn)] S (fun v9 T9 => v9 = some (.int (nI (rAl S r pat nn))) ∧ ∃ f9, T9 = sI (tAl S r pat nn) 19 f9) := by
  refine mC.of (by decide) (Nat.le_of_ble_eq_true rfl) ?_
  intro G x q h0 C A TY
  show VM G x q h0 S 0 [(0, .ref (q 0)), (1, .int r), (2, .int pat), (3, .int (bI nn))] []
  refine m_aload_n C d_X7_aligned_0 0 rfl ?_
  have join_22 : VM G x q h0 S 22 [(0, .ref (q 0)), (1, .int r), (2, .int pat), (3, .int (bI nn))] [.int (nI (cAl S r pat)), .ref (q 0)] := by
    refine m_callV C d_X7_aligned_22 ok_RX7_84 (m_holds S (cAl S r pat) (by unfold cAl; split <;> omega)) rfl (rest := []) rfl rfl (Nat.le_of_ble_eq_true rfl) ⟨⟨by decide, by decide⟩, by decide, by decide⟩ (fun v9 T9 e9 => ?_)
    obtain ⟨rfl, e9⟩ := e9
    refine m_eq e9 ?_
    show VM G x q h0 (uK S 0 (cAl S r pat)) 25 [(0, .ref (q 0)), (1, .int r), (2, .int pat), (3, .int (bI nn))] [.int (bI (decide (cAl S r pat = 0)))]
    refine mb_if_ne C d_X7_aligned_25 (tgt := 30) rfl (fun c_25 => ?_) (fun c_25 => ?_)
    · skip
      have c0 := of_decide_eq_true c_25
      obtain ⟨e1, e2, e3, e4, e5⟩ := cAl_0 I c0
      have i1 := pats_le I
      have hsd := sdR_lt S (tn r)
      have hse := sdR_of I e2 e3
      rw [c0]
      refine m_lve (lv' := [(0, .ref (q 0)), (1, .int (nI (tn r))), (2, .int (nI (tn pat))), (3, .int (bI nn))]) (by rw [← e1, ← e4]) ?_
      refine m_aload_n C d_X7_aligned_30 0 rfl ?_
      refine m_get C d_X7_aligned_31 fd_RX7_63 (v := .ref (q 20)) rfl ?_
      refine m_iload_n C d_X7_aligned_34 1 rfl ?_
      refine m_aldI C d_X7_aligned_35 (k := 20) (by decide) rfl (by show _ < 8; omega) (by decide) ?_
      refine m_st (st' := [.int (mI S 20 (tn r))]) rfl ?_
      refine m_st (st' := [.int (nI (sdR S (tn r)))]) (by rw [hse]) ?_
      refine m_istore C d_X7_aligned_36 (lv' := [(4, .int (nI (sdR S (tn r)))), (0, .ref (q 0)), (1, .int (nI (tn r))), (2, .int (nI (tn pat))), (3, .int (bI nn))]) (by decide) rfl ?_
      refine m_iconst C d_X7_aligned_38 (v := (nI 0)) rfl ?_
      refine m_istore C d_X7_aligned_39 (lv' := [(5, .int (nI 0)), (4, .int (nI (sdR S (tn r)))), (0, .ref (q 0)), (1, .int (nI (tn r))), (2, .int (nI (tn pat))), (3, .int (bI nn))]) (by decide) rfl ?_
      have loop_41 : ∀ (fuel : Nat) (k : Nat) (g : Nat → Int32), (k ≤ 40) → (41 - k) < fuel → VM G x q h0 (sI (alS S (tn r) (tn pat) nn k) 19 g) 41 [(0, .ref (q 0)), (1, .int (nI (tn r))), (2, .int (nI (tn pat))), (3, .int (bI nn)), (4, .int (nI (sdR S (tn r)))), (5, .int (nI k))] [] := by
        intro fuel
        induction fuel with
        | zero => intro k g hk hf9; exact absurd hf9 (Nat.not_lt_zero _)
        | succ fuel ih_41 =>
          intro k g hk hf9
          refine m_iload C d_X7_aligned_41 5 rfl ?_
          refine m_bipush C d_X7_aligned_43 (v := (nI 40)) rfl ?_
          refine mn_icmp_ge C d_X7_aligned_45 (tgt := 133) rfl (by omega) (by omega) (fun c_45 => ?_) (fun c_45 => ?_)
          · skip
            obtain rfl : k = 40 := by omega
            refine m_aload_n C d_X7_aligned_133 0 rfl ?_
            refine m_iload_n C d_X7_aligned_134 1 rfl ?_
            refine m_callV C d_X7_aligned_135 ok_RX7_150 (m_sizeOf (sI (alS S (tn r) (tn pat) nn 40) 19 g) (tn r) (by omega) (fun z hz => alF_lt I e2 hz)) rfl (rest := []) rfl rfl (Nat.le_of_ble_eq_true rfl) ⟨⟨by decide, by decide⟩, by decide, by decide⟩ (fun v9 T9 e9 => ?_)
            obtain ⟨rfl, e9⟩ := e9
            refine m_eq e9 ?_
            show VM G x q h0 (sI (alS S (tn r) (tn pat) nn 40) 19 g) 138 [(0, .ref (q 0)), (1, .int (nI (tn r))), (2, .int (nI (tn pat))), (3, .int (bI nn)), (4, .int (nI (sdR S (tn r)))), (5, .int (nI 40))] [.int (nI (mSize (alS S (tn r) (tn pat) nn 40) (tn r)))]
            exact m_iret C A TY d_X7_aligned_138 rfl (⟨by rw [rAl, if_pos c0, tAl, if_pos c0], _, by rw [tAl, if_pos c0]⟩)
          · skip
            have join_92 : ∀ (g2 : Nat → Int32), VM G x q h0 (sI (alS S (tn r) (tn pat) nn k) 19 g2) 92 [(0, .ref (q 0)), (1, .int (nI (tn r))), (2, .int (nI (tn pat))), (3, .int (bI nn)), (4, .int (nI (sdR S (tn r)))), (5, .int (nI k))] [.int (bI (alB S (tn r) (tn pat) nn k))] := by
              intro g2
              refine m_istore C d_X7_aligned_92 (lv' := [(6, .int (bI (alB S (tn r) (tn pat) nn k))), (0, .ref (q 0)), (1, .int (nI (tn r))), (2, .int (nI (tn pat))), (3, .int (bI nn)), (4, .int (nI (sdR S (tn r)))), (5, .int (nI k))]) (by decide) rfl ?_
              have join_126 : VM G x q h0 (sI (alS S (tn r) (tn pat) nn k) 19 g2) 126 [(0, .ref (q 0)), (1, .int (nI (tn r))), (2, .int (nI (tn pat))), (3, .int (bI nn)), (4, .int (nI (sdR S (tn r)))), (5, .int (nI k))] [.int (nI (alV S (tn r) (tn pat) nn k)), .int (nI (40 * tn r + k)), .ref (q 21)] := by
                refine m_ast C d_X7_aligned_126 (k := 21) (v := alV S (tn r) (tn pat) nn k) (by decide) rfl (by show _ < 320; omega) (by decide) ?_
                refine mn_iinc C d_X7_aligned_127 (lv' := [(5, .int (nI (k + 1))), (0, .ref (q 0)), (1, .int (nI (tn r))), (2, .int (nI (tn pat))), (3, .int (bI nn)), (4, .int (nI (sdR S (tn r))))]) 5 rfl (nI_inc _ rfl) (by decide) rfl ?_
                refine m_goto C d_X7_aligned_130 (tgt := 41) rfl ?_
                refine m_eq (S' := sI (alS S (tn r) (tn pat) nn (k + 1)) 19 g2) (al_step) ?_
                refine m_lv (lv' := [(0, .ref (q 0)), (1, .int (nI (tn r))), (2, .int (nI (tn pat))), (3, .int (bI nn)), (4, .int (nI (sdR S (tn r)))), (5, .int (nI (k + 1)))]) [1, 2, 3, 4, 5, 0] rfl ?_
                exact ih_41 (k + 1) g2 (by omega) (by omega)
              refine m_aload_n C d_X7_aligned_94 1 rfl ?_
              refine m_get C d_X7_aligned_95 fd_RX7_66 (v := .ref (q 21)) rfl ?_
              refine m_bipush C d_X7_aligned_98 (v := (nI 40)) rfl ?_
              refine m_iload_n C d_X7_aligned_100 2 rfl ?_
              refine mn_imul C d_X7_aligned_101 ?_
              refine m_iload C d_X7_aligned_102 6 rfl ?_
              refine mn_iadd C d_X7_aligned_104 ?_
              refine m_iload C d_X7_aligned_105 0 rfl ?_
              refine mb_if_eq C d_X7_aligned_107 (tgt := 125) rfl (fun c_107 => ?_) (fun c_107 => ?_)
              · skip
                refine m_iconst C d_X7_aligned_125 (v := (nI 0)) rfl ?_
                refine m_lv (lv' := [(0, .ref (q 0)), (1, .int (nI (tn r))), (2, .int (nI (tn pat))), (3, .int (bI nn)), (4, .int (nI (sdR S (tn r)))), (5, .int (nI k))]) [1, 2, 3, 4, 5, 6] rfl ?_
                refine m_st (st' := [.int (nI (alV S (tn r) (tn pat) nn k)), .int (nI (40 * tn r + k)), .ref (q 21)]) (by rw [alV, if_neg (by rw [c_107]; decide)]) ?_
                exact join_126  
              · skip
                refine m_aload_n C d_X7_aligned_110 1 rfl ?_
                refine m_get C d_X7_aligned_111 fd_RX7_66 (v := .ref (q 21)) rfl ?_
                refine m_bipush C d_X7_aligned_114 (v := (nI 40)) rfl ?_
                refine m_iload_n C d_X7_aligned_116 2 rfl ?_
                refine mn_imul C d_X7_aligned_117 ?_
                refine m_iload C d_X7_aligned_118 6 rfl ?_
                refine mn_iadd C d_X7_aligned_120 ?_
                refine m_ald C d_X7_aligned_121 (k := 21) (by decide) rfl (by show _ < 320; omega) (by decide) ?_
                refine m_st (st' := [.int (nI (mN (alS S (tn r) (tn pat) nn k) 21 ((40 * (tn r)) + k))), .int (nI ((40 * (tn r)) + k)), .ref (q 21)]) rfl ?_
                refine m_st (st' := [.int (nI (mN S 21 (40 * tn r + k))), .int (nI ((40 * (tn r)) + k)), .ref (q 21)]) (by rw [al_r]) ?_
                refine m_goto C d_X7_aligned_122 (tgt := 126) rfl ?_
                refine m_lv (lv' := [(0, .ref (q 0)), (1, .int (nI (tn r))), (2, .int (nI (tn pat))), (3, .int (bI nn)), (4, .int (nI (sdR S (tn r)))), (5, .int (nI k))]) [1, 2, 3, 4, 5, 6] rfl ?_
                refine m_st (st' := [.int (nI (alV S (tn r) (tn pat) nn k)), .int (nI (40 * tn r + k)), .ref (q 21)]) (by rw [alV, if_pos c_107]) ?_
                exact join_126  
            refine m_aload_n C d_X7_aligned_48 0 rfl ?_
            refine m_get C d_X7_aligned_49 fd_RX7_66 (v := .ref (q 21)) rfl ?_
            refine m_bipush C d_X7_aligned_52 (v := (nI 40)) rfl ?_
            refine m_iload_n C d_X7_aligned_54 1 rfl ?_
            refine mn_imul C d_X7_aligned_55 ?_
            refine m_iload C d_X7_aligned_56 5 rfl ?_
            refine mn_iadd C d_X7_aligned_58 ?_
            refine m_ald C d_X7_aligned_59 (k := 21) (by decide) rfl (by show _ < 320; omega) (by decide) ?_
            refine m_st (st' := [.int (nI (mN (alS S (tn r) (tn pat) nn k) 21 ((40 * (tn r)) + k)))]) rfl ?_
            refine m_st (st' := [.int (nI (mN S 21 (40 * tn r + k)))]) (by rw [al_r]) ?_
            refine mn_if_eq C d_X7_aligned_60 (tgt := 91) rfl (by have := len_lt I (z := 40 * tn r + k) (by omega); omega) (fun c_60 => ?_) (fun c_60 => ?_)
            · skip
              refine m_iconst C d_X7_aligned_91 (v := (bI false)) rfl ?_
              refine m_st (st' := [.int (bI (alB S (tn r) (tn pat) nn k))]) (by rw [alB, decide_eq_true c_60]; rfl) ?_
              exact join_92 g 
            · skip
              refine m_aload_n C d_X7_aligned_63 0 rfl ?_
              refine m_iload C d_X7_aligned_64 4 rfl ?_
              refine m_aload_n C d_X7_aligned_66 0 rfl ?_
              refine m_get C d_X7_aligned_67 fd_RX7_16 (v := .ref (q 3)) rfl ?_
              refine m_bipush C d_X7_aligned_70 (v := (nI 40)) rfl ?_
              refine m_iload C d_X7_aligned_72 4 rfl ?_
              refine mn_imul C d_X7_aligned_74 ?_
              refine m_iload C d_X7_aligned_75 5 rfl ?_
              refine mn_iadd C d_X7_aligned_77 ?_
              refine m_ald C d_X7_aligned_78 (k := 3) (by decide) rfl (by show _ < 80; omega) (by decide) ?_
              refine m_st (st' := [.int (nI (mN S 3 ((40 * (sdR S (tn r))) + k))), .int (nI (sdR S (tn r))), .ref (q 0)]) rfl ?_
              refine m_iload_n C d_X7_aligned_79 2 rfl ?_
              refine m_callV C d_X7_aligned_80 ok_RX7_156 (m_hasAligned (alS S (tn r) (tn pat) nn k) g (sdR S (tn r)) (mN S 3 (40 * sdR S (tn r) + k)) (tn pat) I.core (by omega) (by have := I.2.2.1 (40 * sdR S (tn r) + k) (by omega); omega) (by omega)) rfl (rest := []) rfl rfl (Nat.le_of_ble_eq_true rfl) ⟨⟨by decide, by decide⟩, by decide, by decide⟩ (fun v9 T9 e9 => ?_)
              obtain ⟨rfl, f9, rfl⟩ := e9
              show VM G x q h0 (sI (alS S (tn r) (tn pat) nn k) 19 f9) 83 [(0, .ref (q 0)), (1, .int (nI (tn r))), (2, .int (nI (tn pat))), (3, .int (bI nn)), (4, .int (nI (sdR S (tn r)))), (5, .int (nI k))] [.int (bI (mHas (alS S (tn r) (tn pat) nn k) (sdR S (tn r)) (mN S 3 (40 * sdR S (tn r) + k)) (tn pat)))]
              refine m_st (st' := [.int (bI (mHas S (sdR S (tn r)) (mN S 3 (40 * sdR S (tn r) + k)) (tn pat)))]) (by rw [mHas_c (S := alS S (tn r) (tn pat) nn k) (T := S) ⟨⟨fun _ => rfl, fun _ => rfl, fun _ => rfl, fun _ => rfl, fun _ => rfl, fun _ => rfl, fun _ => rfl, fun _ => rfl, fun _ => rfl, fun _ => rfl⟩, fun _ => rfl⟩]) ?_
              refine m_iload_n C d_X7_aligned_83 3 rfl ?_
              refine m_icmp_eq C d_X7_aligned_84 (tgt := 91) rfl (fun c_84 => ?_) (fun c_84 => ?_)
              · skip
                have c9 := bI_inj.mp c_84
                refine m_iconst C d_X7_aligned_91 (v := (bI false)) rfl ?_
                refine m_st (st' := [.int (bI (alB S (tn r) (tn pat) nn k))]) (by rw [alB, decide_eq_false (by omega), decide_eq_true c9]; rfl) ?_
                exact join_92 f9 
              · skip
                have c9 := fun z => c_84 (bI_inj.mpr z)
                refine m_iconst C d_X7_aligned_87 (v := (bI true)) rfl ?_
                refine m_goto C d_X7_aligned_88 (tgt := 92) rfl ?_
                refine m_st (st' := [.int (bI (alB S (tn r) (tn pat) nn k))]) (by rw [alB, decide_eq_false (by omega), decide_eq_false c9]; rfl) ?_
                exact join_92 f9 
      refine m_eq (S' := sI (alS S (tn r) (tn pat) nn 0) 19 (fun z => mI S 19 z)) (al_init) ?_
      refine m_lv (lv' := [(0, .ref (q 0)), (1, .int (nI (tn r))), (2, .int (nI (tn pat))), (3, .int (bI nn)), (4, .int (nI (sdR S (tn r)))), (5, .int (nI 0))]) [2, 3, 4, 5, 1, 0] rfl ?_
      exact loop_41 _ 0 (fun z => mI S 19 z) (by omega) (Nat.lt_succ_self _)
    · skip
      have c1 := of_decide_eq_false c_25
      have c2 : cAl S r pat = 1 := by unfold cAl at c1 ⊢; split at c1 <;> first | omega | (rw [if_neg (by assumption)])
      rw [c2]
      refine m_iconst C d_X7_aligned_28 (v := (nI 0)) rfl ?_
      exact m_iret C A TY d_X7_aligned_29 rfl (⟨by rw [rAl, if_neg c1], fun z => mI S 19 z, by rw [tAl, if_neg c1]; exact sI_init (fun _ => rfl)⟩)
  refine m_aload_n C d_X7_aligned_1 0 rfl ?_
  refine m_iload_n C d_X7_aligned_2 1 rfl ?_
  refine m_callV C d_X7_aligned_3 ok_RX7_153 (m_isResult S r) rfl (rest := [.ref (q 0)]) rfl rfl (Nat.le_of_ble_eq_true rfl) ⟨⟨by decide, by decide⟩, by decide, by decide⟩ (fun v9 T9 e9 => ?_)
  obtain ⟨rfl, e9⟩ := e9
  refine m_eq e9 ?_
  show VM G x q h0 S 6 [(0, .ref (q 0)), (1, .int r), (2, .int pat), (3, .int (bI nn))] [.int (bI (mIsR S r)), .ref (q 0)]
  refine mb_if_eq C d_X7_aligned_6 (tgt := 21) rfl (fun c_6 => ?_) (fun c_6 => ?_)
  · skip
    refine m_iconst C d_X7_aligned_21 (v := (nI 1)) rfl ?_
    refine m_st (st' := [.int (nI (cAl S r pat)), .ref (q 0)]) (by rw [cAl, c_6]; rfl) ?_
    exact join_22  
  · skip
    refine m_aload_n C d_X7_aligned_9 0 rfl ?_
    refine m_iload_n C d_X7_aligned_10 2 rfl ?_
    refine m_callV C d_X7_aligned_11 ok_RX7_140 (m_isPattern S pat) rfl (rest := [.ref (q 0)]) rfl rfl (Nat.le_of_ble_eq_true rfl) ⟨⟨by decide, by decide⟩, by decide, by decide⟩ (fun v9 T9 e9 => ?_)
    obtain ⟨rfl, e9⟩ := e9
    refine m_eq e9 ?_
    show VM G x q h0 S 14 [(0, .ref (q 0)), (1, .int r), (2, .int pat), (3, .int (bI nn))] [.int (bI (inI pat (nI 0) (nI (mK S 15) - nI 1))), .ref (q 0)]
    refine mb_if_eq C d_X7_aligned_14 (tgt := 21) rfl (fun c_14 => ?_) (fun c_14 => ?_)
    · skip
      refine m_iconst C d_X7_aligned_21 (v := (nI 1)) rfl ?_
      refine m_st (st' := [.int (nI (cAl S r pat)), .ref (q 0)]) (by rw [cAl, mIsP, c_6, c_14]; rfl) ?_
      exact join_22  
    · skip
      refine m_iconst C d_X7_aligned_17 (v := (nI 0)) rfl ?_
      refine m_goto C d_X7_aligned_18 (tgt := 22) rfl ?_
      refine m_st (st' := [.int (nI (cAl S r pat)), .ref (q 0)]) (by rw [cAl, mIsP, c_6, c_14]; rfl) ?_
      exact join_22  
def dl_X7_match : List (Nat × Instr × Nat) := [(0, .aload_n 0, 1), (1, .iload_n 1, 1), (2, .invokevirtual 153, 3), (5, .istore_n 3, 1), (6, .aload_n 0, 1), (7, .iload_n 3, 1), (8, .ifCond .eq 22, 3), (11, .iload_n 2, 1), (12, .iconst 0, 1), (13, .aload_n 0, 1), (14, .iload_n 1, 1), (15, .invokevirtual 150, 3), (18, .iconst 1, 1), (19, .isub, 1), (20, .invokestatic 76, 3), (23, .ifCond .eq 7, 3), (26, .iconst 0, 1), (27, .goto 4, 3), (30, .iconst 1, 1), (31, .invokevirtual 84, 3), (34, .ifCond .ne 5, 3), (37, .iconst 0, 1), (38, .ireturn, 1), (39, .iload_n 2, 1), (40, .istore 4, 2), (42, .iconst 0, 1), (43, .istore 5, 2), (45, .iconst 0, 1), (46, .istore 6, 2), (48, .iload 6, 2), (50, .sipush 360, 3), (53, .if_icmp .ge 89, 3), (56, .aload_n 0, 1), (57, .getfield 66, 3), (60, .bipush 40, 2), (62, .iload_n 1, 1), (63, .imul, 1), (64, .iload 6, 2), (66, .bipush 9, 2), (68, .idiv, 1), (69, .iadd, 1), (70, .iaload, 1), (71, .iload 6, 2), (73, .bipush 9, 2), (75, .irem, 1), (76, .ishr, 1), (77, .iconst 1, 1), (78, .iand, 1), (79, .iconst 1, 1), (80, .if_icmp .ne 7, 3), (83, .iconst 1, 1), (84, .goto 4, 3), (87, .iconst 0, 1), (88, .istore 7, 2), (90, .iload 7, 2), (92, .ifCond .eq 25, 3), (95, .iload 4, 2), (97, .ifCond .ne 20, 3), (100, .bipush 100, 2), (102, .iload 6, 2), (104, .bipush 9, 2), (106, .idiv, 1), (107, .imul, 1), (108, .iload 6, 2), (110, .bipush 9, 2), (112, .irem, 1), (113, .iadd, 1), (114, .goto 5, 3), (117, .iload 5, 2), (119, .istore 5, 2), (121, .iload 4, 2), (123, .iload 7, 2), (125, .ifCond .eq 7, 3), (128, .iconst 1, 1), (129, .goto 4, 3), (132, .iconst 0, 1), (133, .isub, 1), (134, .istore 4, 2), (136, .iinc 6 1, 3), (139, .goto (-91), 3), (142, .iload 5, 2), (144, .ireturn, 1)]
theorem dc_X7_match : dnL cX7_match dl_X7_match = true := by decide +kernel
theorem d_X7_match_0 : dn cX7_match 0 (.aload_n 0) 1 1 := dnAt dc_X7_match 0 rfl rfl
theorem d_X7_match_1 : dn cX7_match 1 (.iload_n 1) 1 2 := dnAt dc_X7_match 1 rfl rfl
theorem d_X7_match_2 : dn cX7_match 2 (.invokevirtual 153) 3 5 := dnAt dc_X7_match 2 rfl rfl
theorem d_X7_match_5 : dn cX7_match 5 (.istore_n 3) 1 6 := dnAt dc_X7_match 3 rfl rfl
theorem d_X7_match_6 : dn cX7_match 6 (.aload_n 0) 1 7 := dnAt dc_X7_match 4 rfl rfl
theorem d_X7_match_7 : dn cX7_match 7 (.iload_n 3) 1 8 := dnAt dc_X7_match 5 rfl rfl
theorem d_X7_match_8 : dn cX7_match 8 (.ifCond .eq 22) 3 11 := dnAt dc_X7_match 6 rfl rfl
theorem d_X7_match_11 : dn cX7_match 11 (.iload_n 2) 1 12 := dnAt dc_X7_match 7 rfl rfl
theorem d_X7_match_12 : dn cX7_match 12 (.iconst 0) 1 13 := dnAt dc_X7_match 8 rfl rfl
theorem d_X7_match_13 : dn cX7_match 13 (.aload_n 0) 1 14 := dnAt dc_X7_match 9 rfl rfl
theorem d_X7_match_14 : dn cX7_match 14 (.iload_n 1) 1 15 := dnAt dc_X7_match 10 rfl rfl
theorem d_X7_match_15 : dn cX7_match 15 (.invokevirtual 150) 3 18 := dnAt dc_X7_match 11 rfl rfl
theorem d_X7_match_18 : dn cX7_match 18 (.iconst 1) 1 19 := dnAt dc_X7_match 12 rfl rfl
theorem d_X7_match_19 : dn cX7_match 19 (.isub) 1 20 := dnAt dc_X7_match 13 rfl rfl
theorem d_X7_match_20 : dn cX7_match 20 (.invokestatic 76) 3 23 := dnAt dc_X7_match 14 rfl rfl
theorem d_X7_match_23 : dn cX7_match 23 (.ifCond .eq 7) 3 26 := dnAt dc_X7_match 15 rfl rfl
theorem d_X7_match_26 : dn cX7_match 26 (.iconst 0) 1 27 := dnAt dc_X7_match 16 rfl rfl
theorem d_X7_match_27 : dn cX7_match 27 (.goto 4) 3 30 := dnAt dc_X7_match 17 rfl rfl
theorem d_X7_match_30 : dn cX7_match 30 (.iconst 1) 1 31 := dnAt dc_X7_match 18 rfl rfl
theorem d_X7_match_31 : dn cX7_match 31 (.invokevirtual 84) 3 34 := dnAt dc_X7_match 19 rfl rfl
theorem d_X7_match_34 : dn cX7_match 34 (.ifCond .ne 5) 3 37 := dnAt dc_X7_match 20 rfl rfl
theorem d_X7_match_37 : dn cX7_match 37 (.iconst 0) 1 38 := dnAt dc_X7_match 21 rfl rfl
theorem d_X7_match_38 : dn cX7_match 38 (.ireturn) 1 39 := dnAt dc_X7_match 22 rfl rfl
theorem d_X7_match_39 : dn cX7_match 39 (.iload_n 2) 1 40 := dnAt dc_X7_match 23 rfl rfl
theorem d_X7_match_40 : dn cX7_match 40 (.istore 4) 2 42 := dnAt dc_X7_match 24 rfl rfl
theorem d_X7_match_42 : dn cX7_match 42 (.iconst 0) 1 43 := dnAt dc_X7_match 25 rfl rfl
theorem d_X7_match_43 : dn cX7_match 43 (.istore 5) 2 45 := dnAt dc_X7_match 26 rfl rfl
theorem d_X7_match_45 : dn cX7_match 45 (.iconst 0) 1 46 := dnAt dc_X7_match 27 rfl rfl
theorem d_X7_match_46 : dn cX7_match 46 (.istore 6) 2 48 := dnAt dc_X7_match 28 rfl rfl
theorem d_X7_match_48 : dn cX7_match 48 (.iload 6) 2 50 := dnAt dc_X7_match 29 rfl rfl
theorem d_X7_match_50 : dn cX7_match 50 (.sipush 360) 3 53 := dnAt dc_X7_match 30 rfl rfl
theorem d_X7_match_53 : dn cX7_match 53 (.if_icmp .ge 89) 3 56 := dnAt dc_X7_match 31 rfl rfl
theorem d_X7_match_56 : dn cX7_match 56 (.aload_n 0) 1 57 := dnAt dc_X7_match 32 rfl rfl
theorem d_X7_match_57 : dn cX7_match 57 (.getfield 66) 3 60 := dnAt dc_X7_match 33 rfl rfl
theorem d_X7_match_60 : dn cX7_match 60 (.bipush 40) 2 62 := dnAt dc_X7_match 34 rfl rfl
theorem d_X7_match_62 : dn cX7_match 62 (.iload_n 1) 1 63 := dnAt dc_X7_match 35 rfl rfl
theorem d_X7_match_63 : dn cX7_match 63 (.imul) 1 64 := dnAt dc_X7_match 36 rfl rfl
theorem d_X7_match_64 : dn cX7_match 64 (.iload 6) 2 66 := dnAt dc_X7_match 37 rfl rfl
theorem d_X7_match_66 : dn cX7_match 66 (.bipush 9) 2 68 := dnAt dc_X7_match 38 rfl rfl
theorem d_X7_match_68 : dn cX7_match 68 (.idiv) 1 69 := dnAt dc_X7_match 39 rfl rfl
theorem d_X7_match_69 : dn cX7_match 69 (.iadd) 1 70 := dnAt dc_X7_match 40 rfl rfl
theorem d_X7_match_70 : dn cX7_match 70 (.iaload) 1 71 := dnAt dc_X7_match 41 rfl rfl
theorem d_X7_match_71 : dn cX7_match 71 (.iload 6) 2 73 := dnAt dc_X7_match 42 rfl rfl
theorem d_X7_match_73 : dn cX7_match 73 (.bipush 9) 2 75 := dnAt dc_X7_match 43 rfl rfl
theorem d_X7_match_75 : dn cX7_match 75 (.irem) 1 76 := dnAt dc_X7_match 44 rfl rfl
theorem d_X7_match_76 : dn cX7_match 76 (.ishr) 1 77 := dnAt dc_X7_match 45 rfl rfl
theorem d_X7_match_77 : dn cX7_match 77 (.iconst 1) 1 78 := dnAt dc_X7_match 46 rfl rfl
theorem d_X7_match_78 : dn cX7_match 78 (.iand) 1 79 := dnAt dc_X7_match 47 rfl rfl
theorem d_X7_match_79 : dn cX7_match 79 (.iconst 1) 1 80 := dnAt dc_X7_match 48 rfl rfl
theorem d_X7_match_80 : dn cX7_match 80 (.if_icmp .ne 7) 3 83 := dnAt dc_X7_match 49 rfl rfl
theorem d_X7_match_83 : dn cX7_match 83 (.iconst 1) 1 84 := dnAt dc_X7_match 50 rfl rfl
theorem d_X7_match_84 : dn cX7_match 84 (.goto 4) 3 87 := dnAt dc_X7_match 51 rfl rfl
theorem d_X7_match_87 : dn cX7_match 87 (.iconst 0) 1 88 := dnAt dc_X7_match 52 rfl rfl
theorem d_X7_match_88 : dn cX7_match 88 (.istore 7) 2 90 := dnAt dc_X7_match 53 rfl rfl
theorem d_X7_match_90 : dn cX7_match 90 (.iload 7) 2 92 := dnAt dc_X7_match 54 rfl rfl
theorem d_X7_match_92 : dn cX7_match 92 (.ifCond .eq 25) 3 95 := dnAt dc_X7_match 55 rfl rfl
theorem d_X7_match_95 : dn cX7_match 95 (.iload 4) 2 97 := dnAt dc_X7_match 56 rfl rfl
theorem d_X7_match_97 : dn cX7_match 97 (.ifCond .ne 20) 3 100 := dnAt dc_X7_match 57 rfl rfl
theorem d_X7_match_100 : dn cX7_match 100 (.bipush 100) 2 102 := dnAt dc_X7_match 58 rfl rfl
theorem d_X7_match_102 : dn cX7_match 102 (.iload 6) 2 104 := dnAt dc_X7_match 59 rfl rfl
theorem d_X7_match_104 : dn cX7_match 104 (.bipush 9) 2 106 := dnAt dc_X7_match 60 rfl rfl
theorem d_X7_match_106 : dn cX7_match 106 (.idiv) 1 107 := dnAt dc_X7_match 61 rfl rfl
theorem d_X7_match_107 : dn cX7_match 107 (.imul) 1 108 := dnAt dc_X7_match 62 rfl rfl
theorem d_X7_match_108 : dn cX7_match 108 (.iload 6) 2 110 := dnAt dc_X7_match 63 rfl rfl
theorem d_X7_match_110 : dn cX7_match 110 (.bipush 9) 2 112 := dnAt dc_X7_match 64 rfl rfl
theorem d_X7_match_112 : dn cX7_match 112 (.irem) 1 113 := dnAt dc_X7_match 65 rfl rfl
theorem d_X7_match_113 : dn cX7_match 113 (.iadd) 1 114 := dnAt dc_X7_match 66 rfl rfl
theorem d_X7_match_114 : dn cX7_match 114 (.goto 5) 3 117 := dnAt dc_X7_match 67 rfl rfl
theorem d_X7_match_117 : dn cX7_match 117 (.iload 5) 2 119 := dnAt dc_X7_match 68 rfl rfl
theorem d_X7_match_119 : dn cX7_match 119 (.istore 5) 2 121 := dnAt dc_X7_match 69 rfl rfl
theorem d_X7_match_121 : dn cX7_match 121 (.iload 4) 2 123 := dnAt dc_X7_match 70 rfl rfl
theorem d_X7_match_123 : dn cX7_match 123 (.iload 7) 2 125 := dnAt dc_X7_match 71 rfl rfl
theorem d_X7_match_125 : dn cX7_match 125 (.ifCond .eq 7) 3 128 := dnAt dc_X7_match 72 rfl rfl
theorem d_X7_match_128 : dn cX7_match 128 (.iconst 1) 1 129 := dnAt dc_X7_match 73 rfl rfl
theorem d_X7_match_129 : dn cX7_match 129 (.goto 4) 3 132 := dnAt dc_X7_match 74 rfl rfl
theorem d_X7_match_132 : dn cX7_match 132 (.iconst 0) 1 133 := dnAt dc_X7_match 75 rfl rfl
theorem d_X7_match_133 : dn cX7_match 133 (.isub) 1 134 := dnAt dc_X7_match 76 rfl rfl
theorem d_X7_match_134 : dn cX7_match 134 (.istore 4) 2 136 := dnAt dc_X7_match 77 rfl rfl
theorem d_X7_match_136 : dn cX7_match 136 (.iinc 6 1) 3 139 := dnAt dc_X7_match 78 rfl rfl
theorem d_X7_match_139 : dn cX7_match 139 (.goto (-91)) 3 142 := dnAt dc_X7_match 79 rfl rfl
theorem d_X7_match_142 : dn cX7_match 142 (.iload 5) 2 144 := dnAt dc_X7_match 80 rfl rfl
theorem d_X7_match_144 : dn cX7_match 144 (.ireturn) 1 145 := dnAt dc_X7_match 81 rfl rfl
set_option maxHeartbeats 4000000 in
set_option maxRecDepth 100000 in
theorem m_match (S : mS) (r m : Int32) (I : mInv S) : mC yX7_match cX7_match 8 (Option.some Jvm.ClassFile.FieldType.int) { frames := 2, cells := 0, slots := 0, locals := 45 } [.int r, .int m] S (fun v9 T9 => v9 = (some (.int (nI (rMatch S r m)))) ∧ T9 = uK S 0 (cMatch S r m)) := by
  refine mC.of (by decide) (Nat.le_of_ble_eq_true rfl) ?_
  intro G x q h0 C A TY
  show VM G x q h0 S 0 [(0, .ref (q 0)), (1, .int r), (2, .int m)] []
  refine m_aload_n C d_X7_match_0 0 rfl ?_
  refine m_iload_n C d_X7_match_1 1 rfl ?_
  refine m_callV C d_X7_match_2 ok_RX7_153 (m_isResult S r) rfl (rest := []) rfl rfl (Nat.le_of_ble_eq_true rfl) ⟨⟨by decide, by decide⟩, by decide, by decide⟩ (fun v9 T9 e9 => ?_)
  obtain ⟨rfl, e9⟩ := e9
  refine m_eq e9 ?_
  show VM G x q h0 S 5 [(0, .ref (q 0)), (1, .int r), (2, .int m)] [.int (bI (mIsR S r))]
  refine m_istore_n C d_X7_match_5 (lv' := [(3, .int (bI (mIsR S r))), (0, .ref (q 0)), (1, .int r), (2, .int m)]) (by decide) rfl ?_
  have join_31 : VM G x q h0 S 31 [(0, .ref (q 0)), (1, .int r), (2, .int m)] [.int (nI (cMatch S r m)), .ref (q 0)] := by
    refine m_callV C d_X7_match_31 ok_RX7_84 (m_holds S (cMatch S r m) (by unfold cMatch; split <;> omega)) rfl (rest := []) rfl rfl (Nat.le_of_ble_eq_true rfl) ⟨⟨by decide, by decide⟩, by decide, by decide⟩ (fun v9 T9 e9 => ?_)
    obtain ⟨rfl, e9⟩ := e9
    refine m_eq e9 ?_
    show VM G x q h0 (uK S 0 (cMatch S r m)) 34 [(0, .ref (q 0)), (1, .int r), (2, .int m)] [.int (bI (decide (cMatch S r m = 0)))]
    refine mb_if_ne C d_X7_match_34 (tgt := 39) rfl (fun c_34 => ?_) (fun c_34 => ?_)
    · skip
      have c0 := of_decide_eq_true c_34
      obtain ⟨e1, e2, e3, e4⟩ := cMatch_0 c0
      rw [c0]
      refine m_lve (lv' := [(0, .ref (q 0)), (1, .int (nI (tn r))), (2, .int (nI (tn m)))]) (by rw [← e1, ← e3]) ?_
      refine m_iload_n C d_X7_match_39 2 rfl ?_
      refine m_istore C d_X7_match_40 (lv' := [(4, .int (nI (tn m))), (0, .ref (q 0)), (1, .int (nI (tn r))), (2, .int (nI (tn m)))]) (by decide) rfl ?_
      refine m_iconst C d_X7_match_42 (v := (nI 0)) rfl ?_
      refine m_istore C d_X7_match_43 (lv' := [(5, .int (nI 0)), (4, .int (nI (tn m))), (0, .ref (q 0)), (1, .int (nI (tn r))), (2, .int (nI (tn m)))]) (by decide) rfl ?_
      refine m_iconst C d_X7_match_45 (v := (nI 0)) rfl ?_
      refine m_istore C d_X7_match_46 (lv' := [(6, .int (nI 0)), (5, .int (nI 0)), (4, .int (nI (tn m))), (0, .ref (q 0)), (1, .int (nI (tn r))), (2, .int (nI (tn m)))]) (by decide) rfl ?_
      have loop_48 : ∀ (fuel : Nat) (k : Nat), (k ≤ 360) → (361 - k) < fuel → VM G x q h0 (uK S 0 0) 48 [(0, .ref (q 0)), (1, .int (nI (tn r))), (2, .int (nI (tn m))), (4, .int (nI (tn m) - nI (cntM S (tn r) k))), (5, .int (nI (fdM S (tn r) (tn m) k))), (6, .int (nI k))] [] := by
        intro fuel
        induction fuel with
        | zero => intro k hk hf9; exact absurd hf9 (Nat.not_lt_zero _)
        | succ fuel ih_48 =>
          intro k hk hf9
          refine m_iload C d_X7_match_48 5 rfl ?_
          refine m_sipush C d_X7_match_50 (v := (nI 360)) rfl ?_
          refine mn_icmp_ge C d_X7_match_53 (tgt := 142) rfl (by omega) (by omega) (fun c_53 => ?_) (fun c_53 => ?_)
          · skip
            obtain rfl : k = 360 := by omega
            refine m_iload C d_X7_match_142 4 rfl ?_
            refine m_st (st' := [.int (nI (rMatch S r m))]) (by rw [rMatch, if_pos c0]) ?_
            exact m_iret C A TY d_X7_match_144 rfl (⟨rfl, by rw [c0]⟩)
          · skip
            have join_88 : VM G x q h0 (uK S 0 0) 88 [(0, .ref (q 0)), (1, .int (nI (tn r))), (2, .int (nI (tn m))), (4, .int (nI (tn m) - nI (cntM S (tn r) k))), (5, .int (nI (fdM S (tn r) (tn m) k))), (6, .int (nI k))] [.int (bI (hasB S (tn r) k))] := by
              refine m_istore C d_X7_match_88 (lv' := [(7, .int (bI (hasB S (tn r) k))), (0, .ref (q 0)), (1, .int (nI (tn r))), (2, .int (nI (tn m))), (4, .int (nI (tn m) - nI (cntM S (tn r) k))), (5, .int (nI (fdM S (tn r) (tn m) k))), (6, .int (nI k))]) (by decide) rfl ?_
              have join_119 : VM G x q h0 (uK S 0 0) 119 [(0, .ref (q 0)), (1, .int (nI (tn r))), (2, .int (nI (tn m))), (4, .int (nI (tn m) - nI (cntM S (tn r) k))), (6, .int (nI k)), (7, .int (bI (hasB S (tn r) k)))] [.int (nI (fdM S (tn r) (tn m) (k + 1)))] := by
                refine m_istore C d_X7_match_119 (lv' := [(5, .int (nI (fdM S (tn r) (tn m) (k + 1)))), (0, .ref (q 0)), (1, .int (nI (tn r))), (2, .int (nI (tn m))), (4, .int (nI (tn m) - nI (cntM S (tn r) k))), (6, .int (nI k)), (7, .int (bI (hasB S (tn r) k)))]) (by decide) rfl ?_
                have join_133 : VM G x q h0 (uK S 0 0) 133 [(0, .ref (q 0)), (1, .int (nI (tn r))), (2, .int (nI (tn m))), (5, .int (nI (fdM S (tn r) (tn m) (k + 1)))), (6, .int (nI k))] [.int (bI (hasB S (tn r) k)), .int (nI (tn m) - nI (cntM S (tn r) k))] := by
                  refine m_isub C d_X7_match_133 ?_
                  refine m_st (st' := [.int (nI (tn m) - nI (cntM S (tn r) (k + 1)))]) (by rw [sub_sub_nI]; rfl) ?_
                  refine m_istore C d_X7_match_134 (lv' := [(4, .int (nI (tn m) - nI (cntM S (tn r) (k + 1)))), (0, .ref (q 0)), (1, .int (nI (tn r))), (2, .int (nI (tn m))), (5, .int (nI (fdM S (tn r) (tn m) (k + 1)))), (6, .int (nI k))]) (by decide) rfl ?_
                  refine mn_iinc C d_X7_match_136 (lv' := [(6, .int (nI (k + 1))), (4, .int (nI (tn m) - nI (cntM S (tn r) (k + 1)))), (0, .ref (q 0)), (1, .int (nI (tn r))), (2, .int (nI (tn m))), (5, .int (nI (fdM S (tn r) (tn m) (k + 1))))]) 5 rfl (nI_inc _ rfl) (by decide) rfl ?_
                  refine m_goto C d_X7_match_139 (tgt := 48) rfl ?_
                  refine m_lv (lv' := [(0, .ref (q 0)), (1, .int (nI (tn r))), (2, .int (nI (tn m))), (4, .int (nI (tn m) - nI (cntM S (tn r) (k + 1)))), (5, .int (nI (fdM S (tn r) (tn m) (k + 1)))), (6, .int (nI (k + 1)))]) [2, 3, 4, 1, 5, 0] rfl ?_
                  exact ih_48 (k + 1) (by omega) (by omega)
                refine m_iload C d_X7_match_121 4 rfl ?_
                refine m_iload C d_X7_match_123 6 rfl ?_
                refine mb_if_eq C d_X7_match_125 (tgt := 132) rfl (fun c_125 => ?_) (fun c_125 => ?_)
                · skip
                  refine m_iconst C d_X7_match_132 (v := (bI false)) rfl ?_
                  refine m_lv (lv' := [(0, .ref (q 0)), (1, .int (nI (tn r))), (2, .int (nI (tn m))), (5, .int (nI (fdM S (tn r) (tn m) (k + 1)))), (6, .int (nI k))]) [1, 2, 3, 0, 5] rfl ?_
                  refine m_st (st' := [.int (bI (hasB S (tn r) k)), .int (nI (tn m) - nI (cntM S (tn r) k))]) (by rw [c_125]) ?_
                  exact join_133  
                · skip
                  refine m_iconst C d_X7_match_128 (v := (bI true)) rfl ?_
                  refine m_goto C d_X7_match_129 (tgt := 133) rfl ?_
                  refine m_lv (lv' := [(0, .ref (q 0)), (1, .int (nI (tn r))), (2, .int (nI (tn m))), (5, .int (nI (fdM S (tn r) (tn m) (k + 1)))), (6, .int (nI k))]) [1, 2, 3, 0, 5] rfl ?_
                  refine m_st (st' := [.int (bI (hasB S (tn r) k)), .int (nI (tn m) - nI (cntM S (tn r) k))]) (by rw [c_125]) ?_
                  exact join_133  
              refine m_iload C d_X7_match_90 0 rfl ?_
              refine mb_if_eq C d_X7_match_92 (tgt := 117) rfl (fun c_92 => ?_) (fun c_92 => ?_)
              · skip
                refine m_iload C d_X7_match_117 5 rfl ?_
                refine m_lv (lv' := [(0, .ref (q 0)), (1, .int (nI (tn r))), (2, .int (nI (tn m))), (4, .int (nI (tn m) - nI (cntM S (tn r) k))), (6, .int (nI k)), (7, .int (bI (hasB S (tn r) k)))]) [1, 2, 3, 4, 6, 0] rfl ?_
                refine m_st (st' := [.int (nI (fdM S (tn r) (tn m) (k + 1)))]) (by rw [fdM, if_neg (fun z => by rw [c_92] at z; exact absurd z.1 (by decide))]) ?_
                exact join_119  
              · skip
                refine m_iload C d_X7_match_95 4 rfl ?_
                refine m_if_ne C d_X7_match_97 (tgt := 117) rfl (fun c_97 => ?_) (fun c_97 => ?_)
                · skip
                  refine m_iload C d_X7_match_117 5 rfl ?_
                  refine m_lv (lv' := [(0, .ref (q 0)), (1, .int (nI (tn r))), (2, .int (nI (tn m))), (4, .int (nI (tn m) - nI (cntM S (tn r) k))), (6, .int (nI k)), (7, .int (bI (hasB S (tn r) k)))]) [1, 2, 3, 4, 6, 0] rfl ?_
                  refine m_st (st' := [.int (nI (fdM S (tn r) (tn m) (k + 1)))]) (by rw [fdM, if_neg (fun z => c_97 ((sub_0 (by omega) (by have := cntM_le S (tn r) k; omega)).mpr z.2))]) ?_
                  exact join_119  
                · skip
                  refine m_bipush C d_X7_match_100 (v := (nI 100)) rfl ?_
                  refine m_iload C d_X7_match_102 6 rfl ?_
                  refine m_bipush C d_X7_match_104 (v := (nI 9)) rfl ?_
                  refine mn_idiv C d_X7_match_106 (by omega) (by omega) (by omega) ?_
                  refine mn_imul C d_X7_match_107 ?_
                  refine m_iload C d_X7_match_108 6 rfl ?_
                  refine m_bipush C d_X7_match_110 (v := (nI 9)) rfl ?_
                  refine mn_irem C d_X7_match_112 (by omega) (by omega) (by omega) ?_
                  refine mn_iadd C d_X7_match_113 ?_
                  refine m_goto C d_X7_match_114 (tgt := 119) rfl ?_
                  refine m_lv (lv' := [(0, .ref (q 0)), (1, .int (nI (tn r))), (2, .int (nI (tn m))), (4, .int (nI (tn m) - nI (cntM S (tn r) k))), (6, .int (nI k)), (7, .int (bI (hasB S (tn r) k)))]) [1, 2, 3, 4, 6, 0] rfl ?_
                  refine m_st (st' := [.int (nI (fdM S (tn r) (tn m) (k + 1)))]) (by rw [fdM, if_pos ⟨c_92, (sub_0 (by omega) (by have := cntM_le S (tn r) k; omega)).mp (Classical.not_not.mp c_97)⟩]) ?_
                  exact join_119  
            refine m_aload_n C d_X7_match_56 0 rfl ?_
            refine m_get C d_X7_match_57 fd_RX7_66 (v := .ref (q 21)) rfl ?_
            refine m_bipush C d_X7_match_60 (v := (nI 40)) rfl ?_
            refine m_iload_n C d_X7_match_62 1 rfl ?_
            refine mn_imul C d_X7_match_63 ?_
            refine m_iload C d_X7_match_64 5 rfl ?_
            refine m_bipush C d_X7_match_66 (v := (nI 9)) rfl ?_
            refine mn_idiv C d_X7_match_68 (by omega) (by omega) (by omega) ?_
            refine mn_iadd C d_X7_match_69 ?_
            refine m_ald C d_X7_match_70 (k := 21) (by decide) rfl (by show _ < 320; omega) (by decide) ?_
            refine m_st (st' := [.int (nI (mN S 21 ((40 * (tn r)) + (k / 9))))]) rfl ?_
            refine m_iload C d_X7_match_71 5 rfl ?_
            refine m_bipush C d_X7_match_73 (v := (nI 9)) rfl ?_
            refine mn_irem C d_X7_match_75 (by omega) (by omega) (by omega) ?_
            refine mn_ishr C d_X7_match_76 (by have := len_lt I (z := 40 * tn r + k / 9) (by omega); omega) (by omega) ?_
            refine m_iconst C d_X7_match_77 (v := (nI 1)) rfl ?_
            refine mn_iand C d_X7_match_78 ?_
            refine m_st (st' := [.int (nI (mN S 21 (40 * tn r + k / 9) / 2 ^ (k % 9) % 2))]) (by rw [and1]) ?_
            refine m_iconst C d_X7_match_79 (v := (nI 1)) rfl ?_
            refine mn_icmp_ne C d_X7_match_80 (tgt := 87) rfl (by omega) (by omega) (fun c_80 => ?_) (fun c_80 => ?_)
            · skip
              refine m_iconst C d_X7_match_87 (v := (bI false)) rfl ?_
              refine m_st (st' := [.int (bI (hasB S (tn r) k))]) (by rw [hasB, decide_eq_false c_80]) ?_
              exact join_88  
            · skip
              refine m_iconst C d_X7_match_83 (v := (bI true)) rfl ?_
              refine m_goto C d_X7_match_84 (tgt := 88) rfl ?_
              refine m_st (st' := [.int (bI (hasB S (tn r) k))]) (by rw [hasB, decide_eq_true c_80]) ?_
              exact join_88  
      refine m_lv (lv' := [(0, .ref (q 0)), (1, .int (nI (tn r))), (2, .int (nI (tn m))), (4, .int (nI (tn m))), (5, .int (nI 0)), (6, .int (nI 0))]) [3, 4, 5, 2, 1, 0] rfl ?_
      refine m_lve (lv' := [(0, .ref (q 0)), (1, .int (nI (tn r))), (2, .int (nI (tn m))), (4, .int (nI (tn m) - nI (cntM S (tn r) 0))), (5, .int (nI (fdM S (tn r) (tn m) 0))), (6, .int (nI 0))]) (by rw [sub_cnt0]; rfl) ?_
      exact loop_48 _ 0 (by omega) (Nat.lt_succ_self _)
    · skip
      have c1 := of_decide_eq_false c_34
      refine m_iconst C d_X7_match_37 (v := (nI 0)) rfl ?_
      refine m_st (st' := [.int (nI (rMatch S r m))]) (by rw [rMatch, if_neg c1]) ?_
      exact m_iret C A TY d_X7_match_38 rfl (⟨rfl, rfl⟩)
  refine m_aload_n C d_X7_match_6 1 rfl ?_
  refine m_iload_n C d_X7_match_7 0 rfl ?_
  refine mb_if_eq C d_X7_match_8 (tgt := 30) rfl (fun c_8 => ?_) (fun c_8 => ?_)
  · skip
    refine m_iconst C d_X7_match_30 (v := (nI 1)) rfl ?_
    refine m_lv (lv' := [(0, .ref (q 0)), (1, .int r), (2, .int m)]) [1, 2, 3] rfl ?_
    refine m_st (st' := [.int (nI (cMatch S r m)), .ref (q 0)]) (by rw [cMatch, c_8]; rfl) ?_
    exact join_31  
  · skip
    obtain ⟨e1, e2, -⟩ := mIsR_of c_8
    refine m_lve (lv' := [(3, .int (bI (mIsR S r))), (0, .ref (q 0)), (1, .int (nI (tn r))), (2, .int m)]) (by rw [← e1]) ?_
    refine m_iload_n C d_X7_match_11 3 rfl ?_
    refine m_iconst C d_X7_match_12 (v := (nI 0)) rfl ?_
    refine m_aload_n C d_X7_match_13 1 rfl ?_
    refine m_iload_n C d_X7_match_14 2 rfl ?_
    refine m_callV C d_X7_match_15 ok_RX7_150 (m_sizeOf S (tn r) (by omega) (fun z hz => len_lt I hz)) rfl (rest := [.int (nI 0), .int m, .ref (q 0)]) rfl rfl (Nat.le_of_ble_eq_true rfl) ⟨⟨by decide, by decide⟩, by decide, by decide⟩ (fun v9 T9 e9 => ?_)
    obtain ⟨rfl, e9⟩ := e9
    refine m_eq e9 ?_
    show VM G x q h0 S 18 [(3, .int (bI (mIsR S r))), (0, .ref (q 0)), (1, .int (nI (tn r))), (2, .int m)] [.int (nI (mSize S (tn r))), .int (nI 0), .int m, .ref (q 0)]
    refine m_iconst C d_X7_match_18 (v := (nI 1)) rfl ?_
    refine m_isub C d_X7_match_19 ?_
    refine m_callS C d_X7_match_20 ok_RX7_76 (s_isIn m ((nI 0)) (((nI (mSize S (tn r))) - (nI 1)))) (rest := [.ref (q 0)]) rfl rfl (Nat.le_of_ble_eq_true rfl) ⟨⟨by decide, by decide⟩, by decide, by decide⟩ ?_
    show VM G x q h0 S 23 [(3, .int (bI (mIsR S r))), (0, .ref (q 0)), (1, .int (nI (tn r))), (2, .int m)] [.int (bI (inI m (nI 0) ((nI (mSize S (tn r))) - (nI 1)))), .ref (q 0)]
    refine mb_if_eq C d_X7_match_23 (tgt := 30) rfl (fun c_23 => ?_) (fun c_23 => ?_)
    · skip
      refine m_iconst C d_X7_match_30 (v := (nI 1)) rfl ?_
      refine m_lv (lv' := [(0, .ref (q 0)), (1, .int (nI (tn r))), (2, .int m)]) [1, 2, 3] rfl ?_
      refine m_lve (lv' := [(0, .ref (q 0)), (1, .int r), (2, .int m)]) (by rw [← e1]) ?_
      refine m_st (st' := [.int (nI (cMatch S r m)), .ref (q 0)]) (by rw [cMatch, c_8, c_23]; rfl) ?_
      exact join_31  
    · skip
      refine m_iconst C d_X7_match_26 (v := (nI 0)) rfl ?_
      refine m_goto C d_X7_match_27 (tgt := 31) rfl ?_
      refine m_lv (lv' := [(0, .ref (q 0)), (1, .int (nI (tn r))), (2, .int m)]) [1, 2, 3] rfl ?_
      refine m_lve (lv' := [(0, .ref (q 0)), (1, .int r), (2, .int m)]) (by rw [← e1]) ?_
      refine m_st (st' := [.int (nI (cMatch S r m)), .ref (q 0)]) (by rw [cMatch, c_8, c_23]; rfl) ?_
      exact join_31  
