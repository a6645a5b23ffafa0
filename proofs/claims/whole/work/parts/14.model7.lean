theorem tw_678 : (Jvm.Cond.fieldLink "CorpuslineModel" (54 : Nat) "CorpuslineModel" "then" "[Z") ∈ TB := tb_of 678 (by decide +kernel) rfl
theorem tw_816 : (Jvm.Cond.methodLink "CorpuslineModel" (115 : Nat) ({ cls := "CorpuslineModel", name := "laysBehind", desc := "()V" } : Jvm.MethodName)) ∈ TB := tb_of 816 (by decide +kernel) rfl
theorem tw_818 : (Jvm.Cond.instanceMethod ({ cls := "CorpuslineModel", name := "laysBehind", desc := "()V" } : Jvm.MethodName)) ∈ TB := tb_of 818 (by decide +kernel) rfl
theorem tw_819 : (Jvm.Cond.code ({ cls := "CorpuslineModel", name := "laysBehind", desc := "()V" } : Jvm.MethodName) prog_9_method_25_code (3 : Nat) (Option.none : Option Jvm.ClassFile.FieldType)) ∈ TB := tb_of 819 (by decide +kernel) rfl
theorem tw_820 : (Jvm.Cond.methodLink "CorpuslineModel" (101 : Nat) ({ cls := "CorpuslineModel", name := "copiesTest", desc := "(II)V" } : Jvm.MethodName)) ∈ TB := tb_of 820 (by decide +kernel) rfl
theorem tw_822 : (Jvm.Cond.instanceMethod ({ cls := "CorpuslineModel", name := "copiesTest", desc := "(II)V" } : Jvm.MethodName)) ∈ TB := tb_of 822 (by decide +kernel) rfl
theorem tw_823 : (Jvm.Cond.code ({ cls := "CorpuslineModel", name := "copiesTest", desc := "(II)V" } : Jvm.MethodName) prog_9_method_17_code (4 : Nat) (Option.none : Option Jvm.ClassFile.FieldType)) ∈ TB := tb_of 823 (by decide +kernel) rfl
theorem tw_824 : (Jvm.Cond.methodLink "CorpuslineModel" (118 : Nat) ({ cls := "CorpuslineModel", name := "becomes", desc := "(II)V" } : Jvm.MethodName)) ∈ TB := tb_of 824 (by decide +kernel) rfl
theorem tw_826 : (Jvm.Cond.instanceMethod ({ cls := "CorpuslineModel", name := "becomes", desc := "(II)V" } : Jvm.MethodName)) ∈ TB := tb_of 826 (by decide +kernel) rfl
theorem tw_827 : (Jvm.Cond.code ({ cls := "CorpuslineModel", name := "becomes", desc := "(II)V" } : Jvm.MethodName) prog_9_method_28_code (4 : Nat) (Option.none : Option Jvm.ClassFile.FieldType)) ∈ TB := tb_of 827 (by decide +kernel) rfl
theorem tw_840 : (Jvm.Cond.methodLink "CorpuslineModel" (124 : Nat) ({ cls := "CorpuslineModel", name := "copiesPart", desc := "(II)V" } : Jvm.MethodName)) ∈ TB := tb_of 840 (by decide +kernel) rfl
theorem tw_842 : (Jvm.Cond.instanceMethod ({ cls := "CorpuslineModel", name := "copiesPart", desc := "(II)V" } : Jvm.MethodName)) ∈ TB := tb_of 842 (by decide +kernel) rfl
theorem tw_843 : (Jvm.Cond.code ({ cls := "CorpuslineModel", name := "copiesPart", desc := "(II)V" } : Jvm.MethodName) prog_9_method_18_code (4 : Nat) (Option.none : Option Jvm.ClassFile.FieldType)) ∈ TB := tb_of 843 (by decide +kernel) rfl
theorem ts_23 : Cond.selects "CorpuslineModel" ({ cls := "CorpuslineModel", name := "laysBehind", desc := "()V" } : MethodName) ({ cls := "CorpuslineModel", name := "laysBehind", desc := "()V" } : MethodName) ∈ TB := tb_sel 23 (by decide +kernel) rfl
theorem ts_24 : Cond.selects "CorpuslineModel" ({ cls := "CorpuslineModel", name := "copiesTest", desc := "(II)V" } : MethodName) ({ cls := "CorpuslineModel", name := "copiesTest", desc := "(II)V" } : MethodName) ∈ TB := tb_sel 24 (by decide +kernel) rfl
theorem ts_25 : Cond.selects "CorpuslineModel" ({ cls := "CorpuslineModel", name := "becomes", desc := "(II)V" } : MethodName) ({ cls := "CorpuslineModel", name := "becomes", desc := "(II)V" } : MethodName) ∈ TB := tb_sel 25 (by decide +kernel) rfl
theorem ts_26 : Cond.selects "CorpuslineModel" ({ cls := "CorpuslineModel", name := "copiesPart", desc := "(II)V" } : MethodName) ({ cls := "CorpuslineModel", name := "copiesPart", desc := "(II)V" } : MethodName) ∈ TB := tb_sel 26 (by decide +kernel) rfl
theorem fd_RX7_54 : fdOk RX7 54 6 17 := ⟨_, _, _, rfl, by decide, cw_6, tw_678, rfl⟩
theorem pf_RX7_121 : pfOk RX7 121 6 15 .int false := ⟨_, _, _, tyX7, rfl, by decide, cw_6, tw_676, rfl, tyX7_ok, nmX7, rfl, by decide +kernel⟩
theorem ok_RX7_101 : okV RX7 101 yX7_copiesTest cX7_copiesTest 4 (Option.none : Option Jvm.ClassFile.FieldType) 2 := ⟨tw_820, tw_822, ts_24, tw_5, tw_823, ⟨by decide, by decide, by decide +kernel⟩⟩
theorem ok_RX7_115 : okV RX7 115 yX7_laysBehind cX7_laysBehind 3 (Option.none : Option Jvm.ClassFile.FieldType) 0 := ⟨tw_816, tw_818, ts_23, tw_5, tw_819, ⟨by decide, by decide, by decide +kernel⟩⟩
theorem ok_RX7_118 : okV RX7 118 yX7_becomes cX7_becomes 4 (Option.none : Option Jvm.ClassFile.FieldType) 2 := ⟨tw_824, tw_826, ts_25, tw_5, tw_827, ⟨by decide, by decide, by decide +kernel⟩⟩
theorem ok_RX7_124 : okV RX7 124 yX7_copiesPart cX7_copiesPart 4 (Option.none : Option Jvm.ClassFile.FieldType) 2 := ⟨tw_840, tw_842, ts_26, tw_5, tw_843, ⟨by decide, by decide, by decide +kernel⟩⟩
def rpG (b m k : Nat) : Nat → Nat := fun t => if b + m ≤ t ∧ t < k then b + (t - b) % m else t
theorem rpG_succ (S : mS) {b m k : Nat} (hm : 0 < m) (hk : b + m ≤ k) : tmap (tmap S (rpG b m k)) (cpG (k - m) k) = tmap S (rpG b m (k + 1)) := by
  rw [tmap_tmap]
  apply tmap_congr
  intro t
  unfold rpG cpG
  by_cases c : t = k
  · subst c
    rw [if_pos rfl, if_pos (show b + m ≤ t ∧ t < t + 1 by omega)]
    have e : (t - b) % m = (t - m - b) % m := by
      rw [show t - b = (t - m - b) + m by omega, Nat.add_mod_right]
    by_cases d : b + m ≤ t - m ∧ t - m < t
    · rw [if_pos d, e]
    · rw [if_neg d, e, Nat.mod_eq_of_lt (by omega)]; omega
  · rw [if_neg c]
    by_cases d : b + m ≤ t ∧ t < k
    · rw [if_pos d, if_pos (by omega)]
    · rw [if_neg d, if_neg (by omega)]
/-- the ways of so many times a part one behind the other; the ways of a repeat -/
def nxW (W : Nat → Bool) (m : Nat) : Nat → Nat → Bool
  | 0, z => decide (z = 0)
  | t + 1, z => nxW W m t (z % 2 ^ (m * t)) && W (z / 2 ^ (m * t))
def thW (W : Nat → Bool) (m least : Nat) : Nat → Nat → Bool
  | 0, z => decide (z = 0) && decide (least = 0)
  | t + 1, z => thW W m least t z || (decide (least ≤ t + 1) && nxW W m (t + 1) z)
/-- the two rows as they stand: next done from j on, then done below i -/
def rpS (S : mS) (f g : Nat → Bool) : mS := sB (sB S 18 f) 17 g
theorem rpS_18 {S : mS} {f g : Nat → Bool} {z : Nat} : mB (rpS S f g) 18 z = f z := rfl
theorem rpS_17 {S : mS} {f g : Nat → Bool} {z : Nat} : mB (rpS S f g) 17 z = g z := rfl
theorem rpS_u18 {S : mS} {f g h : Nat → Bool} {i : Nat} {v : Bool} (hh : ∀ z, (if z = i then v else f z) = h z) : uB (rpS S f g) 18 i v = rpS S h g := by
  unfold rpS
  apply mS_ext
  · intro j; rfl
  · intro j z; rfl
  · intro j z
    simp only [mB_uB, mB_sB, ← hh]
    by_cases e : j = 18
    · subst e; by_cases e2 : z = i <;> simp [e2]
    · simp [e]
  · intro j z; rfl
theorem rpS_u17 {S : mS} {f g h : Nat → Bool} {i : Nat} {v : Bool} (hh : ∀ z, (if z = i then v else g z) = h z) : uB (rpS S f g) 17 i v = rpS S f h := by
  unfold rpS
  rw [sB_step hh]
theorem rpS_init (S : mS) : S = rpS S (fun z => mB S 18 z) (fun z => mB S 17 z) := by
  unfold rpS
  rw [← sB_init (S := S)]
  · apply sB_init
    intro z; rfl
  · intro z; rfl
def canR (S : mS) (most : Int32) : Bool := decide (0 < mK S 16) && decide (nI (mTests S) + (most - nI 1) * nI (mN S 8 (12 + mK S 16 - 1)) ≤ nI 8)
def areR (least most : Int32) : Bool := inR least 0 3 && (inR most 1 3 && decide (least ≤ most))
def cRep (S : mS) (least most : Int32) : Nat := if areR least most = true then (if canR S most = true then 0 else 2) else 1
/-- the row 'next' behind so many times, the row 'then' behind so many times -/
def fT (S : mS) (p t : Nat) : Nat → Bool := fun z => if z < 256 then nxW (fun z => mB S 10 (256 * p + z)) (mN S 8 p) t z else mB S 18 z
def gT (S : mS) (p l t : Nat) : Nat → Bool := fun z => if z < 256 then thW (fun z => mB S 10 (256 * p + z)) (mN S 8 p) l t z else mB S 17 z
def rpT (S : mS) (p m : Nat) : mS := tmap (uK S 0 0) (rpG (8 * p) (mN S 8 p) (8 * p + mN S 8 p * m))
def tRep (S : mS) (least most : Int32) : mS :=
  if cRep S least most = 0 then tBec (rpS (rpT S (12 + mK S 16 - 1) (tn most)) (fT S (12 + mK S 16 - 1) (tn most)) (gT S (12 + mK S 16 - 1) (tn least) (tn most))) (12 + mK S 16 - 1) (mN S 8 (12 + mK S 16 - 1) * tn most)
  else uK S 0 (cRep S least most)
def rRep (S : mS) (least most : Int32) : Nat := if cRep S least most = 0 then mTests (tRep S least most) else 0
theorem rpG_0 (S : mS) (b m : Nat) : S = tmap S (rpG b m (b + m)) := tmap_id S (fun t => by unfold rpG; rw [if_neg (by omega)])
theorem sumTo_part {f : Nat → Nat} {j : Nat} : ∀ {k : Nat}, j < k → f j ≤ sumTo f k
  | 0, h => absurd h (Nat.not_lt_zero _)
  | k + 1, h => by
    rw [sumTo]
    rcases Nat.lt_or_ge j k with q | q
    · have := sumTo_part (f := f) (j := j) (k := k) q; omega
    · have : j = k := by omega
      subst this; omega
theorem part_le {S : mS} (h : 0 < mK S 16) : mN S 8 (12 + mK S 16 - 1) ≤ mTests S := by
  have := sumTo_part (f := fun k => mN S 8 (12 + k)) (j := mK S 16 - 1) (k := mK S 16) (by omega)
  rw [show 12 + mK S 16 - 1 = 12 + (mK S 16 - 1) by omega]
  exact this
theorem areR_of {l m : Int32} (h : areR l m = true) : l = nI (tn l) ∧ m = nI (tn m) ∧ tn l ≤ tn m ∧ 1 ≤ tn m ∧ tn m ≤ 3 := by
  simp only [areR, Bool.and_eq_true, decide_eq_true_eq] at h
  obtain ⟨h1, h2, h3⟩ := h
  obtain ⟨e1, -, e2⟩ := inR_of h1 (by decide) (by decide)
  obtain ⟨e3, e4, e5⟩ := inR_of h2 (by decide) (by decide)
  rw [e1, e3] at h3
  exact ⟨e1, e3, (nI_leI (by omega) (by omega)).mp h3, e4, e5⟩
theorem cRep_0 {S : mS} (I : mInv S) {l m : Int32} (h : cRep S l m = 0) : l = nI (tn l) ∧ m = nI (tn m) ∧ tn l ≤ tn m ∧ 1 ≤ tn m ∧ tn m ≤ 3 ∧ 0 < mK S 16 ∧ 0 < mN S 8 (12 + mK S 16 - 1) ∧ mN S 8 (12 + mK S 16 - 1) * tn m ≤ 8 ∧ mTests S + (tn m - 1) * mN S 8 (12 + mK S 16 - 1) ≤ 8 := by
  unfold cRep at h
  split at h
  · rename_i ha
    split at h
    · rename_i hc
      obtain ⟨e1, e2, e3, e4, e5⟩ := areR_of ha
      simp only [canR, Bool.and_eq_true, decide_eq_true_eq] at hc
      obtain ⟨h1, h2⟩ := hc
      have i1 := pile_le I
      have i2 := mTests_le I
      have i3 := part_le h1
      have i4 := (I.2.2.2.2.2.2.2.2.2.2.2.2.2.2.2 (12 + mK S 16 - 1) (by omega)).1
      rw [e2, pk_sub e4, pk_mul, nI_add] at h2
      have hq : (tn m - 1) * mN S 8 (12 + mK S 16 - 1) ≤ 2 * 8 := Nat.mul_le_mul (by omega) (by omega)
      have h3 := (nI_leI (by omega) (by omega)).mp h2
      refine ⟨e1, e2, e3, e4, e5, h1, by omega, ?_, h3⟩
      obtain ⟨z, hz⟩ : ∃ z, tn m = z + 1 := ⟨tn m - 1, by omega⟩
      rw [hz, Nat.add_sub_cancel, Nat.mul_comm] at h3
      rw [hz, Nat.mul_succ]
      omega
    · omega
  · omega
theorem pow_256 {a : Nat} (h : a ≤ 8) : 0 < 2 ^ a ∧ 2 ^ a ≤ 256 := ⟨Nat.two_pow_pos a, Nat.pow_le_pow_right (n := 2) (by decide) h⟩
theorem nI_neg1 {j : Nat} (hj : j ≤ 256) : nI j - nI 1 < 0 ↔ j = 0 := by
  constructor
  · intro h
    rcases Nat.eq_zero_or_pos j with q | q
    · exact q
    · rw [pk_sub q] at h
      exact absurd h (nI_pos (by omega))
  · intro h; subst h; decide
def iA (S : mS) (l k : Nat) (o : Nat) : Nat → Bool := fun z => if z < k then (decide (z = 0) && (decide (o = 0) || decide (l = 0))) else mB S (18 - o) z
def fJ (S : mS) (p t j : Nat) : Nat → Bool := fun z => if z < j then fT S p t z else fT S p (t + 1) z
def gJ (S : mS) (p l t k : Nat) : Nat → Bool := fun z => if z < k then gT S p l (t + 1) z else gT S p l t z
theorem iA_f (S : mS) (p l : Nat) : iA S l 256 0 = fT S p 0 := by
  funext z; unfold iA fT nxW; simp
theorem iA_g (S : mS) (p l : Nat) : iA S l 256 1 = gT S p l 0 := by
  funext z; unfold iA gT thW; simp
theorem iA_step {S : mS} {l k o : Nat} (z : Nat) : (if z = k then (decide (k = 0) && (decide (o = 0) || decide (l = 0))) else iA S l k o z) = iA S l (k + 1) o z := by
  unfold iA
  by_cases c : z = k
  · rw [if_pos c, if_pos (by omega), c]
  · rw [if_neg c]
    by_cases d : z < k
    · rw [if_pos d, if_pos (by omega)]
    · rw [if_neg d, if_neg (by omega)]
theorem fJ_256 (S : mS) (p t : Nat) : fT S p t = fJ S p t 256 := by
  funext z; unfold fJ
  by_cases c : z < 256
  · rw [if_pos c]
  · rw [if_neg c]; unfold fT; rw [if_neg c, if_neg c]
theorem fJ_0 (S : mS) (p t : Nat) : fJ S p t 0 = fT S p (t + 1) := by
  funext z; unfold fJ; rw [if_neg (by omega)]
theorem fJ_step {S : mS} {p t j : Nat} (hj : 0 < j) (z : Nat) : (if z = j - 1 then fT S p (t + 1) (j - 1) else fJ S p t j z) = fJ S p t (j - 1) z := by
  unfold fJ
  by_cases c : z = j - 1
  · rw [if_pos c, if_neg (by omega), c]
  · rw [if_neg c]
    by_cases d : z < j - 1
    · rw [if_pos d, if_pos (by omega)]
    · rw [if_neg d, if_neg (by omega)]
theorem gJ_0 (S : mS) (p l t : Nat) : gT S p l t = gJ S p l t 0 := by
  funext z; unfold gJ; rw [if_neg (by omega)]
theorem gJ_256 (S : mS) (p l t : Nat) : gJ S p l t 256 = gT S p l (t + 1) := by
  funext z; unfold gJ
  by_cases c : z < 256
  · rw [if_pos c]
  · rw [if_neg c]; unfold gT; rw [if_neg c, if_neg c]
theorem gJ_step {S : mS} {p l t k : Nat} (z : Nat) : (if z = k then gT S p l (t + 1) k else gJ S p l t k z) = gJ S p l t (k + 1) z := by
  unfold gJ
  by_cases c : z = k
  · rw [if_pos c, if_pos (by omega), c]
  · rw [if_neg c]
    by_cases d : z < k
    · rw [if_pos d, if_pos (by omega)]
    · rw [if_neg d, if_neg (by omega)]
theorem fT_in {S : mS} {p t z : Nat} (hz : z < 256) : fT S p t z = nxW (fun z => mB S 10 (256 * p + z)) (mN S 8 p) t z := by unfold fT; rw [if_pos hz]
theorem gT_in {S : mS} {p l t z : Nat} (hz : z < 256) : gT S p l t z = thW (fun z => mB S 10 (256 * p + z)) (mN S 8 p) l t z := by unfold gT; rw [if_pos hz]
theorem nI_minus1 (a : Nat) : nI a + Int32.ofInt (-1) = nI a - nI 1 := by
  rw [Int32.sub_eq_add_neg]; rfl

def dl_X7_becomes : List (Nat × Instr × Nat) := [(0, .iconst 0, 1), (1, .istore_n 3, 1), (2, .iload_n 3, 1), (3, .sipush 256, 3), (6, .if_icmp .ge 27, 3), (9, .aload_n 0, 1), (10, .getfield 39, 3), (13, .sipush 256, 3), (16, .iload_n 1, 1), (17, .imul, 1), (18, .iload_n 3, 1), (19, .iadd, 1), (20, .aload_n 0, 1), (21, .getfield 54, 3), (24, .iload_n 3, 1), (25, .baload, 1), (26, .bastore, 1), (27, .iinc 3 1, 3), (30, .goto (-28), 3), (33, .aload_n 0, 1), (34, .getfield 33, 3), (37, .iload_n 1, 1), (38, .iload_n 2, 1), (39, .iastore, 1), (40, .aload_n 0, 1), (41, .getfield 36, 3), (44, .iload_n 1, 1), (45, .iconst 0, 1), (46, .bastore, 1), (47, .return_, 1)]
theorem dc_X7_becomes : dnL cX7_becomes dl_X7_becomes = true := by decide +kernel
theorem d_X7_becomes_0 : dn cX7_becomes 0 (.iconst 0) 1 1 := dnAt dc_X7_becomes 0 rfl rfl
theorem d_X7_becomes_1 : dn cX7_becomes 1 (.istore_n 3) 1 2 := dnAt dc_X7_becomes 1 rfl rfl
theorem d_X7_becomes_2 : dn cX7_becomes 2 (.iload_n 3) 1 3 := dnAt dc_X7_becomes 2 rfl rfl
theorem d_X7_becomes_3 : dn cX7_becomes 3 (.sipush 256) 3 6 := dnAt dc_X7_becomes 3 rfl rfl
theorem d_X7_becomes_6 : dn cX7_becomes 6 (.if_icmp .ge 27) 3 9 := dnAt dc_X7_becomes 4 rfl rfl
theorem d_X7_becomes_9 : dn cX7_becomes 9 (.aload_n 0) 1 10 := dnAt dc_X7_becomes 5 rfl rfl
theorem d_X7_becomes_10 : dn cX7_becomes 10 (.getfield 39) 3 13 := dnAt dc_X7_becomes 6 rfl rfl
theorem d_X7_becomes_13 : dn cX7_becomes 13 (.sipush 256) 3 16 := dnAt dc_X7_becomes 7 rfl rfl
theorem d_X7_becomes_16 : dn cX7_becomes 16 (.iload_n 1) 1 17 := dnAt dc_X7_becomes 8 rfl rfl
theorem d_X7_becomes_17 : dn cX7_becomes 17 (.imul) 1 18 := dnAt dc_X7_becomes 9 rfl rfl
theorem d_X7_becomes_18 : dn cX7_becomes 18 (.iload_n 3) 1 19 := dnAt dc_X7_becomes 10 rfl rfl
theorem d_X7_becomes_19 : dn cX7_becomes 19 (.iadd) 1 20 := dnAt dc_X7_becomes 11 rfl rfl
theorem d_X7_becomes_20 : dn cX7_becomes 20 (.aload_n 0) 1 21 := dnAt dc_X7_becomes 12 rfl rfl
theorem d_X7_becomes_21 : dn cX7_becomes 21 (.getfield 54) 3 24 := dnAt dc_X7_becomes 13 rfl rfl
theorem d_X7_becomes_24 : dn cX7_becomes 24 (.iload_n 3) 1 25 := dnAt dc_X7_becomes 14 rfl rfl
theorem d_X7_becomes_25 : dn cX7_becomes 25 (.baload) 1 26 := dnAt dc_X7_becomes 15 rfl rfl
theorem d_X7_becomes_26 : dn cX7_becomes 26 (.bastore) 1 27 := dnAt dc_X7_becomes 16 rfl rfl
theorem d_X7_becomes_27 : dn cX7_becomes 27 (.iinc 3 1) 3 30 := dnAt dc_X7_becomes 17 rfl rfl
theorem d_X7_becomes_30 : dn cX7_becomes 30 (.goto (-28)) 3 33 := dnAt dc_X7_becomes 18 rfl rfl
theorem d_X7_becomes_33 : dn cX7_becomes 33 (.aload_n 0) 1 34 := dnAt dc_X7_becomes 19 rfl rfl
theorem d_X7_becomes_34 : dn cX7_becomes 34 (.getfield 33) 3 37 := dnAt dc_X7_becomes 20 rfl rfl
theorem d_X7_becomes_37 : dn cX7_becomes 37 (.iload_n 1) 1 38 := dnAt dc_X7_becomes 21 rfl rfl
theorem d_X7_becomes_38 : dn cX7_becomes 38 (.iload_n 2) 1 39 := dnAt dc_X7_becomes 22 rfl rfl
theorem d_X7_becomes_39 : dn cX7_becomes 39 (.iastore) 1 40 := dnAt dc_X7_becomes 23 rfl rfl
theorem d_X7_becomes_40 : dn cX7_becomes 40 (.aload_n 0) 1 41 := dnAt dc_X7_becomes 24 rfl rfl
theorem d_X7_becomes_41 : dn cX7_becomes 41 (.getfield 36) 3 44 := dnAt dc_X7_becomes 25 rfl rfl
theorem d_X7_becomes_44 : dn cX7_becomes 44 (.iload_n 1) 1 45 := dnAt dc_X7_becomes 26 rfl rfl
theorem d_X7_becomes_45 : dn cX7_becomes 45 (.iconst 0) 1 46 := dnAt dc_X7_becomes 27 rfl rfl
theorem d_X7_becomes_46 : dn cX7_becomes 46 (.bastore) 1 47 := dnAt dc_X7_becomes 28 rfl rfl
theorem d_X7_becomes_47 : dn cX7_becomes 47 (.return_) 1 48 := dnAt dc_X7_becomes 29 rfl rfl
set_option maxHeartbeats 4000000 in
set_option maxRecDepth 100000 in
theorem m_becomes (S : mS) (p m : Nat) (hp : p < 21) : mC yX7_becomes cX7_becomes 4 (Option.none : Option Jvm.ClassFile.FieldType) { frames := 0, cells := 0, slots := 0, locals := 0 } [.int (nI p), .int (nI m)] S (fun v9 T9 => v9 = none ∧ T9 = tBec S p m) := by
  refine mC.of (by decide) (Nat.le_of_ble_eq_true rfl) ?_
  intro G x q h0 C A TY
  show VM G x q h0 S 0 [(0, .ref (q 0)), (1, .int (nI p)), (2, .int (nI m))] []
  refine m_iconst C d_X7_becomes_0 (v := (nI 0)) rfl ?_
  refine m_istore_n C d_X7_becomes_1 (lv' := [(3, .int (nI 0)), (0, .ref (q 0)), (1, .int (nI p)), (2, .int (nI m))]) (by decide) rfl ?_
  have loop_2 : ∀ (fuel : Nat) (k : Nat), (k ≤ 256) → (257 - k) < fuel → VM G x q h0 (beL S p k) 2 [(0, .ref (q 0)), (1, .int (nI p)), (2, .int (nI m)), (3, .int (nI k))] [] := by
    intro fuel
    induction fuel with
    | zero => intro k hk hf9; exact absurd hf9 (Nat.not_lt_zero _)
    | succ fuel ih_2 =>
      intro k hk hf9
      refine m_iload_n C d_X7_becomes_2 3 rfl ?_
      refine m_sipush C d_X7_becomes_3 (v := (nI 256)) rfl ?_
      refine mn_icmp_ge C d_X7_becomes_6 (tgt := 33) rfl (by omega) (by omega) (fun c_6 => ?_) (fun c_6 => ?_)
      · skip
        obtain rfl : k = 256 := by omega
        refine m_aload_n C d_X7_becomes_33 0 rfl ?_
        refine m_get C d_X7_becomes_34 fd_RX7_33 (v := .ref (q 8)) rfl ?_
        refine m_iload_n C d_X7_becomes_37 1 rfl ?_
        refine m_iload_n C d_X7_becomes_38 2 rfl ?_
        refine m_ast C d_X7_becomes_39 (k := 8) (v := m) (by decide) rfl (by show _ < 21; omega) (by decide) ?_
        refine m_aload_n C d_X7_becomes_40 0 rfl ?_
        refine m_get C d_X7_becomes_41 fd_RX7_36 (v := .ref (q 9)) rfl ?_
        refine m_iload_n C d_X7_becomes_44 1 rfl ?_
        refine m_iconst C d_X7_becomes_45 (v := (bI false)) rfl ?_
        refine m_zst C d_X7_becomes_46 (k := 9) (v := false) (by decide) rfl (by show _ < 21; omega) (by decide) ?_
        exact m_vret C A TY d_X7_becomes_47 (⟨rfl, rfl⟩)
      · skip
        refine m_aload_n C d_X7_becomes_9 0 rfl ?_
        refine m_get C d_X7_becomes_10 fd_RX7_39 (v := .ref (q 10)) rfl ?_
        refine m_sipush C d_X7_becomes_13 (v := (nI 256)) rfl ?_
        refine m_iload_n C d_X7_becomes_16 1 rfl ?_
        refine mn_imul C d_X7_becomes_17 ?_
        refine m_iload_n C d_X7_becomes_18 3 rfl ?_
        refine mn_iadd C d_X7_becomes_19 ?_
        refine m_aload_n C d_X7_becomes_20 0 rfl ?_
        refine m_get C d_X7_becomes_21 fd_RX7_54 (v := .ref (q 17)) rfl ?_
        refine m_iload_n C d_X7_becomes_24 3 rfl ?_
        refine m_zld C d_X7_becomes_25 (k := 17) (by decide) rfl (by show _ < 256; omega) (by decide) ?_
        refine m_st (st' := [.int (bI (mB S 17 k)), .int (nI ((256 * p) + k)), .ref (q 10)]) rfl ?_
        refine m_zst C d_X7_becomes_26 (k := 10) (v := mB S 17 k) (by decide) rfl (by show _ < 5376; omega) (by decide) ?_
        refine mn_iinc C d_X7_becomes_27 (lv' := [(3, .int (nI (k + 1))), (0, .ref (q 0)), (1, .int (nI p)), (2, .int (nI m))]) 3 rfl (nI_inc _ rfl) (by decide) rfl ?_
        refine m_goto C d_X7_becomes_30 (tgt := 2) rfl ?_
        refine m_eq (S' := beL S p (k + 1)) (beL_step (by omega)) ?_
        refine m_lv (lv' := [(0, .ref (q 0)), (1, .int (nI p)), (2, .int (nI m)), (3, .int (nI (k + 1)))]) [1, 2, 3, 0] rfl ?_
        exact ih_2 (k + 1) (by omega) (by omega)
  refine m_eq (S' := beL S p 0) (beL_0 S p) ?_
  refine m_lv (lv' := [(0, .ref (q 0)), (1, .int (nI p)), (2, .int (nI m)), (3, .int (nI 0))]) [1, 2, 3, 0] rfl ?_
  exact loop_2 _ 0 (by omega) (Nat.lt_succ_self _)
def dl_X7_laysBehind : List (Nat × Instr × Nat) := [(0, .bipush 12, 2), (2, .aload_n 0, 1), (3, .getfield 98, 3), (6, .iadd, 1), (7, .iconst 2, 1), (8, .isub, 1), (9, .istore_n 1, 1), (10, .iconst 0, 1), (11, .istore_n 2, 1), (12, .iload_n 2, 1), (13, .aload_n 0, 1), (14, .getfield 33, 3), (17, .iload_n 1, 1), (18, .iconst 1, 1), (19, .iadd, 1), (20, .iaload, 1), (21, .if_icmp .ge 34, 3), (24, .aload_n 0, 1), (25, .bipush 8, 2), (27, .iload_n 1, 1), (28, .iconst 1, 1), (29, .iadd, 1), (30, .imul, 1), (31, .iload_n 2, 1), (32, .iadd, 1), (33, .bipush 8, 2), (35, .iload_n 1, 1), (36, .imul, 1), (37, .aload_n 0, 1), (38, .getfield 33, 3), (41, .iload_n 1, 1), (42, .iaload, 1), (43, .iadd, 1), (44, .iload_n 2, 1), (45, .iadd, 1), (46, .invokevirtual 101, 3), (49, .iinc 2 1, 3), (52, .goto (-40), 3), (55, .return_, 1)]
theorem dc_X7_laysBehind : dnL cX7_laysBehind dl_X7_laysBehind = true := by decide +kernel
theorem d_X7_laysBehind_0 : dn cX7_laysBehind 0 (.bipush 12) 2 2 := dnAt dc_X7_laysBehind 0 rfl rfl
theorem d_X7_laysBehind_2 : dn cX7_laysBehind 2 (.aload_n 0) 1 3 := dnAt dc_X7_laysBehind 1 rfl rfl
theorem d_X7_laysBehind_3 : dn cX7_laysBehind 3 (.getfield 98) 3 6 := dnAt dc_X7_laysBehind 2 rfl rfl
theorem d_X7_laysBehind_6 : dn cX7_laysBehind 6 (.iadd) 1 7 := dnAt dc_X7_laysBehind 3 rfl rfl
theorem d_X7_laysBehind_7 : dn cX7_laysBehind 7 (.iconst 2) 1 8 := dnAt dc_X7_laysBehind 4 rfl rfl
theorem d_X7_laysBehind_8 : dn cX7_laysBehind 8 (.isub) 1 9 := dnAt dc_X7_laysBehind 5 rfl rfl
theorem d_X7_laysBehind_9 : dn cX7_laysBehind 9 (.istore_n 1) 1 10 := dnAt dc_X7_laysBehind 6 rfl rfl
theorem d_X7_laysBehind_10 : dn cX7_laysBehind 10 (.iconst 0) 1 11 := dnAt dc_X7_laysBehind 7 rfl rfl
theorem d_X7_laysBehind_11 : dn cX7_laysBehind 11 (.istore_n 2) 1 12 := dnAt dc_X7_laysBehind 8 rfl rfl
theorem d_X7_laysBehind_12 : dn cX7_laysBehind 12 (.iload_n 2) 1 13 := dnAt dc_X7_laysBehind 9 rfl rfl
theorem d_X7_laysBehind_13 : dn cX7_laysBehind 13 (.aload_n 0) 1 14 := dnAt dc_X7_laysBehind 10 rfl rfl
theorem d_X7_laysBehind_14 : dn cX7_laysBehind 14 (.getfield 33) 3 17 := dnAt dc_X7_laysBehind 11 rfl rfl
theorem d_X7_laysBehind_17 : dn cX7_laysBehind 17 (.iload_n 1) 1 18 := dnAt dc_X7_laysBehind 12 rfl rfl
theorem d_X7_laysBehind_18 : dn cX7_laysBehind 18 (.iconst 1) 1 19 := dnAt dc_X7_laysBehind 13 rfl rfl
theorem d_X7_laysBehind_19 : dn cX7_laysBehind 19 (.iadd) 1 20 := dnAt dc_X7_laysBehind 14 rfl rfl
theorem d_X7_laysBehind_20 : dn cX7_laysBehind 20 (.iaload) 1 21 := dnAt dc_X7_laysBehind 15 rfl rfl
theorem d_X7_laysBehind_21 : dn cX7_laysBehind 21 (.if_icmp .ge 34) 3 24 := dnAt dc_X7_laysBehind 16 rfl rfl
theorem d_X7_laysBehind_24 : dn cX7_laysBehind 24 (.aload_n 0) 1 25 := dnAt dc_X7_laysBehind 17 rfl rfl
theorem d_X7_laysBehind_25 : dn cX7_laysBehind 25 (.bipush 8) 2 27 := dnAt dc_X7_laysBehind 18 rfl rfl
theorem d_X7_laysBehind_27 : dn cX7_laysBehind 27 (.iload_n 1) 1 28 := dnAt dc_X7_laysBehind 19 rfl rfl
theorem d_X7_laysBehind_28 : dn cX7_laysBehind 28 (.iconst 1) 1 29 := dnAt dc_X7_laysBehind 20 rfl rfl
theorem d_X7_laysBehind_29 : dn cX7_laysBehind 29 (.iadd) 1 30 := dnAt dc_X7_laysBehind 21 rfl rfl
theorem d_X7_laysBehind_30 : dn cX7_laysBehind 30 (.imul) 1 31 := dnAt dc_X7_laysBehind 22 rfl rfl
theorem d_X7_laysBehind_31 : dn cX7_laysBehind 31 (.iload_n 2) 1 32 := dnAt dc_X7_laysBehind 23 rfl rfl
theorem d_X7_laysBehind_32 : dn cX7_laysBehind 32 (.iadd) 1 33 := dnAt dc_X7_laysBehind 24 rfl rfl
theorem d_X7_laysBehind_33 : dn cX7_laysBehind 33 (.bipush 8) 2 35 := dnAt dc_X7_laysBehind 25 rfl rfl
theorem d_X7_laysBehind_35 : dn cX7_laysBehind 35 (.iload_n 1) 1 36 := dnAt dc_X7_laysBehind 26 rfl rfl
theorem d_X7_laysBehind_36 : dn cX7_laysBehind 36 (.imul) 1 37 := dnAt dc_X7_laysBehind 27 rfl rfl
theorem d_X7_laysBehind_37 : dn cX7_laysBehind 37 (.aload_n 0) 1 38 := dnAt dc_X7_laysBehind 28 rfl rfl
theorem d_X7_laysBehind_38 : dn cX7_laysBehind 38 (.getfield 33) 3 41 := dnAt dc_X7_laysBehind 29 rfl rfl
theorem d_X7_laysBehind_41 : dn cX7_laysBehind 41 (.iload_n 1) 1 42 := dnAt dc_X7_laysBehind 30 rfl rfl
theorem d_X7_laysBehind_42 : dn cX7_laysBehind 42 (.iaload) 1 43 := dnAt dc_X7_laysBehind 31 rfl rfl
theorem d_X7_laysBehind_43 : dn cX7_laysBehind 43 (.iadd) 1 44 := dnAt dc_X7_laysBehind 32 rfl rfl
theorem d_X7_laysBehind_44 : dn cX7_laysBehind 44 (.iload_n 2) 1 45 := dnAt dc_X7_laysBehind 33 rfl rfl
theorem d_X7_laysBehind_45 : dn cX7_laysBehind 45 (.iadd) 1 46 := dnAt dc_X7_laysBehind 34 rfl rfl
theorem d_X7_laysBehind_46 : dn cX7_laysBehind 46 (.invokevirtual 101) 3 49 := dnAt dc_X7_laysBehind 35 rfl rfl
theorem d_X7_laysBehind_49 : dn cX7_laysBehind 49 (.iinc 2 1) 3 52 := dnAt dc_X7_laysBehind 36 rfl rfl
theorem d_X7_laysBehind_52 : dn cX7_laysBehind 52 (.goto (-40)) 3 55 := dnAt dc_X7_laysBehind 37 rfl rfl
theorem d_X7_laysBehind_55 : dn cX7_laysBehind 55 (.return_) 1 56 := dnAt dc_X7_laysBehind 38 rfl rfl
set_option maxHeartbeats 4000000 in
set_option maxRecDepth 100000 in
theorem m_laysBehind (S : mS) (I : mInv S) (h2 : 2 ≤ mK S 16) : mC yX7_laysBehind cX7_laysBehind 3 (Option.none : Option Jvm.ClassFile.FieldType) { frames := 1, cells := 0, slots := 0, locals := 23 } [] S (fun v9 T9 => v9 = none ∧ T9 = tLays S) := by
  refine mC.of (by decide) (Nat.le_of_ble_eq_true rfl) ?_
  intro G x q h0 C A TY
  show VM G x q h0 S 0 [(0, .ref (q 0))] []
  have i1 := pile_le I
  have i2 := mInv_pair I h2
  refine m_bipush C d_X7_laysBehind_0 (v := (nI 12)) rfl ?_
  refine m_aload_n C d_X7_laysBehind_2 0 rfl ?_
  refine m_get C d_X7_laysBehind_3 fd_RX7_98 (v := .int (nI (mK S 16))) rfl ?_
  refine mn_iadd C d_X7_laysBehind_6 ?_
  refine m_iconst C d_X7_laysBehind_7 (v := (nI 2)) rfl ?_
  refine mn_isub C d_X7_laysBehind_8 (by omega) ?_
  refine m_istore_n C d_X7_laysBehind_9 (lv' := [(1, .int (nI ((12 + (mK S 16)) - 2))), (0, .ref (q 0))]) (by decide) rfl ?_
  refine m_iconst C d_X7_laysBehind_10 (v := (nI 0)) rfl ?_
  refine m_istore_n C d_X7_laysBehind_11 (lv' := [(2, .int (nI 0)), (1, .int (nI ((12 + (mK S 16)) - 2))), (0, .ref (q 0))]) (by decide) rfl ?_
  have loop_12 : ∀ (fuel : Nat) (k : Nat), (k ≤ mN S 8 (12 + mK S 16 - 2 + 1)) → (9 - k) < fuel → VM G x q h0 (tmap S (laG (8 * (12 + mK S 16 - 2) + mN S 8 (12 + mK S 16 - 2)) (8 * (12 + mK S 16 - 2 + 1)) k)) 12 [(0, .ref (q 0)), (1, .int (nI (12 + mK S 16 - 2))), (2, .int (nI k))] [] := by
    intro fuel
    induction fuel with
    | zero => intro k hk hf9; exact absurd hf9 (Nat.not_lt_zero _)
    | succ fuel ih_12 =>
      intro k hk hf9
      refine m_iload_n C d_X7_laysBehind_12 2 rfl ?_
      refine m_aload_n C d_X7_laysBehind_13 0 rfl ?_
      refine m_get C d_X7_laysBehind_14 fd_RX7_33 (v := .ref (q 8)) rfl ?_
      refine m_iload_n C d_X7_laysBehind_17 1 rfl ?_
      refine m_iconst C d_X7_laysBehind_18 (v := (nI 1)) rfl ?_
      refine mn_iadd C d_X7_laysBehind_19 ?_
      refine m_ald C d_X7_laysBehind_20 (k := 8) (by decide) rfl (by show _ < 21; omega) (by decide) ?_
      refine m_st (st' := [.int (nI (mN S 8 ((12 + mK S 16 - 2) + 1))), .int (nI k)]) rfl ?_
      refine mn_icmp_ge C d_X7_laysBehind_21 (tgt := 55) rfl (by omega) (by omega) (fun c_21 => ?_) (fun c_21 => ?_)
      · skip
        obtain rfl : k = mN S 8 (12 + mK S 16 - 2 + 1) := by omega
        exact m_vret C A TY d_X7_laysBehind_55 (⟨rfl, rfl⟩)
      · skip
        refine m_aload_n C d_X7_laysBehind_24 0 rfl ?_
        refine m_bipush C d_X7_laysBehind_25 (v := (nI 8)) rfl ?_
        refine m_iload_n C d_X7_laysBehind_27 1 rfl ?_
        refine m_iconst C d_X7_laysBehind_28 (v := (nI 1)) rfl ?_
        refine mn_iadd C d_X7_laysBehind_29 ?_
        refine mn_imul C d_X7_laysBehind_30 ?_
        refine m_iload_n C d_X7_laysBehind_31 2 rfl ?_
        refine mn_iadd C d_X7_laysBehind_32 ?_
        refine m_bipush C d_X7_laysBehind_33 (v := (nI 8)) rfl ?_
        refine m_iload_n C d_X7_laysBehind_35 1 rfl ?_
        refine mn_imul C d_X7_laysBehind_36 ?_
        refine m_aload_n C d_X7_laysBehind_37 0 rfl ?_
        refine m_get C d_X7_laysBehind_38 fd_RX7_33 (v := .ref (q 8)) rfl ?_
        refine m_iload_n C d_X7_laysBehind_41 1 rfl ?_
        refine m_ald C d_X7_laysBehind_42 (k := 8) (by decide) rfl (by show _ < 21; omega) (by decide) ?_
        refine m_st (st' := [.int (nI (mN S 8 (12 + mK S 16 - 2))), .int (nI (8 * (12 + mK S 16 - 2))), .int (nI ((8 * ((12 + mK S 16 - 2) + 1)) + k)), .ref (q 0)]) rfl ?_
        refine mn_iadd C d_X7_laysBehind_43 ?_
        refine m_iload_n C d_X7_laysBehind_44 2 rfl ?_
        refine mn_iadd C d_X7_laysBehind_45 ?_
        refine m_callV C d_X7_laysBehind_46 ok_RX7_101 (m_copiesTest (tmap S (laG (8 * (12 + mK S 16 - 2) + mN S 8 (12 + mK S 16 - 2)) (8 * (12 + mK S 16 - 2 + 1)) k)) ((8 * ((12 + mK S 16 - 2) + 1)) + k) (((8 * (12 + mK S 16 - 2)) + (mN S 8 (12 + mK S 16 - 2))) + k) (by omega) (by omega)) rfl (rest := []) rfl rfl (Nat.le_of_ble_eq_true rfl) ⟨⟨by decide, by decide⟩, by decide, by decide⟩ (fun v9 T9 e9 => ?_)
        obtain ⟨rfl, e9⟩ := e9
        refine m_eq e9 ?_
        show VM G x q h0 (tmap (tmap S (laG (8 * (12 + mK S 16 - 2) + mN S 8 (12 + mK S 16 - 2)) (8 * (12 + mK S 16 - 2 + 1)) k)) (cpG ((8 * ((12 + mK S 16 - 2) + 1)) + k) (((8 * (12 + mK S 16 - 2)) + (mN S 8 (12 + mK S 16 - 2))) + k))) 49 [(0, .ref (q 0)), (1, .int (nI (12 + mK S 16 - 2))), (2, .int (nI k))] []
        refine mn_iinc C d_X7_laysBehind_49 (lv' := [(2, .int (nI (k + 1))), (0, .ref (q 0)), (1, .int (nI (12 + mK S 16 - 2)))]) 2 rfl (nI_inc _ rfl) (by decide) rfl ?_
        refine m_goto C d_X7_laysBehind_52 (tgt := 12) rfl ?_
        refine m_eq (S' := tmap S (laG (8 * (12 + mK S 16 - 2) + mN S 8 (12 + mK S 16 - 2)) (8 * (12 + mK S 16 - 2 + 1)) (k + 1))) (laG_succ S (by omega)) ?_
        refine m_lv (lv' := [(0, .ref (q 0)), (1, .int (nI (12 + mK S 16 - 2))), (2, .int (nI (k + 1)))]) [1, 2, 0] rfl ?_
        exact ih_12 (k + 1) (by omega) (by omega)
  refine m_eq (S' := tmap S (laG (8 * (12 + mK S 16 - 2) + mN S 8 (12 + mK S 16 - 2)) (8 * (12 + mK S 16 - 2 + 1)) 0)) (tmap_id S (fun t => by unfold laG; rw [if_neg (by omega)])) ?_
  refine m_lv (lv' := [(0, .ref (q 0)), (1, .int (nI ((12 + (mK S 16)) - 2))), (2, .int (nI 0))]) [2, 1, 0] rfl ?_
  refine m_lve (lv' := [(0, .ref (q 0)), (1, .int (nI (12 + mK S 16 - 2))), (2, .int (nI 0))]) (rfl) ?_
  exact loop_12 _ 0 (by omega) (Nat.lt_succ_self _)
def dl_X7_chain : List (Nat × Instr × Nat) := [(0, .aload_n 0, 1), (1, .aload_n 0, 1), (2, .getfield 98, 3), (5, .iconst 2, 1), (6, .if_icmp .ge 7, 3), (9, .iconst 1, 1), (10, .goto 4, 3), (13, .iconst 0, 1), (14, .invokevirtual 84, 3), (17, .ifCond .ne 5, 3), (20, .iconst 0, 1), (21, .ireturn, 1), (22, .bipush 12, 2), (24, .aload_n 0, 1), (25, .getfield 98, 3), (28, .iadd, 1), (29, .iconst 2, 1), (30, .isub, 1), (31, .istore_n 1, 1), (32, .aload_n 0, 1), (33, .invokevirtual 115, 3), (36, .iconst 0, 1), (37, .istore_n 2, 1), (38, .iload_n 2, 1), (39, .sipush 256, 3), (42, .if_icmp .ge 68, 3), (45, .aload_n 0, 1), (46, .getfield 54, 3), (49, .iload_n 2, 1), (50, .aload_n 0, 1), (51, .getfield 39, 3), (54, .sipush 256, 3), (57, .iload_n 1, 1), (58, .imul, 1), (59, .iload_n 2, 1), (60, .iconst 1, 1), (61, .aload_n 0, 1), (62, .getfield 33, 3), (65, .iload_n 1, 1), (66, .iaload, 1), (67, .ishl, 1), (68, .irem, 1), (69, .iadd, 1), (70, .baload, 1), (71, .ifCond .eq 31, 3), (74, .aload_n 0, 1), (75, .getfield 39, 3), (78, .sipush 256, 3), (81, .iload_n 1, 1), (82, .iconst 1, 1), (83, .iadd, 1), (84, .imul, 1), (85, .iload_n 2, 1), (86, .aload_n 0, 1), (87, .getfield 33, 3), (90, .iload_n 1, 1), (91, .iaload, 1), (92, .ishr, 1), (93, .iadd, 1), (94, .baload, 1), (95, .ifCond .eq 7, 3), (98, .iconst 1, 1), (99, .goto 4, 3), (102, .iconst 0, 1), (103, .bastore, 1), (104, .iinc 2 1, 3), (107, .goto (-69), 3), (110, .aload_n 0, 1), (111, .iload_n 1, 1), (112, .aload_n 0, 1), (113, .getfield 33, 3), (116, .iload_n 1, 1), (117, .iaload, 1), (118, .aload_n 0, 1), (119, .getfield 33, 3), (122, .iload_n 1, 1), (123, .iconst 1, 1), (124, .iadd, 1), (125, .iaload, 1), (126, .iadd, 1), (127, .invokevirtual 118, 3), (130, .aload_n 0, 1), (131, .dup, 1), (132, .getfield 98, 3), (135, .iconst 1, 1), (136, .isub, 1), (137, .putfield 98, 3), (140, .aload_n 0, 1), (141, .getfield 98, 3), (144, .ireturn, 1)]
theorem dc_X7_chain : dnL cX7_chain dl_X7_chain = true := by decide +kernel
theorem d_X7_chain_0 : dn cX7_chain 0 (.aload_n 0) 1 1 := dnAt dc_X7_chain 0 rfl rfl
theorem d_X7_chain_1 : dn cX7_chain 1 (.aload_n 0) 1 2 := dnAt dc_X7_chain 1 rfl rfl
theorem d_X7_chain_2 : dn cX7_chain 2 (.getfield 98) 3 5 := dnAt dc_X7_chain 2 rfl rfl
theorem d_X7_chain_5 : dn cX7_chain 5 (.iconst 2) 1 6 := dnAt dc_X7_chain 3 rfl rfl
theorem d_X7_chain_6 : dn cX7_chain 6 (.if_icmp .ge 7) 3 9 := dnAt dc_X7_chain 4 rfl rfl
theorem d_X7_chain_9 : dn cX7_chain 9 (.iconst 1) 1 10 := dnAt dc_X7_chain 5 rfl rfl
theorem d_X7_chain_10 : dn cX7_chain 10 (.goto 4) 3 13 := dnAt dc_X7_chain 6 rfl rfl
theorem d_X7_chain_13 : dn cX7_chain 13 (.iconst 0) 1 14 := dnAt dc_X7_chain 7 rfl rfl
theorem d_X7_chain_14 : dn cX7_chain 14 (.invokevirtual 84) 3 17 := dnAt dc_X7_chain 8 rfl rfl
theorem d_X7_chain_17 : dn cX7_chain 17 (.ifCond .ne 5) 3 20 := dnAt dc_X7_chain 9 rfl rfl
theorem d_X7_chain_20 : dn cX7_chain 20 (.iconst 0) 1 21 := dnAt dc_X7_chain 10 rfl rfl
theorem d_X7_chain_21 : dn cX7_chain 21 (.ireturn) 1 22 := dnAt dc_X7_chain 11 rfl rfl
theorem d_X7_chain_22 : dn cX7_chain 22 (.bipush 12) 2 24 := dnAt dc_X7_chain 12 rfl rfl
theorem d_X7_chain_24 : dn cX7_chain 24 (.aload_n 0) 1 25 := dnAt dc_X7_chain 13 rfl rfl
theorem d_X7_chain_25 : dn cX7_chain 25 (.getfield 98) 3 28 := dnAt dc_X7_chain 14 rfl rfl
theorem d_X7_chain_28 : dn cX7_chain 28 (.iadd) 1 29 := dnAt dc_X7_chain 15 rfl rfl
theorem d_X7_chain_29 : dn cX7_chain 29 (.iconst 2) 1 30 := dnAt dc_X7_chain 16 rfl rfl
theorem d_X7_chain_30 : dn cX7_chain 30 (.isub) 1 31 := dnAt dc_X7_chain 17 rfl rfl
theorem d_X7_chain_31 : dn cX7_chain 31 (.istore_n 1) 1 32 := dnAt dc_X7_chain 18 rfl rfl
theorem d_X7_chain_32 : dn cX7_chain 32 (.aload_n 0) 1 33 := dnAt dc_X7_chain 19 rfl rfl
theorem d_X7_chain_33 : dn cX7_chain 33 (.invokevirtual 115) 3 36 := dnAt dc_X7_chain 20 rfl rfl
theorem d_X7_chain_36 : dn cX7_chain 36 (.iconst 0) 1 37 := dnAt dc_X7_chain 21 rfl rfl
theorem d_X7_chain_37 : dn cX7_chain 37 (.istore_n 2) 1 38 := dnAt dc_X7_chain 22 rfl rfl
theorem d_X7_chain_38 : dn cX7_chain 38 (.iload_n 2) 1 39 := dnAt dc_X7_chain 23 rfl rfl
theorem d_X7_chain_39 : dn cX7_chain 39 (.sipush 256) 3 42 := dnAt dc_X7_chain 24 rfl rfl
theorem d_X7_chain_42 : dn cX7_chain 42 (.if_icmp .ge 68) 3 45 := dnAt dc_X7_chain 25 rfl rfl
theorem d_X7_chain_45 : dn cX7_chain 45 (.aload_n 0) 1 46 := dnAt dc_X7_chain 26 rfl rfl
theorem d_X7_chain_46 : dn cX7_chain 46 (.getfield 54) 3 49 := dnAt dc_X7_chain 27 rfl rfl
theorem d_X7_chain_49 : dn cX7_chain 49 (.iload_n 2) 1 50 := dnAt dc_X7_chain 28 rfl rfl
theorem d_X7_chain_50 : dn cX7_chain 50 (.aload_n 0) 1 51 := dnAt dc_X7_chain 29 rfl rfl
theorem d_X7_chain_51 : dn cX7_chain 51 (.getfield 39) 3 54 := dnAt dc_X7_chain 30 rfl rfl
theorem d_X7_chain_54 : dn cX7_chain 54 (.sipush 256) 3 57 := dnAt dc_X7_chain 31 rfl rfl
theorem d_X7_chain_57 : dn cX7_chain 57 (.iload_n 1) 1 58 := dnAt dc_X7_chain 32 rfl rfl
theorem d_X7_chain_58 : dn cX7_chain 58 (.imul) 1 59 := dnAt dc_X7_chain 33 rfl rfl
theorem d_X7_chain_59 : dn cX7_chain 59 (.iload_n 2) 1 60 := dnAt dc_X7_chain 34 rfl rfl
theorem d_X7_chain_60 : dn cX7_chain 60 (.iconst 1) 1 61 := dnAt dc_X7_chain 35 rfl rfl
theorem d_X7_chain_61 : dn cX7_chain 61 (.aload_n 0) 1 62 := dnAt dc_X7_chain 36 rfl rfl
theorem d_X7_chain_62 : dn cX7_chain 62 (.getfield 33) 3 65 := dnAt dc_X7_chain 37 rfl rfl
theorem d_X7_chain_65 : dn cX7_chain 65 (.iload_n 1) 1 66 := dnAt dc_X7_chain 38 rfl rfl
theorem d_X7_chain_66 : dn cX7_chain 66 (.iaload) 1 67 := dnAt dc_X7_chain 39 rfl rfl
theorem d_X7_chain_67 : dn cX7_chain 67 (.ishl) 1 68 := dnAt dc_X7_chain 40 rfl rfl
theorem d_X7_chain_68 : dn cX7_chain 68 (.irem) 1 69 := dnAt dc_X7_chain 41 rfl rfl
theorem d_X7_chain_69 : dn cX7_chain 69 (.iadd) 1 70 := dnAt dc_X7_chain 42 rfl rfl
theorem d_X7_chain_70 : dn cX7_chain 70 (.baload) 1 71 := dnAt dc_X7_chain 43 rfl rfl
theorem d_X7_chain_71 : dn cX7_chain 71 (.ifCond .eq 31) 3 74 := dnAt dc_X7_chain 44 rfl rfl
theorem d_X7_chain_74 : dn cX7_chain 74 (.aload_n 0) 1 75 := dnAt dc_X7_chain 45 rfl rfl
theorem d_X7_chain_75 : dn cX7_chain 75 (.getfield 39) 3 78 := dnAt dc_X7_chain 46 rfl rfl
theorem d_X7_chain_78 : dn cX7_chain 78 (.sipush 256) 3 81 := dnAt dc_X7_chain 47 rfl rfl
theorem d_X7_chain_81 : dn cX7_chain 81 (.iload_n 1) 1 82 := dnAt dc_X7_chain 48 rfl rfl
theorem d_X7_chain_82 : dn cX7_chain 82 (.iconst 1) 1 83 := dnAt dc_X7_chain 49 rfl rfl
theorem d_X7_chain_83 : dn cX7_chain 83 (.iadd) 1 84 := dnAt dc_X7_chain 50 rfl rfl
theorem d_X7_chain_84 : dn cX7_chain 84 (.imul) 1 85 := dnAt dc_X7_chain 51 rfl rfl
theorem d_X7_chain_85 : dn cX7_chain 85 (.iload_n 2) 1 86 := dnAt dc_X7_chain 52 rfl rfl
theorem d_X7_chain_86 : dn cX7_chain 86 (.aload_n 0) 1 87 := dnAt dc_X7_chain 53 rfl rfl
theorem d_X7_chain_87 : dn cX7_chain 87 (.getfield 33) 3 90 := dnAt dc_X7_chain 54 rfl rfl
theorem d_X7_chain_90 : dn cX7_chain 90 (.iload_n 1) 1 91 := dnAt dc_X7_chain 55 rfl rfl
theorem d_X7_chain_91 : dn cX7_chain 91 (.iaload) 1 92 := dnAt dc_X7_chain 56 rfl rfl
theorem d_X7_chain_92 : dn cX7_chain 92 (.ishr) 1 93 := dnAt dc_X7_chain 57 rfl rfl
theorem d_X7_chain_93 : dn cX7_chain 93 (.iadd) 1 94 := dnAt dc_X7_chain 58 rfl rfl
theorem d_X7_chain_94 : dn cX7_chain 94 (.baload) 1 95 := dnAt dc_X7_chain 59 rfl rfl
theorem d_X7_chain_95 : dn cX7_chain 95 (.ifCond .eq 7) 3 98 := dnAt dc_X7_chain 60 rfl rfl
theorem d_X7_chain_98 : dn cX7_chain 98 (.iconst 1) 1 99 := dnAt dc_X7_chain 61 rfl rfl
theorem d_X7_chain_99 : dn cX7_chain 99 (.goto 4) 3 102 := dnAt dc_X7_chain 62 rfl rfl
theorem d_X7_chain_102 : dn cX7_chain 102 (.iconst 0) 1 103 := dnAt dc_X7_chain 63 rfl rfl
theorem d_X7_chain_103 : dn cX7_chain 103 (.bastore) 1 104 := dnAt dc_X7_chain 64 rfl rfl
theorem d_X7_chain_104 : dn cX7_chain 104 (.iinc 2 1) 3 107 := dnAt dc_X7_chain 65 rfl rfl
theorem d_X7_chain_107 : dn cX7_chain 107 (.goto (-69)) 3 110 := dnAt dc_X7_chain 66 rfl rfl
theorem d_X7_chain_110 : dn cX7_chain 110 (.aload_n 0) 1 111 := dnAt dc_X7_chain 67 rfl rfl
theorem d_X7_chain_111 : dn cX7_chain 111 (.iload_n 1) 1 112 := dnAt dc_X7_chain 68 rfl rfl
theorem d_X7_chain_112 : dn cX7_chain 112 (.aload_n 0) 1 113 := dnAt dc_X7_chain 69 rfl rfl
theorem d_X7_chain_113 : dn cX7_chain 113 (.getfield 33) 3 116 := dnAt dc_X7_chain 70 rfl rfl
theorem d_X7_chain_116 : dn cX7_chain 116 (.iload_n 1) 1 117 := dnAt dc_X7_chain 71 rfl rfl
theorem d_X7_chain_117 : dn cX7_chain 117 (.iaload) 1 118 := dnAt dc_X7_chain 72 rfl rfl
theorem d_X7_chain_118 : dn cX7_chain 118 (.aload_n 0) 1 119 := dnAt dc_X7_chain 73 rfl rfl
theorem d_X7_chain_119 : dn cX7_chain 119 (.getfield 33) 3 122 := dnAt dc_X7_chain 74 rfl rfl
theorem d_X7_chain_122 : dn cX7_chain 122 (.iload_n 1) 1 123 := dnAt dc_X7_chain 75 rfl rfl
theorem d_X7_chain_123 : dn cX7_chain 123 (.iconst 1) 1 124 := dnAt dc_X7_chain 76 rfl rfl
theorem d_X7_chain_124 : dn cX7_chain 124 (.iadd) 1 125 := dnAt dc_X7_chain 77 rfl rfl
theorem d_X7_chain_125 : dn cX7_chain 125 (.iaload) 1 126 := dnAt dc_X7_chain 78 rfl rfl
theorem d_X7_chain_126 : dn cX7_chain 126 (.iadd) 1 127 := dnAt dc_X7_chain 79 rfl rfl
theorem d_X7_chain_127 : dn cX7_chain 127 (.invokevirtual 118) 3 130 := dnAt dc_X7_chain 80 rfl rfl
theorem d_X7_chain_130 : dn cX7_chain 130 (.aload_n 0) 1 131 := dnAt dc_X7_chain 81 rfl rfl
theorem d_X7_chain_131 : dn cX7_chain 131 (.dup) 1 132 := dnAt dc_X7_chain 82 rfl rfl
theorem d_X7_chain_132 : dn cX7_chain 132 (.getfield 98) 3 135 := dnAt dc_X7_chain 83 rfl rfl
theorem d_X7_chain_135 : dn cX7_chain 135 (.iconst 1) 1 136 := dnAt dc_X7_chain 84 rfl rfl
theorem d_X7_chain_136 : dn cX7_chain 136 (.isub) 1 137 := dnAt dc_X7_chain 85 rfl rfl
theorem d_X7_chain_137 : dn cX7_chain 137 (.putfield 98) 3 140 := dnAt dc_X7_chain 86 rfl rfl
theorem d_X7_chain_140 : dn cX7_chain 140 (.aload_n 0) 1 141 := dnAt dc_X7_chain 87 rfl rfl
theorem d_X7_chain_141 : dn cX7_chain 141 (.getfield 98) 3 144 := dnAt dc_X7_chain 88 rfl rfl
theorem d_X7_chain_144 : dn cX7_chain 144 (.ireturn) 1 145 := dnAt dc_X7_chain 89 rfl rfl
set_option maxHeartbeats 4000000 in
set_option maxRecDepth 100000 in
theorem m_chain (S : mS) (I : mInv S) : mC yX7_chain cX7_chain 3 (Option.some Jvm.ClassFile.FieldType.int) { frames := 2, cells := 0, slots := 0, locals := 45 } [] S (fun v9 T9 => v9 = (some (.int (nI (rTwo S)))) ∧ T9 = tTwo S wCh) := by
  refine mC.of (by decide) (Nat.le_of_ble_eq_true rfl) ?_
  intro G x q h0 C A TY
  show VM G x q h0 S 0 [(0, .ref (q 0))] []
  refine m_aload_n C d_X7_chain_0 0 rfl ?_
  have join_14 : VM G x q h0 S 14 [(0, .ref (q 0))] [.int (nI (cTwo S)), .ref (q 0)] := by
    refine m_callV C d_X7_chain_14 ok_RX7_84 (m_holds S (cTwo S) (by unfold cTwo; split <;> omega)) rfl (rest := []) rfl rfl (Nat.le_of_ble_eq_true rfl) ⟨⟨by decide, by decide⟩, by decide, by decide⟩ (fun v9 T9 e9 => ?_)
    obtain ⟨rfl, e9⟩ := e9
    refine m_eq e9 ?_
    show VM G x q h0 (uK S 0 (cTwo S)) 17 [(0, .ref (q 0))] [.int (bI (decide (cTwo S = 0)))]
    refine mb_if_ne C d_X7_chain_17 (tgt := 22) rfl (fun c_17 => ?_) (fun c_17 => ?_)
    · skip
      have c0 := of_decide_eq_true c_17
      have h2 : 2 ≤ mK S 16 := by unfold cTwo at c0; split at c0 <;> omega
      have i1 := pile_le I
      have i2 := mInv_pair I h2
      have i3 := pow_256 (a := mN S 8 (12 + mK S 16 - 2)) (by omega)
      rw [c0]
      refine m_bipush C d_X7_chain_22 (v := (nI 12)) rfl ?_
      refine m_aload_n C d_X7_chain_24 0 rfl ?_
      refine m_get C d_X7_chain_25 fd_RX7_98 (v := .int (nI (mK (uK S 0 0) 16))) rfl ?_
      refine m_st (st' := [.int (nI (mK S 16)), .int (nI 12)]) rfl ?_
      refine mn_iadd C d_X7_chain_28 ?_
      refine m_iconst C d_X7_chain_29 (v := (nI 2)) rfl ?_
      refine mn_isub C d_X7_chain_30 (by omega) ?_
      refine m_istore_n C d_X7_chain_31 (lv' := [(1, .int (nI ((12 + (mK S 16)) - 2))), (0, .ref (q 0))]) (by decide) rfl ?_
      refine m_aload_n C d_X7_chain_32 1 rfl ?_
      refine m_callV C d_X7_chain_33 ok_RX7_115 (m_laysBehind (uK S 0 0) (I) (by show 2 ≤ mK S 16; omega)) rfl (rest := []) rfl rfl (Nat.le_of_ble_eq_true rfl) ⟨⟨by decide, by decide⟩, by decide, by decide⟩ (fun v9 T9 e9 => ?_)
      obtain ⟨rfl, e9⟩ := e9
      refine m_eq e9 ?_
      show VM G x q h0 (tLays (uK S 0 0)) 36 [(1, .int (nI ((12 + (mK S 16)) - 2))), (0, .ref (q 0))] []
      refine m_iconst C d_X7_chain_36 (v := (nI 0)) rfl ?_
      refine m_istore_n C d_X7_chain_37 (lv' := [(2, .int (nI 0)), (1, .int (nI ((12 + (mK S 16)) - 2))), (0, .ref (q 0))]) (by decide) rfl ?_
      have loop_38 : ∀ (fuel : Nat) (k : Nat), (k ≤ 256) → (257 - k) < fuel → VM G x q h0 (chL (tLays (uK S 0 0)) (wCh S (12 + mK S 16 - 2)) k) 38 [(0, .ref (q 0)), (1, .int (nI (12 + mK S 16 - 2))), (2, .int (nI k))] [] := by
        intro fuel
        induction fuel with
        | zero => intro k hk hf9; exact absurd hf9 (Nat.not_lt_zero _)
        | succ fuel ih_38 =>
          intro k hk hf9
          refine m_iload_n C d_X7_chain_38 2 rfl ?_
          refine m_sipush C d_X7_chain_39 (v := (nI 256)) rfl ?_
          refine mn_icmp_ge C d_X7_chain_42 (tgt := 110) rfl (by omega) (by omega) (fun c_42 => ?_) (fun c_42 => ?_)
          · skip
            obtain rfl : k = 256 := by omega
            refine m_aload_n C d_X7_chain_110 0 rfl ?_
            refine m_iload_n C d_X7_chain_111 1 rfl ?_
            refine m_aload_n C d_X7_chain_112 0 rfl ?_
            refine m_get C d_X7_chain_113 fd_RX7_33 (v := .ref (q 8)) rfl ?_
            refine m_iload_n C d_X7_chain_116 1 rfl ?_
            refine m_ald C d_X7_chain_117 (k := 8) (by decide) rfl (by show _ < 21; omega) (by decide) ?_
            refine m_st (st' := [.int (nI (mN S 8 (12 + mK S 16 - 2))), .int (nI (12 + mK S 16 - 2)), .ref (q 0)]) rfl ?_
            refine m_aload_n C d_X7_chain_118 0 rfl ?_
            refine m_get C d_X7_chain_119 fd_RX7_33 (v := .ref (q 8)) rfl ?_
            refine m_iload_n C d_X7_chain_122 1 rfl ?_
            refine m_iconst C d_X7_chain_123 (v := (nI 1)) rfl ?_
            refine mn_iadd C d_X7_chain_124 ?_
            refine m_ald C d_X7_chain_125 (k := 8) (by decide) rfl (by show _ < 21; omega) (by decide) ?_
            refine m_st (st' := [.int (nI (mN S 8 ((12 + mK S 16 - 2) + 1))), .int (nI (mN S 8 (12 + mK S 16 - 2))), .int (nI (12 + mK S 16 - 2)), .ref (q 0)]) rfl ?_
            refine mn_iadd C d_X7_chain_126 ?_
            refine m_callV C d_X7_chain_127 ok_RX7_118 (m_becomes (chL (tLays (uK S 0 0)) (wCh S (12 + mK S 16 - 2)) 256) (12 + mK S 16 - 2) ((mN S 8 (12 + mK S 16 - 2)) + (mN S 8 ((12 + mK S 16 - 2) + 1))) (by omega)) rfl (rest := []) rfl rfl (Nat.le_of_ble_eq_true rfl) ⟨⟨by decide, by decide⟩, by decide, by decide⟩ (fun v9 T9 e9 => ?_)
            obtain ⟨rfl, e9⟩ := e9
            refine m_eq e9 ?_
            show VM G x q h0 (tBec (chL (tLays (uK S 0 0)) (wCh S (12 + mK S 16 - 2)) 256) (12 + mK S 16 - 2) ((mN S 8 (12 + mK S 16 - 2)) + (mN S 8 ((12 + mK S 16 - 2) + 1)))) 130 [(0, .ref (q 0)), (1, .int (nI (12 + mK S 16 - 2))), (2, .int (nI 256))] []
            refine m_aload_n C d_X7_chain_130 0 rfl ?_
            refine m_dup C d_X7_chain_131 rfl ?_
            refine m_get C d_X7_chain_132 fd_RX7_98 (v := .int (nI (mK (tBec (chL (tLays (uK S 0 0)) (wCh S (12 + mK S 16 - 2)) 256) (12 + mK S 16 - 2) ((mN S 8 (12 + mK S 16 - 2)) + (mN S 8 ((12 + mK S 16 - 2) + 1)))) 16))) rfl ?_
            refine m_st (st' := [.int (nI (mK S 16)), .ref (q 0)]) rfl ?_
            refine m_iconst C d_X7_chain_135 (v := (nI 1)) rfl ?_
            refine mn_isub C d_X7_chain_136 (by omega) ?_
            refine m_putK C d_X7_chain_137 pf_RX7_98 (by decide) (fun _ _ => rfl) ?_
            refine m_aload_n C d_X7_chain_140 0 rfl ?_
            refine m_get C d_X7_chain_141 fd_RX7_98 (v := .int (nI (mK (uK (tBec (chL (tLays (uK S 0 0)) (wCh S (12 + mK S 16 - 2)) 256) (12 + mK S 16 - 2) ((mN S 8 (12 + mK S 16 - 2)) + (mN S 8 ((12 + mK S 16 - 2) + 1)))) 16 ((mK S 16) - 1)) 16))) rfl ?_
            refine m_st (st' := [.int (nI ((mK S 16) - 1))]) rfl ?_
            refine m_st (st' := [.int (nI (rTwo S))]) (by rw [rTwo, if_pos c0]) ?_
            exact m_iret C A TY d_X7_chain_144 rfl (⟨rfl, by rw [tTwo, if_pos c0]⟩)
          · skip
            have join_103 : VM G x q h0 (chL (tLays (uK S 0 0)) (wCh S (12 + mK S 16 - 2)) k) 103 [(0, .ref (q 0)), (1, .int (nI (12 + mK S 16 - 2))), (2, .int (nI k))] [.int (bI (wCh S (12 + mK S 16 - 2) k)), .int (nI k), .ref (q 17)] := by
              refine m_zst C d_X7_chain_103 (k := 17) (v := wCh S (12 + mK S 16 - 2) k) (by decide) rfl (by show _ < 256; omega) (by decide) ?_
              refine mn_iinc C d_X7_chain_104 (lv' := [(2, .int (nI (k + 1))), (0, .ref (q 0)), (1, .int (nI (12 + mK S 16 - 2)))]) 2 rfl (nI_inc _ rfl) (by decide) rfl ?_
              refine m_goto C d_X7_chain_107 (tgt := 38) rfl ?_
              refine m_eq (S' := chL (tLays (uK S 0 0)) (wCh S (12 + mK S 16 - 2)) (k + 1)) (chL_step) ?_
              refine m_lv (lv' := [(0, .ref (q 0)), (1, .int (nI (12 + mK S 16 - 2))), (2, .int (nI (k + 1)))]) [1, 2, 0] rfl ?_
              exact ih_38 (k + 1) (by omega) (by omega)
            refine m_aload_n C d_X7_chain_45 0 rfl ?_
            refine m_get C d_X7_chain_46 fd_RX7_54 (v := .ref (q 17)) rfl ?_
            refine m_iload_n C d_X7_chain_49 2 rfl ?_
            refine m_aload_n C d_X7_chain_50 0 rfl ?_
            refine m_get C d_X7_chain_51 fd_RX7_39 (v := .ref (q 10)) rfl ?_
            refine m_sipush C d_X7_chain_54 (v := (nI 256)) rfl ?_
            refine m_iload_n C d_X7_chain_57 1 rfl ?_
            refine mn_imul C d_X7_chain_58 ?_
            refine m_iload_n C d_X7_chain_59 2 rfl ?_
            refine m_iconst C d_X7_chain_60 (v := (nI 1)) rfl ?_
            refine m_aload_n C d_X7_chain_61 0 rfl ?_
            refine m_get C d_X7_chain_62 fd_RX7_33 (v := .ref (q 8)) rfl ?_
            refine m_iload_n C d_X7_chain_65 1 rfl ?_
            refine m_ald C d_X7_chain_66 (k := 8) (by decide) rfl (by show _ < 21; omega) (by decide) ?_
            refine m_st (st' := [.int (nI (mN S 8 (12 + mK S 16 - 2))), .int (nI 1), .int (nI k), .int (nI (256 * (12 + mK S 16 - 2))), .ref (q 10), .int (nI k), .ref (q 17)]) rfl ?_
            refine mn_ishl C d_X7_chain_67 (by omega) ?_
            refine m_st (st' := [.int (nI (2 ^ mN S 8 (12 + mK S 16 - 2))), .int (nI k), .int (nI (256 * (12 + mK S 16 - 2))), .ref (q 10), .int (nI k), .ref (q 17)]) (by rw [Nat.one_mul]) ?_
            refine mn_irem C d_X7_chain_68 (by omega) (i3.1) (by omega) ?_
            refine mn_iadd C d_X7_chain_69 ?_
            refine m_zld C d_X7_chain_70 (k := 10) (by decide) rfl (by have := Nat.mod_le k (2 ^ mN S 8 (12 + mK S 16 - 2)); show _ < 5376; omega) (by decide) ?_
            refine m_st (st' := [.int (bI (mB S 10 ((256 * (12 + mK S 16 - 2)) + (k % (2 ^ mN S 8 (12 + mK S 16 - 2)))))), .int (nI k), .ref (q 17)]) rfl ?_
            refine mb_if_eq C d_X7_chain_71 (tgt := 102) rfl (fun c_71 => ?_) (fun c_71 => ?_)
            · skip
              refine m_iconst C d_X7_chain_102 (v := (bI false)) rfl ?_
              refine m_st (st' := [.int (bI (wCh S (12 + mK S 16 - 2) k)), .int (nI k), .ref (q 17)]) (by first | (rw [wCh, c_71, c_95]; rfl) | (rw [wCh, c_71]; rfl)) ?_
              exact join_103  
            · skip
              refine m_aload_n C d_X7_chain_74 0 rfl ?_
              refine m_get C d_X7_chain_75 fd_RX7_39 (v := .ref (q 10)) rfl ?_
              refine m_sipush C d_X7_chain_78 (v := (nI 256)) rfl ?_
              refine m_iload_n C d_X7_chain_81 1 rfl ?_
              refine m_iconst C d_X7_chain_82 (v := (nI 1)) rfl ?_
              refine mn_iadd C d_X7_chain_83 ?_
              refine mn_imul C d_X7_chain_84 ?_
              refine m_iload_n C d_X7_chain_85 2 rfl ?_
              refine m_aload_n C d_X7_chain_86 0 rfl ?_
              refine m_get C d_X7_chain_87 fd_RX7_33 (v := .ref (q 8)) rfl ?_
              refine m_iload_n C d_X7_chain_90 1 rfl ?_
              refine m_ald C d_X7_chain_91 (k := 8) (by decide) rfl (by show _ < 21; omega) (by decide) ?_
              refine m_st (st' := [.int (nI (mN S 8 (12 + mK S 16 - 2))), .int (nI k), .int (nI (256 * ((12 + mK S 16 - 2) + 1))), .ref (q 10), .int (nI k), .ref (q 17)]) rfl ?_
              refine mn_ishr C d_X7_chain_92 (by omega) (by omega) ?_
              refine mn_iadd C d_X7_chain_93 ?_
              refine m_zld C d_X7_chain_94 (k := 10) (by decide) rfl (by have := Nat.div_le_self k (2 ^ mN S 8 (12 + mK S 16 - 2)); show _ < 5376; omega) (by decide) ?_
              refine m_st (st' := [.int (bI (mB S 10 ((256 * ((12 + mK S 16 - 2) + 1)) + (k / 2 ^ (mN S 8 (12 + mK S 16 - 2)))))), .int (nI k), .ref (q 17)]) rfl ?_
              refine mb_if_eq C d_X7_chain_95 (tgt := 102) rfl (fun c_95 => ?_) (fun c_95 => ?_)
              · skip
                refine m_iconst C d_X7_chain_102 (v := (bI false)) rfl ?_
                refine m_st (st' := [.int (bI (wCh S (12 + mK S 16 - 2) k)), .int (nI k), .ref (q 17)]) (by first | (rw [wCh, c_71, c_95]; rfl) | (rw [wCh, c_71]; rfl)) ?_
                exact join_103  
              · skip
                refine m_iconst C d_X7_chain_98 (v := (bI true)) rfl ?_
                refine m_goto C d_X7_chain_99 (tgt := 103) rfl ?_
                refine m_st (st' := [.int (bI (wCh S (12 + mK S 16 - 2) k)), .int (nI k), .ref (q 17)]) (by first | (rw [wCh, c_71, c_95]; rfl) | (rw [wCh, c_71]; rfl)) ?_
                exact join_103  
      refine m_eq (S' := chL (tLays (uK S 0 0)) (wCh S (12 + mK S 16 - 2)) 0) (chL_0 _ _) ?_
      refine m_lv (lv' := [(0, .ref (q 0)), (1, .int (nI ((12 + (mK S 16)) - 2))), (2, .int (nI 0))]) [2, 1, 0] rfl ?_
      refine m_lve (lv' := [(0, .ref (q 0)), (1, .int (nI (12 + mK S 16 - 2))), (2, .int (nI 0))]) (rfl) ?_
      exact loop_38 _ 0 (by omega) (Nat.lt_succ_self _)
    · skip
      have c1 := of_decide_eq_false c_17
      have c2 : cTwo S = 1 := by unfold cTwo at c1 ⊢; split at c1 <;> first | omega | (rw [if_pos (by assumption)])
      rw [c2]
      refine m_iconst C d_X7_chain_20 (v := (nI 0)) rfl ?_
      refine m_st (st' := [.int (nI (rTwo S))]) (by rw [rTwo, if_neg c1]) ?_
      exact m_iret C A TY d_X7_chain_21 rfl (⟨rfl, by rw [tTwo, if_neg c1]⟩)
  refine m_aload_n C d_X7_chain_1 0 rfl ?_
  refine m_get C d_X7_chain_2 fd_RX7_98 (v := .int (nI (mK S 16))) rfl ?_
  refine m_iconst C d_X7_chain_5 (v := (nI 2)) rfl ?_
  refine mn_icmp_ge C d_X7_chain_6 (tgt := 13) rfl (by have := pile_le I; omega) (by omega) (fun c_6 => ?_) (fun c_6 => ?_)
  · skip
    refine m_iconst C d_X7_chain_13 (v := (nI 0)) rfl ?_
    refine m_st (st' := [.int (nI (cTwo S)), .ref (q 0)]) (by first | rw [cTwo, if_pos (by omega)] | rw [cTwo, if_neg (by omega)]) ?_
    exact join_14  
  · skip
    refine m_iconst C d_X7_chain_9 (v := (nI 1)) rfl ?_
    refine m_goto C d_X7_chain_10 (tgt := 14) rfl ?_
    refine m_st (st' := [.int (nI (cTwo S)), .ref (q 0)]) (by first | rw [cTwo, if_pos (by omega)] | rw [cTwo, if_neg (by omega)]) ?_
    exact join_14  
def dl_X7_either : List (Nat × Instr × Nat) := [(0, .aload_n 0, 1), (1, .aload_n 0, 1), (2, .getfield 98, 3), (5, .iconst 2, 1), (6, .if_icmp .ge 7, 3), (9, .iconst 1, 1), (10, .goto 4, 3), (13, .iconst 0, 1), (14, .invokevirtual 84, 3), (17, .ifCond .ne 5, 3), (20, .iconst 0, 1), (21, .ireturn, 1), (22, .bipush 12, 2), (24, .aload_n 0, 1), (25, .getfield 98, 3), (28, .iadd, 1), (29, .iconst 2, 1), (30, .isub, 1), (31, .istore_n 1, 1), (32, .iconst 1, 1), (33, .aload_n 0, 1), (34, .getfield 33, 3), (37, .iload_n 1, 1), (38, .iaload, 1), (39, .ishl, 1), (40, .istore_n 2, 1), (41, .aload_n 0, 1), (42, .invokevirtual 115, 3), (45, .iconst 0, 1), (46, .istore_n 3, 1), (47, .iload_n 3, 1), (48, .sipush 256, 3), (51, .if_icmp .ge 70, 3), (54, .aload_n 0, 1), (55, .getfield 54, 3), (58, .iload_n 3, 1), (59, .iload_n 3, 1), (60, .iload_n 2, 1), (61, .if_icmp .ge 18, 3), (64, .aload_n 0, 1), (65, .getfield 39, 3), (68, .sipush 256, 3), (71, .iload_n 1, 1), (72, .imul, 1), (73, .iload_n 3, 1), (74, .iadd, 1), (75, .baload, 1), (76, .ifCond .ne 33, 3), (79, .iload_n 3, 1), (80, .iload_n 2, 1), (81, .irem, 1), (82, .ifCond .ne 31, 3), (85, .aload_n 0, 1), (86, .getfield 39, 3), (89, .sipush 256, 3), (92, .iload_n 1, 1), (93, .iconst 1, 1), (94, .iadd, 1), (95, .imul, 1), (96, .iload_n 3, 1), (97, .aload_n 0, 1), (98, .getfield 33, 3), (101, .iload_n 1, 1), (102, .iaload, 1), (103, .ishr, 1), (104, .iadd, 1), (105, .baload, 1), (106, .ifCond .eq 7, 3), (109, .iconst 1, 1), (110, .goto 4, 3), (113, .iconst 0, 1), (114, .bastore, 1), (115, .iinc 3 1, 3), (118, .goto (-71), 3), (121, .aload_n 0, 1), (122, .iload_n 1, 1), (123, .aload_n 0, 1), (124, .getfield 33, 3), (127, .iload_n 1, 1), (128, .iaload, 1), (129, .aload_n 0, 1), (130, .getfield 33, 3), (133, .iload_n 1, 1), (134, .iconst 1, 1), (135, .iadd, 1), (136, .iaload, 1), (137, .iadd, 1), (138, .invokevirtual 118, 3), (141, .aload_n 0, 1), (142, .dup, 1), (143, .getfield 98, 3), (146, .iconst 1, 1), (147, .isub, 1), (148, .putfield 98, 3), (151, .aload_n 0, 1), (152, .getfield 98, 3), (155, .ireturn, 1)]
theorem dc_X7_either : dnL cX7_either dl_X7_either = true := by decide +kernel
theorem d_X7_either_0 : dn cX7_either 0 (.aload_n 0) 1 1 := dnAt dc_X7_either 0 rfl rfl
theorem d_X7_either_1 : dn cX7_either 1 (.aload_n 0) 1 2 := dnAt dc_X7_either 1 rfl rfl
theorem d_X7_either_2 : dn cX7_either 2 (.getfield 98) 3 5 := dnAt dc_X7_either 2 rfl rfl
theorem d_X7_either_5 : dn cX7_either 5 (.iconst 2) 1 6 := dnAt dc_X7_either 3 rfl rfl
theorem d_X7_either_6 : dn cX7_either 6 (.if_icmp .ge 7) 3 9 := dnAt dc_X7_either 4 rfl rfl
theorem d_X7_either_9 : dn cX7_either 9 (.iconst 1) 1 10 := dnAt dc_X7_either 5 rfl rfl
theorem d_X7_either_10 : dn cX7_either 10 (.goto 4) 3 13 := dnAt dc_X7_either 6 rfl rfl
theorem d_X7_either_13 : dn cX7_either 13 (.iconst 0) 1 14 := dnAt dc_X7_either 7 rfl rfl
theorem d_X7_either_14 : dn cX7_either 14 (.invokevirtual 84) 3 17 := dnAt dc_X7_either 8 rfl rfl
theorem d_X7_either_17 : dn cX7_either 17 (.ifCond .ne 5) 3 20 := dnAt dc_X7_either 9 rfl rfl
theorem d_X7_either_20 : dn cX7_either 20 (.iconst 0) 1 21 := dnAt dc_X7_either 10 rfl rfl
theorem d_X7_either_21 : dn cX7_either 21 (.ireturn) 1 22 := dnAt dc_X7_either 11 rfl rfl
theorem d_X7_either_22 : dn cX7_either 22 (.bipush 12) 2 24 := dnAt dc_X7_either 12 rfl rfl
theorem d_X7_either_24 : dn cX7_either 24 (.aload_n 0) 1 25 := dnAt dc_X7_either 13 rfl rfl
theorem d_X7_either_25 : dn cX7_either 25 (.getfield 98) 3 28 := dnAt dc_X7_either 14 rfl rfl
theorem d_X7_either_28 : dn cX7_either 28 (.iadd) 1 29 := dnAt dc_X7_either 15 rfl rfl
theorem d_X7_either_29 : dn cX7_either 29 (.iconst 2) 1 30 := dnAt dc_X7_either 16 rfl rfl
theorem d_X7_either_30 : dn cX7_either 30 (.isub) 1 31 := dnAt dc_X7_either 17 rfl rfl
theorem d_X7_either_31 : dn cX7_either 31 (.istore_n 1) 1 32 := dnAt dc_X7_either 18 rfl rfl
theorem d_X7_either_32 : dn cX7_either 32 (.iconst 1) 1 33 := dnAt dc_X7_either 19 rfl rfl
theorem d_X7_either_33 : dn cX7_either 33 (.aload_n 0) 1 34 := dnAt dc_X7_either 20 rfl rfl
theorem d_X7_either_34 : dn cX7_either 34 (.getfield 33) 3 37 := dnAt dc_X7_either 21 rfl rfl
theorem d_X7_either_37 : dn cX7_either 37 (.iload_n 1) 1 38 := dnAt dc_X7_either 22 rfl rfl
theorem d_X7_either_38 : dn cX7_either 38 (.iaload) 1 39 := dnAt dc_X7_either 23 rfl rfl
theorem d_X7_either_39 : dn cX7_either 39 (.ishl) 1 40 := dnAt dc_X7_either 24 rfl rfl
theorem d_X7_either_40 : dn cX7_either 40 (.istore_n 2) 1 41 := dnAt dc_X7_either 25 rfl rfl
theorem d_X7_either_41 : dn cX7_either 41 (.aload_n 0) 1 42 := dnAt dc_X7_either 26 rfl rfl
theorem d_X7_either_42 : dn cX7_either 42 (.invokevirtual 115) 3 45 := dnAt dc_X7_either 27 rfl rfl
theorem d_X7_either_45 : dn cX7_either 45 (.iconst 0) 1 46 := dnAt dc_X7_either 28 rfl rfl
theorem d_X7_either_46 : dn cX7_either 46 (.istore_n 3) 1 47 := dnAt dc_X7_either 29 rfl rfl
theorem d_X7_either_47 : dn cX7_either 47 (.iload_n 3) 1 48 := dnAt dc_X7_either 30 rfl rfl
theorem d_X7_either_48 : dn cX7_either 48 (.sipush 256) 3 51 := dnAt dc_X7_either 31 rfl rfl
theorem d_X7_either_51 : dn cX7_either 51 (.if_icmp .ge 70) 3 54 := dnAt dc_X7_either 32 rfl rfl
theorem d_X7_either_54 : dn cX7_either 54 (.aload_n 0) 1 55 := dnAt dc_X7_either 33 rfl rfl
theorem d_X7_either_55 : dn cX7_either 55 (.getfield 54) 3 58 := dnAt dc_X7_either 34 rfl rfl
theorem d_X7_either_58 : dn cX7_either 58 (.iload_n 3) 1 59 := dnAt dc_X7_either 35 rfl rfl
theorem d_X7_either_59 : dn cX7_either 59 (.iload_n 3) 1 60 := dnAt dc_X7_either 36 rfl rfl
theorem d_X7_either_60 : dn cX7_either 60 (.iload_n 2) 1 61 := dnAt dc_X7_either 37 rfl rfl
theorem d_X7_either_61 : dn cX7_either 61 (.if_icmp .ge 18) 3 64 := dnAt dc_X7_either 38 rfl rfl
theorem d_X7_either_64 : dn cX7_either 64 (.aload_n 0) 1 65 := dnAt dc_X7_either 39 rfl rfl
theorem d_X7_either_65 : dn cX7_either 65 (.getfield 39) 3 68 := dnAt dc_X7_either 40 rfl rfl
theorem d_X7_either_68 : dn cX7_either 68 (.sipush 256) 3 71 := dnAt dc_X7_either 41 rfl rfl
theorem d_X7_either_71 : dn cX7_either 71 (.iload_n 1) 1 72 := dnAt dc_X7_either 42 rfl rfl
theorem d_X7_either_72 : dn cX7_either 72 (.imul) 1 73 := dnAt dc_X7_either 43 rfl rfl
theorem d_X7_either_73 : dn cX7_either 73 (.iload_n 3) 1 74 := dnAt dc_X7_either 44 rfl rfl
theorem d_X7_either_74 : dn cX7_either 74 (.iadd) 1 75 := dnAt dc_X7_either 45 rfl rfl
theorem d_X7_either_75 : dn cX7_either 75 (.baload) 1 76 := dnAt dc_X7_either 46 rfl rfl
theorem d_X7_either_76 : dn cX7_either 76 (.ifCond .ne 33) 3 79 := dnAt dc_X7_either 47 rfl rfl
theorem d_X7_either_79 : dn cX7_either 79 (.iload_n 3) 1 80 := dnAt dc_X7_either 48 rfl rfl
theorem d_X7_either_80 : dn cX7_either 80 (.iload_n 2) 1 81 := dnAt dc_X7_either 49 rfl rfl
theorem d_X7_either_81 : dn cX7_either 81 (.irem) 1 82 := dnAt dc_X7_either 50 rfl rfl
theorem d_X7_either_82 : dn cX7_either 82 (.ifCond .ne 31) 3 85 := dnAt dc_X7_either 51 rfl rfl
theorem d_X7_either_85 : dn cX7_either 85 (.aload_n 0) 1 86 := dnAt dc_X7_either 52 rfl rfl
theorem d_X7_either_86 : dn cX7_either 86 (.getfield 39) 3 89 := dnAt dc_X7_either 53 rfl rfl
theorem d_X7_either_89 : dn cX7_either 89 (.sipush 256) 3 92 := dnAt dc_X7_either 54 rfl rfl
theorem d_X7_either_92 : dn cX7_either 92 (.iload_n 1) 1 93 := dnAt dc_X7_either 55 rfl rfl
theorem d_X7_either_93 : dn cX7_either 93 (.iconst 1) 1 94 := dnAt dc_X7_either 56 rfl rfl
theorem d_X7_either_94 : dn cX7_either 94 (.iadd) 1 95 := dnAt dc_X7_either 57 rfl rfl
theorem d_X7_either_95 : dn cX7_either 95 (.imul) 1 96 := dnAt dc_X7_either 58 rfl rfl
theorem d_X7_either_96 : dn cX7_either 96 (.iload_n 3) 1 97 := dnAt dc_X7_either 59 rfl rfl
theorem d_X7_either_97 : dn cX7_either 97 (.aload_n 0) 1 98 := dnAt dc_X7_either 60 rfl rfl
theorem d_X7_either_98 : dn cX7_either 98 (.getfield 33) 3 101 := dnAt dc_X7_either 61 rfl rfl
theorem d_X7_either_101 : dn cX7_either 101 (.iload_n 1) 1 102 := dnAt dc_X7_either 62 rfl rfl
theorem d_X7_either_102 : dn cX7_either 102 (.iaload) 1 103 := dnAt dc_X7_either 63 rfl rfl
theorem d_X7_either_103 : dn cX7_either 103 (.ishr) 1 104 := dnAt dc_X7_either 64 rfl rfl
theorem d_X7_either_104 : dn cX7_either 104 (.iadd) 1 105 := dnAt dc_X7_either 65 rfl rfl
theorem d_X7_either_105 : dn cX7_either 105 (.baload) 1 106 := dnAt dc_X7_either 66 rfl rfl
theorem d_X7_either_106 : dn cX7_either 106 (.ifCond .eq 7) 3 109 := dnAt dc_X7_either 67 rfl rfl
theorem d_X7_either_109 : dn cX7_either 109 (.iconst 1) 1 110 := dnAt dc_X7_either 68 rfl rfl
theorem d_X7_either_110 : dn cX7_either 110 (.goto 4) 3 113 := dnAt dc_X7_either 69 rfl rfl
theorem d_X7_either_113 : dn cX7_either 113 (.iconst 0) 1 114 := dnAt dc_X7_either 70 rfl rfl
theorem d_X7_either_114 : dn cX7_either 114 (.bastore) 1 115 := dnAt dc_X7_either 71 rfl rfl
theorem d_X7_either_115 : dn cX7_either 115 (.iinc 3 1) 3 118 := dnAt dc_X7_either 72 rfl rfl
theorem d_X7_either_118 : dn cX7_either 118 (.goto (-71)) 3 121 := dnAt dc_X7_either 73 rfl rfl
theorem d_X7_either_121 : dn cX7_either 121 (.aload_n 0) 1 122 := dnAt dc_X7_either 74 rfl rfl
theorem d_X7_either_122 : dn cX7_either 122 (.iload_n 1) 1 123 := dnAt dc_X7_either 75 rfl rfl
theorem d_X7_either_123 : dn cX7_either 123 (.aload_n 0) 1 124 := dnAt dc_X7_either 76 rfl rfl
theorem d_X7_either_124 : dn cX7_either 124 (.getfield 33) 3 127 := dnAt dc_X7_either 77 rfl rfl
theorem d_X7_either_127 : dn cX7_either 127 (.iload_n 1) 1 128 := dnAt dc_X7_either 78 rfl rfl
theorem d_X7_either_128 : dn cX7_either 128 (.iaload) 1 129 := dnAt dc_X7_either 79 rfl rfl
theorem d_X7_either_129 : dn cX7_either 129 (.aload_n 0) 1 130 := dnAt dc_X7_either 80 rfl rfl
theorem d_X7_either_130 : dn cX7_either 130 (.getfield 33) 3 133 := dnAt dc_X7_either 81 rfl rfl
theorem d_X7_either_133 : dn cX7_either 133 (.iload_n 1) 1 134 := dnAt dc_X7_either 82 rfl rfl
theorem d_X7_either_134 : dn cX7_either 134 (.iconst 1) 1 135 := dnAt dc_X7_either 83 rfl rfl
theorem d_X7_either_135 : dn cX7_either 135 (.iadd) 1 136 := dnAt dc_X7_either 84 rfl rfl
theorem d_X7_either_136 : dn cX7_either 136 (.iaload) 1 137 := dnAt dc_X7_either 85 rfl rfl
theorem d_X7_either_137 : dn cX7_either 137 (.iadd) 1 138 := dnAt dc_X7_either 86 rfl rfl
theorem d_X7_either_138 : dn cX7_either 138 (.invokevirtual 118) 3 141 := dnAt dc_X7_either 87 rfl rfl
theorem d_X7_either_141 : dn cX7_either 141 (.aload_n 0) 1 142 := dnAt dc_X7_either 88 rfl rfl
theorem d_X7_either_142 : dn cX7_either 142 (.dup) 1 143 := dnAt dc_X7_either 89 rfl rfl
theorem d_X7_either_143 : dn cX7_either 143 (.getfield 98) 3 146 := dnAt dc_X7_either 90 rfl rfl
theorem d_X7_either_146 : dn cX7_either 146 (.iconst 1) 1 147 := dnAt dc_X7_either 91 rfl rfl
theorem d_X7_either_147 : dn cX7_either 147 (.isub) 1 148 := dnAt dc_X7_either 92 rfl rfl
theorem d_X7_either_148 : dn cX7_either 148 (.putfield 98) 3 151 := dnAt dc_X7_either 93 rfl rfl
theorem d_X7_either_151 : dn cX7_either 151 (.aload_n 0) 1 152 := dnAt dc_X7_either 94 rfl rfl
theorem d_X7_either_152 : dn cX7_either 152 (.getfield 98) 3 155 := dnAt dc_X7_either 95 rfl rfl
theorem d_X7_either_155 : dn cX7_either 155 (.ireturn) 1 156 := dnAt dc_X7_either 96 rfl rfl
set_option maxHeartbeats 4000000 in
set_option maxRecDepth 100000 in
theorem m_either (S : mS) (I : mInv S) : mC yX7_either cX7_either 4 (Option.some Jvm.ClassFile.FieldType.int) { frames := 2, cells := 0, slots := 0, locals := 45 } [] S (fun v9 T9 => v9 = (some (.int (nI (rTwo S)))) ∧ T9 = tTwo S wEi) := by
  refine mC.of (by decide) (Nat.le_of_ble_eq_true rfl) ?_
  intro G x q h0 C A TY
  show VM G x q h0 S 0 [(0, .ref (q 0))] []
  refine m_aload_n C d_X7_either_0 0 rfl ?_
  have join_14 : VM G x q h0 S 14 [(0, .ref (q 0))] [.int (nI (cTwo S)), .ref (q 0)] := by
    refine m_callV C d_X7_either_14 ok_RX7_84 (m_holds S (cTwo S) (by unfold cTwo; split <;> omega)) rfl (rest := []) rfl rfl (Nat.le_of_ble_eq_true rfl) ⟨⟨by decide, by decide⟩, by decide, by decide⟩ (fun v9 T9 e9 => ?_)
    obtain ⟨rfl, e9⟩ := e9
    refine m_eq e9 ?_
    show VM G x q h0 (uK S 0 (cTwo S)) 17 [(0, .ref (q 0))] [.int (bI (decide (cTwo S = 0)))]
    refine mb_if_ne C d_X7_either_17 (tgt := 22) rfl (fun c_17 => ?_) (fun c_17 => ?_)
    · skip
      have c0 := of_decide_eq_true c_17
      have h2 : 2 ≤ mK S 16 := by unfold cTwo at c0; split at c0 <;> omega
      have i1 := pile_le I
      have i2 := mInv_pair I h2
      have i3 := pow_256 (a := mN S 8 (12 + mK S 16 - 2)) (by omega)
      rw [c0]
      refine m_bipush C d_X7_either_22 (v := (nI 12)) rfl ?_
      refine m_aload_n C d_X7_either_24 0 rfl ?_
      refine m_get C d_X7_either_25 fd_RX7_98 (v := .int (nI (mK (uK S 0 0) 16))) rfl ?_
      refine m_st (st' := [.int (nI (mK S 16)), .int (nI 12)]) rfl ?_
      refine mn_iadd C d_X7_either_28 ?_
      refine m_iconst C d_X7_either_29 (v := (nI 2)) rfl ?_
      refine mn_isub C d_X7_either_30 (by omega) ?_
      refine m_istore_n C d_X7_either_31 (lv' := [(1, .int (nI ((12 + (mK S 16)) - 2))), (0, .ref (q 0))]) (by decide) rfl ?_
      refine m_iconst C d_X7_either_32 (v := (nI 1)) rfl ?_
      refine m_aload_n C d_X7_either_33 1 rfl ?_
      refine m_get C d_X7_either_34 fd_RX7_33 (v := .ref (q 8)) rfl ?_
      refine m_iload_n C d_X7_either_37 0 rfl ?_
      refine m_ald C d_X7_either_38 (k := 8) (by decide) rfl (by show _ < 21; omega) (by decide) ?_
      refine m_st (st' := [.int (nI (mN S 8 ((12 + (mK S 16)) - 2))), .int (nI 1)]) rfl ?_
      refine mn_ishl C d_X7_either_39 (by omega) ?_
      refine m_st (st' := [.int (nI (2 ^ mN S 8 (12 + mK S 16 - 2)))]) (by rw [Nat.one_mul]) ?_
      refine m_istore_n C d_X7_either_40 (lv' := [(2, .int (nI (2 ^ mN S 8 (12 + mK S 16 - 2)))), (1, .int (nI ((12 + (mK S 16)) - 2))), (0, .ref (q 0))]) (by decide) rfl ?_
      refine m_aload_n C d_X7_either_41 2 rfl ?_
      refine m_callV C d_X7_either_42 ok_RX7_115 (m_laysBehind (uK S 0 0) (I) (by show 2 ≤ mK S 16; omega)) rfl (rest := []) rfl rfl (Nat.le_of_ble_eq_true rfl) ⟨⟨by decide, by decide⟩, by decide, by decide⟩ (fun v9 T9 e9 => ?_)
      obtain ⟨rfl, e9⟩ := e9
      refine m_eq e9 ?_
      show VM G x q h0 (tLays (uK S 0 0)) 45 [(2, .int (nI (2 ^ mN S 8 (12 + mK S 16 - 2)))), (1, .int (nI ((12 + (mK S 16)) - 2))), (0, .ref (q 0))] []
      refine m_iconst C d_X7_either_45 (v := (nI 0)) rfl ?_
      refine m_istore_n C d_X7_either_46 (lv' := [(3, .int (nI 0)), (2, .int (nI (2 ^ mN S 8 (12 + mK S 16 - 2)))), (1, .int (nI ((12 + (mK S 16)) - 2))), (0, .ref (q 0))]) (by decide) rfl ?_
      have loop_47 : ∀ (fuel : Nat) (k : Nat), (k ≤ 256) → (257 - k) < fuel → VM G x q h0 (chL (tLays (uK S 0 0)) (wEi S (12 + mK S 16 - 2)) k) 47 [(0, .ref (q 0)), (1, .int (nI (12 + mK S 16 - 2))), (2, .int (nI (2 ^ mN S 8 (12 + mK S 16 - 2)))), (3, .int (nI k))] [] := by
        intro fuel
        induction fuel with
        | zero => intro k hk hf9; exact absurd hf9 (Nat.not_lt_zero _)
        | succ fuel ih_47 =>
          intro k hk hf9
          refine m_iload_n C d_X7_either_47 3 rfl ?_
          refine m_sipush C d_X7_either_48 (v := (nI 256)) rfl ?_
          refine mn_icmp_ge C d_X7_either_51 (tgt := 121) rfl (by omega) (by omega) (fun c_51 => ?_) (fun c_51 => ?_)
          · skip
            obtain rfl : k = 256 := by omega
            refine m_aload_n C d_X7_either_121 0 rfl ?_
            refine m_iload_n C d_X7_either_122 1 rfl ?_
            refine m_aload_n C d_X7_either_123 0 rfl ?_
            refine m_get C d_X7_either_124 fd_RX7_33 (v := .ref (q 8)) rfl ?_
            refine m_iload_n C d_X7_either_127 1 rfl ?_
            refine m_ald C d_X7_either_128 (k := 8) (by decide) rfl (by show _ < 21; omega) (by decide) ?_
            refine m_st (st' := [.int (nI (mN S 8 (12 + mK S 16 - 2))), .int (nI (12 + mK S 16 - 2)), .ref (q 0)]) rfl ?_
            refine m_aload_n C d_X7_either_129 0 rfl ?_
            refine m_get C d_X7_either_130 fd_RX7_33 (v := .ref (q 8)) rfl ?_
            refine m_iload_n C d_X7_either_133 1 rfl ?_
            refine m_iconst C d_X7_either_134 (v := (nI 1)) rfl ?_
            refine mn_iadd C d_X7_either_135 ?_
            refine m_ald C d_X7_either_136 (k := 8) (by decide) rfl (by show _ < 21; omega) (by decide) ?_
            refine m_st (st' := [.int (nI (mN S 8 ((12 + mK S 16 - 2) + 1))), .int (nI (mN S 8 (12 + mK S 16 - 2))), .int (nI (12 + mK S 16 - 2)), .ref (q 0)]) rfl ?_
            refine mn_iadd C d_X7_either_137 ?_
            refine m_callV C d_X7_either_138 ok_RX7_118 (m_becomes (chL (tLays (uK S 0 0)) (wEi S (12 + mK S 16 - 2)) 256) (12 + mK S 16 - 2) ((mN S 8 (12 + mK S 16 - 2)) + (mN S 8 ((12 + mK S 16 - 2) + 1))) (by omega)) rfl (rest := []) rfl rfl (Nat.le_of_ble_eq_true rfl) ⟨⟨by decide, by decide⟩, by decide, by decide⟩ (fun v9 T9 e9 => ?_)
            obtain ⟨rfl, e9⟩ := e9
            refine m_eq e9 ?_
            show VM G x q h0 (tBec (chL (tLays (uK S 0 0)) (wEi S (12 + mK S 16 - 2)) 256) (12 + mK S 16 - 2) ((mN S 8 (12 + mK S 16 - 2)) + (mN S 8 ((12 + mK S 16 - 2) + 1)))) 141 [(0, .ref (q 0)), (1, .int (nI (12 + mK S 16 - 2))), (2, .int (nI (2 ^ mN S 8 (12 + mK S 16 - 2)))), (3, .int (nI 256))] []
            refine m_aload_n C d_X7_either_141 0 rfl ?_
            refine m_dup C d_X7_either_142 rfl ?_
            refine m_get C d_X7_either_143 fd_RX7_98 (v := .int (nI (mK (tBec (chL (tLays (uK S 0 0)) (wEi S (12 + mK S 16 - 2)) 256) (12 + mK S 16 - 2) ((mN S 8 (12 + mK S 16 - 2)) + (mN S 8 ((12 + mK S 16 - 2) + 1)))) 16))) rfl ?_
            refine m_st (st' := [.int (nI (mK S 16)), .ref (q 0)]) rfl ?_
            refine m_iconst C d_X7_either_146 (v := (nI 1)) rfl ?_
            refine mn_isub C d_X7_either_147 (by omega) ?_
            refine m_putK C d_X7_either_148 pf_RX7_98 (by decide) (fun _ _ => rfl) ?_
            refine m_aload_n C d_X7_either_151 0 rfl ?_
            refine m_get C d_X7_either_152 fd_RX7_98 (v := .int (nI (mK (uK (tBec (chL (tLays (uK S 0 0)) (wEi S (12 + mK S 16 - 2)) 256) (12 + mK S 16 - 2) ((mN S 8 (12 + mK S 16 - 2)) + (mN S 8 ((12 + mK S 16 - 2) + 1)))) 16 ((mK S 16) - 1)) 16))) rfl ?_
            refine m_st (st' := [.int (nI ((mK S 16) - 1))]) rfl ?_
            refine m_st (st' := [.int (nI (rTwo S))]) (by rw [rTwo, if_pos c0]) ?_
            exact m_iret C A TY d_X7_either_155 rfl (⟨rfl, by rw [tTwo, if_pos c0]⟩)
          · skip
            have join_114 : VM G x q h0 (chL (tLays (uK S 0 0)) (wEi S (12 + mK S 16 - 2)) k) 114 [(0, .ref (q 0)), (1, .int (nI (12 + mK S 16 - 2))), (2, .int (nI (2 ^ mN S 8 (12 + mK S 16 - 2)))), (3, .int (nI k))] [.int (bI (wEi S (12 + mK S 16 - 2) k)), .int (nI k), .ref (q 17)] := by
              refine m_zst C d_X7_either_114 (k := 17) (v := wEi S (12 + mK S 16 - 2) k) (by decide) rfl (by show _ < 256; omega) (by decide) ?_
              refine mn_iinc C d_X7_either_115 (lv' := [(3, .int (nI (k + 1))), (0, .ref (q 0)), (1, .int (nI (12 + mK S 16 - 2))), (2, .int (nI (2 ^ mN S 8 (12 + mK S 16 - 2))))]) 3 rfl (nI_inc _ rfl) (by decide) rfl ?_
              refine m_goto C d_X7_either_118 (tgt := 47) rfl ?_
              refine m_eq (S' := chL (tLays (uK S 0 0)) (wEi S (12 + mK S 16 - 2)) (k + 1)) (chL_step) ?_
              refine m_lv (lv' := [(0, .ref (q 0)), (1, .int (nI (12 + mK S 16 - 2))), (2, .int (nI (2 ^ mN S 8 (12 + mK S 16 - 2)))), (3, .int (nI (k + 1)))]) [1, 2, 3, 0] rfl ?_
              exact ih_47 (k + 1) (by omega) (by omega)
            refine m_aload_n C d_X7_either_54 0 rfl ?_
            refine m_get C d_X7_either_55 fd_RX7_54 (v := .ref (q 17)) rfl ?_
            refine m_iload_n C d_X7_either_58 3 rfl ?_
            refine m_iload_n C d_X7_either_59 3 rfl ?_
            refine m_iload_n C d_X7_either_60 2 rfl ?_
            refine mn_icmp_ge C d_X7_either_61 (tgt := 79) rfl (by omega) (by omega) (fun c_61 => ?_) (fun c_61 => ?_)
            · skip
              refine m_iload_n C d_X7_either_79 3 rfl ?_
              refine m_iload_n C d_X7_either_80 2 rfl ?_
              refine mn_irem C d_X7_either_81 (by omega) (i3.1) (by omega) ?_
              refine mn_if_ne C d_X7_either_82 (tgt := 113) rfl (by have := Nat.mod_le k (2 ^ mN S 8 (12 + mK S 16 - 2)); omega) (fun c_82 => ?_) (fun c_82 => ?_)
              · skip
                refine m_iconst C d_X7_either_113 (v := (bI false)) rfl ?_
                refine m_st (st' := [.int (bI (wEi S (12 + mK S 16 - 2) k)), .int (nI k), .ref (q 17)]) (congrArg (fun z => [Value.int (bI z), .int (nI k), .ref (q 17)]) (by simp only [wEi]; grind)) ?_
                exact join_114  
              · skip
                refine m_aload_n C d_X7_either_85 0 rfl ?_
                refine m_get C d_X7_either_86 fd_RX7_39 (v := .ref (q 10)) rfl ?_
                refine m_sipush C d_X7_either_89 (v := (nI 256)) rfl ?_
                refine m_iload_n C d_X7_either_92 1 rfl ?_
                refine m_iconst C d_X7_either_93 (v := (nI 1)) rfl ?_
                refine mn_iadd C d_X7_either_94 ?_
                refine mn_imul C d_X7_either_95 ?_
                refine m_iload_n C d_X7_either_96 3 rfl ?_
                refine m_aload_n C d_X7_either_97 0 rfl ?_
                refine m_get C d_X7_either_98 fd_RX7_33 (v := .ref (q 8)) rfl ?_
                refine m_iload_n C d_X7_either_101 1 rfl ?_
                refine m_ald C d_X7_either_102 (k := 8) (by decide) rfl (by show _ < 21; omega) (by decide) ?_
                refine m_st (st' := [.int (nI (mN S 8 (12 + mK S 16 - 2))), .int (nI k), .int (nI (256 * ((12 + mK S 16 - 2) + 1))), .ref (q 10), .int (nI k), .ref (q 17)]) rfl ?_
                refine mn_ishr C d_X7_either_103 (by omega) (by omega) ?_
                refine mn_iadd C d_X7_either_104 ?_
                refine m_zld C d_X7_either_105 (k := 10) (by decide) rfl (by have := Nat.div_le_self k (2 ^ mN S 8 (12 + mK S 16 - 2)); show _ < 5376; omega) (by decide) ?_
                refine m_st (st' := [.int (bI (mB S 10 ((256 * ((12 + mK S 16 - 2) + 1)) + (k / 2 ^ (mN S 8 (12 + mK S 16 - 2)))))), .int (nI k), .ref (q 17)]) rfl ?_
                refine mb_if_eq C d_X7_either_106 (tgt := 113) rfl (fun c_106 => ?_) (fun c_106 => ?_)
                · skip
                  refine m_iconst C d_X7_either_113 (v := (bI false)) rfl ?_
                  refine m_st (st' := [.int (bI (wEi S (12 + mK S 16 - 2) k)), .int (nI k), .ref (q 17)]) (congrArg (fun z => [Value.int (bI z), .int (nI k), .ref (q 17)]) (by simp only [wEi]; grind)) ?_
                  exact join_114  
                · skip
                  refine m_iconst C d_X7_either_109 (v := (bI true)) rfl ?_
                  refine m_goto C d_X7_either_110 (tgt := 114) rfl ?_
                  refine m_st (st' := [.int (bI (wEi S (12 + mK S 16 - 2) k)), .int (nI k), .ref (q 17)]) (congrArg (fun z => [Value.int (bI z), .int (nI k), .ref (q 17)]) (by simp only [wEi]; grind)) ?_
                  exact join_114  
            · skip
              refine m_aload_n C d_X7_either_64 0 rfl ?_
              refine m_get C d_X7_either_65 fd_RX7_39 (v := .ref (q 10)) rfl ?_
              refine m_sipush C d_X7_either_68 (v := (nI 256)) rfl ?_
              refine m_iload_n C d_X7_either_71 1 rfl ?_
              refine mn_imul C d_X7_either_72 ?_
              refine m_iload_n C d_X7_either_73 3 rfl ?_
              refine mn_iadd C d_X7_either_74 ?_
              refine m_zld C d_X7_either_75 (k := 10) (by decide) rfl (by show _ < 5376; omega) (by decide) ?_
              refine m_st (st' := [.int (bI (mB S 10 ((256 * (12 + mK S 16 - 2)) + k))), .int (nI k), .ref (q 17)]) rfl ?_
              refine mb_if_ne C d_X7_either_76 (tgt := 109) rfl (fun c_76 => ?_) (fun c_76 => ?_)
              · skip
                refine m_iconst C d_X7_either_109 (v := (bI true)) rfl ?_
                refine m_goto C d_X7_either_110 (tgt := 114) rfl ?_
                refine m_st (st' := [.int (bI (wEi S (12 + mK S 16 - 2) k)), .int (nI k), .ref (q 17)]) (congrArg (fun z => [Value.int (bI z), .int (nI k), .ref (q 17)]) (by simp only [wEi]; grind)) ?_
                exact join_114  
              · skip
                refine m_iload_n C d_X7_either_79 3 rfl ?_
                refine m_iload_n C d_X7_either_80 2 rfl ?_
                refine mn_irem C d_X7_either_81 (by omega) (i3.1) (by omega) ?_
                refine mn_if_ne C d_X7_either_82 (tgt := 113) rfl (by have := Nat.mod_le k (2 ^ mN S 8 (12 + mK S 16 - 2)); omega) (fun c_82 => ?_) (fun c_82 => ?_)
                · skip
                  refine m_iconst C d_X7_either_113 (v := (bI false)) rfl ?_
                  refine m_st (st' := [.int (bI (wEi S (12 + mK S 16 - 2) k)), .int (nI k), .ref (q 17)]) (congrArg (fun z => [Value.int (bI z), .int (nI k), .ref (q 17)]) (by simp only [wEi]; grind)) ?_
                  exact join_114  
                · skip
                  refine m_aload_n C d_X7_either_85 0 rfl ?_
                  refine m_get C d_X7_either_86 fd_RX7_39 (v := .ref (q 10)) rfl ?_
                  refine m_sipush C d_X7_either_89 (v := (nI 256)) rfl ?_
                  refine m_iload_n C d_X7_either_92 1 rfl ?_
                  refine m_iconst C d_X7_either_93 (v := (nI 1)) rfl ?_
                  refine mn_iadd C d_X7_either_94 ?_
                  refine mn_imul C d_X7_either_95 ?_
                  refine m_iload_n C d_X7_either_96 3 rfl ?_
                  refine m_aload_n C d_X7_either_97 0 rfl ?_
                  refine m_get C d_X7_either_98 fd_RX7_33 (v := .ref (q 8)) rfl ?_
                  refine m_iload_n C d_X7_either_101 1 rfl ?_
                  refine m_ald C d_X7_either_102 (k := 8) (by decide) rfl (by show _ < 21; omega) (by decide) ?_
                  refine m_st (st' := [.int (nI (mN S 8 (12 + mK S 16 - 2))), .int (nI k), .int (nI (256 * ((12 + mK S 16 - 2) + 1))), .ref (q 10), .int (nI k), .ref (q 17)]) rfl ?_
                  refine mn_ishr C d_X7_either_103 (by omega) (by omega) ?_
                  refine mn_iadd C d_X7_either_104 ?_
                  refine m_zld C d_X7_either_105 (k := 10) (by decide) rfl (by have := Nat.div_le_self k (2 ^ mN S 8 (12 + mK S 16 - 2)); show _ < 5376; omega) (by decide) ?_
                  refine m_st (st' := [.int (bI (mB S 10 ((256 * ((12 + mK S 16 - 2) + 1)) + (k / 2 ^ (mN S 8 (12 + mK S 16 - 2)))))), .int (nI k), .ref (q 17)]) rfl ?_
                  refine mb_if_eq C d_X7_either_106 (tgt := 113) rfl (fun c_106 => ?_) (fun c_106 => ?_)
                  · skip
                    refine m_iconst C d_X7_either_113 (v := (bI false)) rfl ?_
                    refine m_st (st' := [.int (bI (wEi S (12 + mK S 16 - 2) k)), .int (nI k), .ref (q 17)]) (congrArg (fun z => [Value.int (bI z), .int (nI k), .ref (q 17)]) (by simp only [wEi]; grind)) ?_
                    exact join_114  
                  · skip
                    refine m_iconst C d_X7_either_109 (v := (bI true)) rfl ?_
                    refine m_goto C d_X7_either_110 (tgt := 114) rfl ?_
                    refine m_st (st' := [.int (bI (wEi S (12 + mK S 16 - 2) k)), .int (nI k), .ref (q 17)]) (congrArg (fun z => [Value.int (bI z), .int (nI k), .ref (q 17)]) (by simp only [wEi]; grind)) ?_
                    exact join_114  
      refine m_eq (S' := chL (tLays (uK S 0 0)) (wEi S (12 + mK S 16 - 2)) 0) (chL_0 _ _) ?_
      refine m_lv (lv' := [(0, .ref (q 0)), (1, .int (nI ((12 + (mK S 16)) - 2))), (2, .int (nI (2 ^ mN S 8 (12 + mK S 16 - 2)))), (3, .int (nI 0))]) [3, 2, 1, 0] rfl ?_
      refine m_lve (lv' := [(0, .ref (q 0)), (1, .int (nI (12 + mK S 16 - 2))), (2, .int (nI (2 ^ mN S 8 (12 + mK S 16 - 2)))), (3, .int (nI 0))]) (rfl) ?_
      exact loop_47 _ 0 (by omega) (Nat.lt_succ_self _)
    · skip
      have c1 := of_decide_eq_false c_17
      have c2 : cTwo S = 1 := by unfold cTwo at c1 ⊢; split at c1 <;> first | omega | (rw [if_pos (by assumption)])
      rw [c2]
      refine m_iconst C d_X7_either_20 (v := (nI 0)) rfl ?_
      refine m_st (st' := [.int (nI (rTwo S))]) (by rw [rTwo, if_neg c1]) ?_
      exact m_iret C A TY d_X7_either_21 rfl (⟨rfl, by rw [tTwo, if_neg c1]⟩)
  refine m_aload_n C d_X7_either_1 0 rfl ?_
  refine m_get C d_X7_either_2 fd_RX7_98 (v := .int (nI (mK S 16))) rfl ?_
  refine m_iconst C d_X7_either_5 (v := (nI 2)) rfl ?_
  refine mn_icmp_ge C d_X7_either_6 (tgt := 13) rfl (by have := pile_le I; omega) (by omega) (fun c_6 => ?_) (fun c_6 => ?_)
  · skip
    refine m_iconst C d_X7_either_13 (v := (nI 0)) rfl ?_
    refine m_st (st' := [.int (nI (cTwo S)), .ref (q 0)]) (by first | rw [cTwo, if_pos (by omega)] | rw [cTwo, if_neg (by omega)]) ?_
    exact join_14  
  · skip
    refine m_iconst C d_X7_either_9 (v := (nI 1)) rfl ?_
    refine m_goto C d_X7_either_10 (tgt := 14) rfl ?_
    refine m_st (st' := [.int (nI (cTwo S)), .ref (q 0)]) (by first | rw [cTwo, if_pos (by omega)] | rw [cTwo, if_neg (by omega)]) ?_
    exact join_14  
def dl_X7_copiesPart : List (Nat × Instr × Nat) := [(0, .aload_n 0, 1), (1, .getfield 33, 3), (4, .iload_n 2, 1), (5, .aload_n 0, 1), (6, .getfield 33, 3), (9, .iload_n 1, 1), (10, .iaload, 1), (11, .iastore, 1), (12, .aload_n 0, 1), (13, .getfield 36, 3), (16, .iload_n 2, 1), (17, .aload_n 0, 1), (18, .getfield 36, 3), (21, .iload_n 1, 1), (22, .baload, 1), (23, .bastore, 1), (24, .iconst 0, 1), (25, .istore_n 3, 1), (26, .iload_n 3, 1), (27, .sipush 256, 3), (30, .if_icmp .ge 33, 3), (33, .aload_n 0, 1), (34, .getfield 39, 3), (37, .sipush 256, 3), (40, .iload_n 2, 1), (41, .imul, 1), (42, .iload_n 3, 1), (43, .iadd, 1), (44, .aload_n 0, 1), (45, .getfield 39, 3), (48, .sipush 256, 3), (51, .iload_n 1, 1), (52, .imul, 1), (53, .iload_n 3, 1), (54, .iadd, 1), (55, .baload, 1), (56, .bastore, 1), (57, .iinc 3 1, 3), (60, .goto (-34), 3), (63, .iconst 0, 1), (64, .istore_n 3, 1), (65, .iload_n 3, 1), (66, .bipush 8, 2), (68, .if_icmp .ge 25, 3), (71, .aload_n 0, 1), (72, .bipush 8, 2), (74, .iload_n 1, 1), (75, .imul, 1), (76, .iload_n 3, 1), (77, .iadd, 1), (78, .bipush 8, 2), (80, .iload_n 2, 1), (81, .imul, 1), (82, .iload_n 3, 1), (83, .iadd, 1), (84, .invokevirtual 101, 3), (87, .iinc 3 1, 3), (90, .goto (-25), 3), (93, .return_, 1)]
theorem dc_X7_copiesPart : dnL cX7_copiesPart dl_X7_copiesPart = true := by decide +kernel
theorem d_X7_copiesPart_0 : dn cX7_copiesPart 0 (.aload_n 0) 1 1 := dnAt dc_X7_copiesPart 0 rfl rfl
theorem d_X7_copiesPart_1 : dn cX7_copiesPart 1 (.getfield 33) 3 4 := dnAt dc_X7_copiesPart 1 rfl rfl
theorem d_X7_copiesPart_4 : dn cX7_copiesPart 4 (.iload_n 2) 1 5 := dnAt dc_X7_copiesPart 2 rfl rfl
theorem d_X7_copiesPart_5 : dn cX7_copiesPart 5 (.aload_n 0) 1 6 := dnAt dc_X7_copiesPart 3 rfl rfl
theorem d_X7_copiesPart_6 : dn cX7_copiesPart 6 (.getfield 33) 3 9 := dnAt dc_X7_copiesPart 4 rfl rfl
theorem d_X7_copiesPart_9 : dn cX7_copiesPart 9 (.iload_n 1) 1 10 := dnAt dc_X7_copiesPart 5 rfl rfl
theorem d_X7_copiesPart_10 : dn cX7_copiesPart 10 (.iaload) 1 11 := dnAt dc_X7_copiesPart 6 rfl rfl
theorem d_X7_copiesPart_11 : dn cX7_copiesPart 11 (.iastore) 1 12 := dnAt dc_X7_copiesPart 7 rfl rfl
theorem d_X7_copiesPart_12 : dn cX7_copiesPart 12 (.aload_n 0) 1 13 := dnAt dc_X7_copiesPart 8 rfl rfl
theorem d_X7_copiesPart_13 : dn cX7_copiesPart 13 (.getfield 36) 3 16 := dnAt dc_X7_copiesPart 9 rfl rfl
theorem d_X7_copiesPart_16 : dn cX7_copiesPart 16 (.iload_n 2) 1 17 := dnAt dc_X7_copiesPart 10 rfl rfl
theorem d_X7_copiesPart_17 : dn cX7_copiesPart 17 (.aload_n 0) 1 18 := dnAt dc_X7_copiesPart 11 rfl rfl
theorem d_X7_copiesPart_18 : dn cX7_copiesPart 18 (.getfield 36) 3 21 := dnAt dc_X7_copiesPart 12 rfl rfl
theorem d_X7_copiesPart_21 : dn cX7_copiesPart 21 (.iload_n 1) 1 22 := dnAt dc_X7_copiesPart 13 rfl rfl
theorem d_X7_copiesPart_22 : dn cX7_copiesPart 22 (.baload) 1 23 := dnAt dc_X7_copiesPart 14 rfl rfl
theorem d_X7_copiesPart_23 : dn cX7_copiesPart 23 (.bastore) 1 24 := dnAt dc_X7_copiesPart 15 rfl rfl
theorem d_X7_copiesPart_24 : dn cX7_copiesPart 24 (.iconst 0) 1 25 := dnAt dc_X7_copiesPart 16 rfl rfl
theorem d_X7_copiesPart_25 : dn cX7_copiesPart 25 (.istore_n 3) 1 26 := dnAt dc_X7_copiesPart 17 rfl rfl
theorem d_X7_copiesPart_26 : dn cX7_copiesPart 26 (.iload_n 3) 1 27 := dnAt dc_X7_copiesPart 18 rfl rfl
theorem d_X7_copiesPart_27 : dn cX7_copiesPart 27 (.sipush 256) 3 30 := dnAt dc_X7_copiesPart 19 rfl rfl
theorem d_X7_copiesPart_30 : dn cX7_copiesPart 30 (.if_icmp .ge 33) 3 33 := dnAt dc_X7_copiesPart 20 rfl rfl
theorem d_X7_copiesPart_33 : dn cX7_copiesPart 33 (.aload_n 0) 1 34 := dnAt dc_X7_copiesPart 21 rfl rfl
theorem d_X7_copiesPart_34 : dn cX7_copiesPart 34 (.getfield 39) 3 37 := dnAt dc_X7_copiesPart 22 rfl rfl
theorem d_X7_copiesPart_37 : dn cX7_copiesPart 37 (.sipush 256) 3 40 := dnAt dc_X7_copiesPart 23 rfl rfl
theorem d_X7_copiesPart_40 : dn cX7_copiesPart 40 (.iload_n 2) 1 41 := dnAt dc_X7_copiesPart 24 rfl rfl
theorem d_X7_copiesPart_41 : dn cX7_copiesPart 41 (.imul) 1 42 := dnAt dc_X7_copiesPart 25 rfl rfl
theorem d_X7_copiesPart_42 : dn cX7_copiesPart 42 (.iload_n 3) 1 43 := dnAt dc_X7_copiesPart 26 rfl rfl
theorem d_X7_copiesPart_43 : dn cX7_copiesPart 43 (.iadd) 1 44 := dnAt dc_X7_copiesPart 27 rfl rfl
theorem d_X7_copiesPart_44 : dn cX7_copiesPart 44 (.aload_n 0) 1 45 := dnAt dc_X7_copiesPart 28 rfl rfl
theorem d_X7_copiesPart_45 : dn cX7_copiesPart 45 (.getfield 39) 3 48 := dnAt dc_X7_copiesPart 29 rfl rfl
theorem d_X7_copiesPart_48 : dn cX7_copiesPart 48 (.sipush 256) 3 51 := dnAt dc_X7_copiesPart 30 rfl rfl
theorem d_X7_copiesPart_51 : dn cX7_copiesPart 51 (.iload_n 1) 1 52 := dnAt dc_X7_copiesPart 31 rfl rfl
theorem d_X7_copiesPart_52 : dn cX7_copiesPart 52 (.imul) 1 53 := dnAt dc_X7_copiesPart 32 rfl rfl
theorem d_X7_copiesPart_53 : dn cX7_copiesPart 53 (.iload_n 3) 1 54 := dnAt dc_X7_copiesPart 33 rfl rfl
theorem d_X7_copiesPart_54 : dn cX7_copiesPart 54 (.iadd) 1 55 := dnAt dc_X7_copiesPart 34 rfl rfl
theorem d_X7_copiesPart_55 : dn cX7_copiesPart 55 (.baload) 1 56 := dnAt dc_X7_copiesPart 35 rfl rfl
theorem d_X7_copiesPart_56 : dn cX7_copiesPart 56 (.bastore) 1 57 := dnAt dc_X7_copiesPart 36 rfl rfl
theorem d_X7_copiesPart_57 : dn cX7_copiesPart 57 (.iinc 3 1) 3 60 := dnAt dc_X7_copiesPart 37 rfl rfl
theorem d_X7_copiesPart_60 : dn cX7_copiesPart 60 (.goto (-34)) 3 63 := dnAt dc_X7_copiesPart 38 rfl rfl
theorem d_X7_copiesPart_63 : dn cX7_copiesPart 63 (.iconst 0) 1 64 := dnAt dc_X7_copiesPart 39 rfl rfl
theorem d_X7_copiesPart_64 : dn cX7_copiesPart 64 (.istore_n 3) 1 65 := dnAt dc_X7_copiesPart 40 rfl rfl
theorem d_X7_copiesPart_65 : dn cX7_copiesPart 65 (.iload_n 3) 1 66 := dnAt dc_X7_copiesPart 41 rfl rfl
theorem d_X7_copiesPart_66 : dn cX7_copiesPart 66 (.bipush 8) 2 68 := dnAt dc_X7_copiesPart 42 rfl rfl
theorem d_X7_copiesPart_68 : dn cX7_copiesPart 68 (.if_icmp .ge 25) 3 71 := dnAt dc_X7_copiesPart 43 rfl rfl
theorem d_X7_copiesPart_71 : dn cX7_copiesPart 71 (.aload_n 0) 1 72 := dnAt dc_X7_copiesPart 44 rfl rfl
theorem d_X7_copiesPart_72 : dn cX7_copiesPart 72 (.bipush 8) 2 74 := dnAt dc_X7_copiesPart 45 rfl rfl
theorem d_X7_copiesPart_74 : dn cX7_copiesPart 74 (.iload_n 1) 1 75 := dnAt dc_X7_copiesPart 46 rfl rfl
theorem d_X7_copiesPart_75 : dn cX7_copiesPart 75 (.imul) 1 76 := dnAt dc_X7_copiesPart 47 rfl rfl
theorem d_X7_copiesPart_76 : dn cX7_copiesPart 76 (.iload_n 3) 1 77 := dnAt dc_X7_copiesPart 48 rfl rfl
theorem d_X7_copiesPart_77 : dn cX7_copiesPart 77 (.iadd) 1 78 := dnAt dc_X7_copiesPart 49 rfl rfl
theorem d_X7_copiesPart_78 : dn cX7_copiesPart 78 (.bipush 8) 2 80 := dnAt dc_X7_copiesPart 50 rfl rfl
theorem d_X7_copiesPart_80 : dn cX7_copiesPart 80 (.iload_n 2) 1 81 := dnAt dc_X7_copiesPart 51 rfl rfl
theorem d_X7_copiesPart_81 : dn cX7_copiesPart 81 (.imul) 1 82 := dnAt dc_X7_copiesPart 52 rfl rfl
theorem d_X7_copiesPart_82 : dn cX7_copiesPart 82 (.iload_n 3) 1 83 := dnAt dc_X7_copiesPart 53 rfl rfl
theorem d_X7_copiesPart_83 : dn cX7_copiesPart 83 (.iadd) 1 84 := dnAt dc_X7_copiesPart 54 rfl rfl
theorem d_X7_copiesPart_84 : dn cX7_copiesPart 84 (.invokevirtual 101) 3 87 := dnAt dc_X7_copiesPart 55 rfl rfl
theorem d_X7_copiesPart_87 : dn cX7_copiesPart 87 (.iinc 3 1) 3 90 := dnAt dc_X7_copiesPart 56 rfl rfl
theorem d_X7_copiesPart_90 : dn cX7_copiesPart 90 (.goto (-25)) 3 93 := dnAt dc_X7_copiesPart 57 rfl rfl
theorem d_X7_copiesPart_93 : dn cX7_copiesPart 93 (.return_) 1 94 := dnAt dc_X7_copiesPart 58 rfl rfl
set_option maxHeartbeats 4000000 in
set_option maxRecDepth 100000 in
theorem m_copiesPart (S : mS) (a t : Nat) (ha : a < 21) (ht : t < a) : mC yX7_copiesPart cX7_copiesPart 4 (Option.none : Option Jvm.ClassFile.FieldType) { frames := 1, cells := 0, slots := 0, locals := 23 } [.int (nI a), .int (nI t)] S (fun v9 T9 => v9 = none ∧ T9 = tPart S a t) := by
  refine mC.of (by decide) (Nat.le_of_ble_eq_true rfl) ?_
  intro G x q h0 C A TY
  show VM G x q h0 S 0 [(0, .ref (q 0)), (1, .int (nI a)), (2, .int (nI t))] []
  refine m_aload_n C d_X7_copiesPart_0 0 rfl ?_
  refine m_get C d_X7_copiesPart_1 fd_RX7_33 (v := .ref (q 8)) rfl ?_
  refine m_iload_n C d_X7_copiesPart_4 2 rfl ?_
  refine m_aload_n C d_X7_copiesPart_5 0 rfl ?_
  refine m_get C d_X7_copiesPart_6 fd_RX7_33 (v := .ref (q 8)) rfl ?_
  refine m_iload_n C d_X7_copiesPart_9 1 rfl ?_
  refine m_ald C d_X7_copiesPart_10 (k := 8) (by decide) rfl (by show _ < 21; omega) (by decide) ?_
  refine m_ast C d_X7_copiesPart_11 (k := 8) (v := mN S 8 a) (by decide) rfl (by show _ < 21; omega) (by decide) ?_
  refine m_aload_n C d_X7_copiesPart_12 0 rfl ?_
  refine m_get C d_X7_copiesPart_13 fd_RX7_36 (v := .ref (q 9)) rfl ?_
  refine m_iload_n C d_X7_copiesPart_16 2 rfl ?_
  refine m_aload_n C d_X7_copiesPart_17 0 rfl ?_
  refine m_get C d_X7_copiesPart_18 fd_RX7_36 (v := .ref (q 9)) rfl ?_
  refine m_iload_n C d_X7_copiesPart_21 1 rfl ?_
  refine m_zld C d_X7_copiesPart_22 (k := 9) (by decide) rfl (by show _ < 21; omega) (by decide) ?_
  refine m_st (st' := [.int (bI (mB S 9 a)), .int (nI t), .ref (q 9)]) rfl ?_
  refine m_zst C d_X7_copiesPart_23 (k := 9) (v := mB S 9 a) (by decide) rfl (by show _ < 21; omega) (by decide) ?_
  refine m_iconst C d_X7_copiesPart_24 (v := (nI 0)) rfl ?_
  refine m_istore_n C d_X7_copiesPart_25 (lv' := [(3, .int (nI 0)), (0, .ref (q 0)), (1, .int (nI a)), (2, .int (nI t))]) (by decide) rfl ?_
  have loop_26 : ∀ (fuel : Nat) (k : Nat), (k ≤ 256) → (257 - k) < fuel → VM G x q h0 (cpP S a t k) 26 [(0, .ref (q 0)), (1, .int (nI a)), (2, .int (nI t)), (3, .int (nI k))] [] := by
    intro fuel
    induction fuel with
    | zero => intro k hk hf9; exact absurd hf9 (Nat.not_lt_zero _)
    | succ fuel ih_26 =>
      intro k hk hf9
      refine m_iload_n C d_X7_copiesPart_26 3 rfl ?_
      refine m_sipush C d_X7_copiesPart_27 (v := (nI 256)) rfl ?_
      refine mn_icmp_ge C d_X7_copiesPart_30 (tgt := 63) rfl (by omega) (by omega) (fun c_30 => ?_) (fun c_30 => ?_)
      · skip
        obtain rfl : k = 256 := by omega
        refine m_iconst C d_X7_copiesPart_63 (v := (nI 0)) rfl ?_
        refine m_istore_n C d_X7_copiesPart_64 (lv' := [(3, .int (nI 0)), (0, .ref (q 0)), (1, .int (nI a)), (2, .int (nI t))]) (by decide) rfl ?_
        have loop_65 : ∀ (fuel : Nat) (k : Nat), (k ≤ 8) → (9 - k) < fuel → VM G x q h0 (tmap (cpP S a t 256) (laG (8 * t) (8 * a) k)) 65 [(0, .ref (q 0)), (1, .int (nI a)), (2, .int (nI t)), (3, .int (nI k))] [] := by
          intro fuel
          induction fuel with
          | zero => intro k hk2 hf9; exact absurd hf9 (Nat.not_lt_zero _)
          | succ fuel ih_65 =>
            intro k hk2 hf9
            refine m_iload_n C d_X7_copiesPart_65 3 rfl ?_
            refine m_bipush C d_X7_copiesPart_66 (v := (nI 8)) rfl ?_
            refine mn_icmp_ge C d_X7_copiesPart_68 (tgt := 93) rfl (by omega) (by omega) (fun c_68 => ?_) (fun c_68 => ?_)
            · skip
              obtain rfl : k = 8 := by omega
              exact m_vret C A TY d_X7_copiesPart_93 (⟨rfl, rfl⟩)
            · skip
              refine m_aload_n C d_X7_copiesPart_71 0 rfl ?_
              refine m_bipush C d_X7_copiesPart_72 (v := (nI 8)) rfl ?_
              refine m_iload_n C d_X7_copiesPart_74 1 rfl ?_
              refine mn_imul C d_X7_copiesPart_75 ?_
              refine m_iload_n C d_X7_copiesPart_76 3 rfl ?_
              refine mn_iadd C d_X7_copiesPart_77 ?_
              refine m_bipush C d_X7_copiesPart_78 (v := (nI 8)) rfl ?_
              refine m_iload_n C d_X7_copiesPart_80 2 rfl ?_
              refine mn_imul C d_X7_copiesPart_81 ?_
              refine m_iload_n C d_X7_copiesPart_82 3 rfl ?_
              refine mn_iadd C d_X7_copiesPart_83 ?_
              refine m_callV C d_X7_copiesPart_84 ok_RX7_101 (m_copiesTest (tmap (cpP S a t 256) (laG (8 * t) (8 * a) k)) ((8 * a) + k) ((8 * t) + k) (by omega) (by omega)) rfl (rest := []) rfl rfl (Nat.le_of_ble_eq_true rfl) ⟨⟨by decide, by decide⟩, by decide, by decide⟩ (fun v9 T9 e9 => ?_)
              obtain ⟨rfl, e9⟩ := e9
              refine m_eq e9 ?_
              show VM G x q h0 (tmap (tmap (cpP S a t 256) (laG (8 * t) (8 * a) k)) (cpG ((8 * a) + k) ((8 * t) + k))) 87 [(0, .ref (q 0)), (1, .int (nI a)), (2, .int (nI t)), (3, .int (nI k))] []
              refine mn_iinc C d_X7_copiesPart_87 (lv' := [(3, .int (nI (k + 1))), (0, .ref (q 0)), (1, .int (nI a)), (2, .int (nI t))]) 3 rfl (nI_inc _ rfl) (by decide) rfl ?_
              refine m_goto C d_X7_copiesPart_90 (tgt := 65) rfl ?_
              refine m_eq (S' := tmap (cpP S a t 256) (laG (8 * t) (8 * a) (k + 1))) (laG_succ _ (by omega)) ?_
              refine m_lv (lv' := [(0, .ref (q 0)), (1, .int (nI a)), (2, .int (nI t)), (3, .int (nI (k + 1)))]) [1, 2, 3, 0] rfl ?_
              exact ih_65 (k + 1) (by omega) (by omega)
        refine m_eq (S' := tmap (cpP S a t 256) (laG (8 * t) (8 * a) 0)) (tmap_id _ (fun t => by unfold laG; rw [if_neg (by omega)])) ?_
        refine m_lv (lv' := [(0, .ref (q 0)), (1, .int (nI a)), (2, .int (nI t)), (3, .int (nI 0))]) [1, 2, 3, 0] rfl ?_
        exact loop_65 _ 0 (by omega) (Nat.lt_succ_self _)
      · skip
        refine m_aload_n C d_X7_copiesPart_33 0 rfl ?_
        refine m_get C d_X7_copiesPart_34 fd_RX7_39 (v := .ref (q 10)) rfl ?_
        refine m_sipush C d_X7_copiesPart_37 (v := (nI 256)) rfl ?_
        refine m_iload_n C d_X7_copiesPart_40 2 rfl ?_
        refine mn_imul C d_X7_copiesPart_41 ?_
        refine m_iload_n C d_X7_copiesPart_42 3 rfl ?_
        refine mn_iadd C d_X7_copiesPart_43 ?_
        refine m_aload_n C d_X7_copiesPart_44 0 rfl ?_
        refine m_get C d_X7_copiesPart_45 fd_RX7_39 (v := .ref (q 10)) rfl ?_
        refine m_sipush C d_X7_copiesPart_48 (v := (nI 256)) rfl ?_
        refine m_iload_n C d_X7_copiesPart_51 1 rfl ?_
        refine mn_imul C d_X7_copiesPart_52 ?_
        refine m_iload_n C d_X7_copiesPart_53 3 rfl ?_
        refine mn_iadd C d_X7_copiesPart_54 ?_
        refine m_zld C d_X7_copiesPart_55 (k := 10) (by decide) rfl (by show _ < 5376; omega) (by decide) ?_
        refine m_st (st' := [.int (bI (mB S 10 (256 * a + k))), .int (nI ((256 * t) + k)), .ref (q 10)]) (by rw [cpP_r (by omega) (by omega)]) ?_
        refine m_zst C d_X7_copiesPart_56 (k := 10) (v := mB S 10 (256 * a + k)) (by decide) rfl (by show _ < 5376; omega) (by decide) ?_
        refine mn_iinc C d_X7_copiesPart_57 (lv' := [(3, .int (nI (k + 1))), (0, .ref (q 0)), (1, .int (nI a)), (2, .int (nI t))]) 3 rfl (nI_inc _ rfl) (by decide) rfl ?_
        refine m_goto C d_X7_copiesPart_60 (tgt := 26) rfl ?_
        refine m_eq (S' := cpP S a t (k + 1)) (cpP_step) ?_
        refine m_lv (lv' := [(0, .ref (q 0)), (1, .int (nI a)), (2, .int (nI t)), (3, .int (nI (k + 1)))]) [1, 2, 3, 0] rfl ?_
        exact ih_26 (k + 1) (by omega) (by omega)
  refine m_eq (S' := cpP S a t 0) (cpP_0 S a t) ?_
  refine m_lv (lv' := [(0, .ref (q 0)), (1, .int (nI a)), (2, .int (nI t)), (3, .int (nI 0))]) [1, 2, 3, 0] rfl ?_
  exact loop_26 _ 0 (by omega) (Nat.lt_succ_self _)
def dl_X7_keep : List (Nat × Instr × Nat) := [(0, .aload_n 0, 1), (1, .aload_n 0, 1), (2, .getfield 98, 3), (5, .iconst 1, 1), (6, .if_icmp .ne 12, 3), (9, .aload_n 0, 1), (10, .getfield 121, 3), (13, .bipush 12, 2), (15, .if_icmp .ne 7, 3), (18, .iconst 1, 1), (19, .goto 4, 3), (22, .iconst 0, 1), (23, .invokevirtual 84, 3), (26, .ifCond .ne 5, 3), (29, .iconst 0, 1), (30, .ireturn, 1), (31, .aload_n 0, 1), (32, .bipush 12, 2), (34, .aload_n 0, 1), (35, .getfield 121, 3), (38, .invokevirtual 124, 3), (41, .aload_n 0, 1), (42, .iconst 0, 1), (43, .putfield 98, 3), (46, .aload_n 0, 1), (47, .dup, 1), (48, .getfield 121, 3), (51, .iconst 1, 1), (52, .iadd, 1), (53, .putfield 121, 3), (56, .aload_n 0, 1), (57, .getfield 121, 3), (60, .iconst 1, 1), (61, .isub, 1), (62, .ireturn, 1)]
theorem dc_X7_keep : dnL cX7_keep dl_X7_keep = true := by decide +kernel
theorem d_X7_keep_0 : dn cX7_keep 0 (.aload_n 0) 1 1 := dnAt dc_X7_keep 0 rfl rfl
theorem d_X7_keep_1 : dn cX7_keep 1 (.aload_n 0) 1 2 := dnAt dc_X7_keep 1 rfl rfl
theorem d_X7_keep_2 : dn cX7_keep 2 (.getfield 98) 3 5 := dnAt dc_X7_keep 2 rfl rfl
theorem d_X7_keep_5 : dn cX7_keep 5 (.iconst 1) 1 6 := dnAt dc_X7_keep 3 rfl rfl
theorem d_X7_keep_6 : dn cX7_keep 6 (.if_icmp .ne 12) 3 9 := dnAt dc_X7_keep 4 rfl rfl
theorem d_X7_keep_9 : dn cX7_keep 9 (.aload_n 0) 1 10 := dnAt dc_X7_keep 5 rfl rfl
theorem d_X7_keep_10 : dn cX7_keep 10 (.getfield 121) 3 13 := dnAt dc_X7_keep 6 rfl rfl
theorem d_X7_keep_13 : dn cX7_keep 13 (.bipush 12) 2 15 := dnAt dc_X7_keep 7 rfl rfl
theorem d_X7_keep_15 : dn cX7_keep 15 (.if_icmp .ne 7) 3 18 := dnAt dc_X7_keep 8 rfl rfl
theorem d_X7_keep_18 : dn cX7_keep 18 (.iconst 1) 1 19 := dnAt dc_X7_keep 9 rfl rfl
theorem d_X7_keep_19 : dn cX7_keep 19 (.goto 4) 3 22 := dnAt dc_X7_keep 10 rfl rfl
theorem d_X7_keep_22 : dn cX7_keep 22 (.iconst 0) 1 23 := dnAt dc_X7_keep 11 rfl rfl
theorem d_X7_keep_23 : dn cX7_keep 23 (.invokevirtual 84) 3 26 := dnAt dc_X7_keep 12 rfl rfl
theorem d_X7_keep_26 : dn cX7_keep 26 (.ifCond .ne 5) 3 29 := dnAt dc_X7_keep 13 rfl rfl
theorem d_X7_keep_29 : dn cX7_keep 29 (.iconst 0) 1 30 := dnAt dc_X7_keep 14 rfl rfl
theorem d_X7_keep_30 : dn cX7_keep 30 (.ireturn) 1 31 := dnAt dc_X7_keep 15 rfl rfl
theorem d_X7_keep_31 : dn cX7_keep 31 (.aload_n 0) 1 32 := dnAt dc_X7_keep 16 rfl rfl
theorem d_X7_keep_32 : dn cX7_keep 32 (.bipush 12) 2 34 := dnAt dc_X7_keep 17 rfl rfl
theorem d_X7_keep_34 : dn cX7_keep 34 (.aload_n 0) 1 35 := dnAt dc_X7_keep 18 rfl rfl
theorem d_X7_keep_35 : dn cX7_keep 35 (.getfield 121) 3 38 := dnAt dc_X7_keep 19 rfl rfl
theorem d_X7_keep_38 : dn cX7_keep 38 (.invokevirtual 124) 3 41 := dnAt dc_X7_keep 20 rfl rfl
theorem d_X7_keep_41 : dn cX7_keep 41 (.aload_n 0) 1 42 := dnAt dc_X7_keep 21 rfl rfl
theorem d_X7_keep_42 : dn cX7_keep 42 (.iconst 0) 1 43 := dnAt dc_X7_keep 22 rfl rfl
theorem d_X7_keep_43 : dn cX7_keep 43 (.putfield 98) 3 46 := dnAt dc_X7_keep 23 rfl rfl
theorem d_X7_keep_46 : dn cX7_keep 46 (.aload_n 0) 1 47 := dnAt dc_X7_keep 24 rfl rfl
theorem d_X7_keep_47 : dn cX7_keep 47 (.dup) 1 48 := dnAt dc_X7_keep 25 rfl rfl
theorem d_X7_keep_48 : dn cX7_keep 48 (.getfield 121) 3 51 := dnAt dc_X7_keep 26 rfl rfl
theorem d_X7_keep_51 : dn cX7_keep 51 (.iconst 1) 1 52 := dnAt dc_X7_keep 27 rfl rfl
theorem d_X7_keep_52 : dn cX7_keep 52 (.iadd) 1 53 := dnAt dc_X7_keep 28 rfl rfl
theorem d_X7_keep_53 : dn cX7_keep 53 (.putfield 121) 3 56 := dnAt dc_X7_keep 29 rfl rfl
theorem d_X7_keep_56 : dn cX7_keep 56 (.aload_n 0) 1 57 := dnAt dc_X7_keep 30 rfl rfl
theorem d_X7_keep_57 : dn cX7_keep 57 (.getfield 121) 3 60 := dnAt dc_X7_keep 31 rfl rfl
theorem d_X7_keep_60 : dn cX7_keep 60 (.iconst 1) 1 61 := dnAt dc_X7_keep 32 rfl rfl
theorem d_X7_keep_61 : dn cX7_keep 61 (.isub) 1 62 := dnAt dc_X7_keep 33 rfl rfl
theorem d_X7_keep_62 : dn cX7_keep 62 (.ireturn) 1 63 := dnAt dc_X7_keep 34 rfl rfl
set_option maxHeartbeats 4000000 in
set_option maxRecDepth 100000 in
theorem m_keep (S : mS) (I : mInv S) : mC yX7_keep cX7_keep 1 (Option.some Jvm.ClassFile.FieldType.int) { frames := 2, cells := 0, slots := 0, locals := 46 } [] S (fun v9 T9 => v9 = (some (.int (nI (rKeep S)))) ∧ T9 = tKeep S) := by
  refine mC.of (by decide) (Nat.le_of_ble_eq_true rfl) ?_
  intro G x q h0 C A TY
  show VM G x q h0 S 0 [(0, .ref (q 0))] []
  refine m_aload_n C d_X7_keep_0 0 rfl ?_
  have join_23 : VM G x q h0 S 23 [(0, .ref (q 0))] [.int (nI (cKeep S)), .ref (q 0)] := by
    refine m_callV C d_X7_keep_23 ok_RX7_84 (m_holds S (cKeep S) (by unfold cKeep; split <;> omega)) rfl (rest := []) rfl rfl (Nat.le_of_ble_eq_true rfl) ⟨⟨by decide, by decide⟩, by decide, by decide⟩ (fun v9 T9 e9 => ?_)
    obtain ⟨rfl, e9⟩ := e9
    refine m_eq e9 ?_
    show VM G x q h0 (uK S 0 (cKeep S)) 26 [(0, .ref (q 0))] [.int (bI (decide (cKeep S = 0)))]
    refine mb_if_ne C d_X7_keep_26 (tgt := 31) rfl (fun c_26 => ?_) (fun c_26 => ?_)
    · skip
      have c0 := of_decide_eq_true c_26
      have c2 : mK S 16 = 1 ∧ mK S 15 ≠ 12 := by unfold cKeep at c0; split at c0 <;> first | assumption | omega
      have i1 := pats_le I
      rw [c0]
      refine m_aload_n C d_X7_keep_31 0 rfl ?_
      refine m_bipush C d_X7_keep_32 (v := (nI 12)) rfl ?_
      refine m_aload_n C d_X7_keep_34 0 rfl ?_
      refine m_get C d_X7_keep_35 fd_RX7_121 (v := .int (nI (mK (uK S 0 0) 15))) rfl ?_
      refine m_st (st' := [.int (nI (mK S 15)), .int (nI 12), .ref (q 0)]) rfl ?_
      refine m_callV C d_X7_keep_38 ok_RX7_124 (m_copiesPart (uK S 0 0) 12 (mK S 15) (by omega) (by show mK S 15 < 12; omega)) rfl (rest := []) rfl rfl (Nat.le_of_ble_eq_true rfl) ⟨⟨by decide, by decide⟩, by decide, by decide⟩ (fun v9 T9 e9 => ?_)
      obtain ⟨rfl, e9⟩ := e9
      refine m_eq e9 ?_
      show VM G x q h0 (tPart (uK S 0 0) 12 (mK S 15)) 41 [(0, .ref (q 0))] []
      refine m_aload_n C d_X7_keep_41 0 rfl ?_
      refine m_iconst C d_X7_keep_42 (v := (nI 0)) rfl ?_
      refine m_putK C d_X7_keep_43 pf_RX7_98 (by decide) (fun _ _ => rfl) ?_
      refine m_aload_n C d_X7_keep_46 0 rfl ?_
      refine m_dup C d_X7_keep_47 rfl ?_
      refine m_get C d_X7_keep_48 fd_RX7_121 (v := .int (nI (mK (uK (tPart (uK S 0 0) 12 (mK S 15)) 16 0) 15))) rfl ?_
      refine m_st (st' := [.int (nI (mK S 15)), .ref (q 0)]) rfl ?_
      refine m_iconst C d_X7_keep_51 (v := (nI 1)) rfl ?_
      refine mn_iadd C d_X7_keep_52 ?_
      refine m_putK C d_X7_keep_53 pf_RX7_121 (by decide) (fun _ _ => rfl) ?_
      refine m_aload_n C d_X7_keep_56 0 rfl ?_
      refine m_get C d_X7_keep_57 fd_RX7_121 (v := .int (nI (mK (uK (uK (tPart (uK S 0 0) 12 (mK S 15)) 16 0) 15 ((mK S 15) + 1)) 15))) rfl ?_
      refine m_st (st' := [.int (nI ((mK S 15) + 1))]) rfl ?_
      refine m_iconst C d_X7_keep_60 (v := (nI 1)) rfl ?_
      refine mn_isub C d_X7_keep_61 (by omega) ?_
      refine m_st (st' := [.int (nI (mK S 15))]) (by rw [Nat.add_sub_cancel]) ?_
      refine m_st (st' := [.int (nI (rKeep S))]) (by rw [rKeep, if_pos c0]) ?_
      exact m_iret C A TY d_X7_keep_62 rfl (⟨rfl, by rw [tKeep, if_pos c0]⟩)
    · skip
      have c1 := of_decide_eq_false c_26
      have c2 : cKeep S = 1 := by unfold cKeep at c1 ⊢; split at c1 <;> first | omega | (rw [if_neg (by assumption)])
      rw [c2]
      refine m_iconst C d_X7_keep_29 (v := (nI 0)) rfl ?_
      refine m_st (st' := [.int (nI (rKeep S))]) (by rw [rKeep, if_neg c1]) ?_
      exact m_iret C A TY d_X7_keep_30 rfl (⟨rfl, by rw [tKeep, if_neg c1]⟩)
  refine m_aload_n C d_X7_keep_1 0 rfl ?_
  refine m_get C d_X7_keep_2 fd_RX7_98 (v := .int (nI (mK S 16))) rfl ?_
  refine m_iconst C d_X7_keep_5 (v := (nI 1)) rfl ?_
  refine mn_icmp_ne C d_X7_keep_6 (tgt := 18) rfl (by have := pile_le I; omega) (by omega) (fun c_6 => ?_) (fun c_6 => ?_)
  · skip
    refine m_iconst C d_X7_keep_18 (v := (nI 1)) rfl ?_
    refine m_goto C d_X7_keep_19 (tgt := 23) rfl ?_
    refine m_st (st' := [.int (nI (cKeep S)), .ref (q 0)]) (congrArg (fun z => [Value.int (nI z), .ref (q 0)]) (by unfold cKeep; grind)) ?_
    exact join_23  
  · skip
    refine m_aload_n C d_X7_keep_9 0 rfl ?_
    refine m_get C d_X7_keep_10 fd_RX7_121 (v := .int (nI (mK S 15))) rfl ?_
    refine m_bipush C d_X7_keep_13 (v := (nI 12)) rfl ?_
    refine mn_icmp_ne C d_X7_keep_15 (tgt := 22) rfl (by have := pats_le I; omega) (by omega) (fun c_15 => ?_) (fun c_15 => ?_)
    · skip
      refine m_iconst C d_X7_keep_22 (v := (nI 0)) rfl ?_
      refine m_st (st' := [.int (nI (cKeep S)), .ref (q 0)]) (congrArg (fun z => [Value.int (nI z), .ref (q 0)]) (by unfold cKeep; grind)) ?_
      exact join_23  
    · skip
      refine m_iconst C d_X7_keep_18 (v := (nI 1)) rfl ?_
      refine m_goto C d_X7_keep_19 (tgt := 23) rfl ?_
      refine m_st (st' := [.int (nI (cKeep S)), .ref (q 0)]) (congrArg (fun z => [Value.int (nI z), .ref (q 0)]) (by unfold cKeep; grind)) ?_
      exact join_23  
