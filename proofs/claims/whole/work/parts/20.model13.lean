theorem nI_xor (a b : Nat) : nI a ^^^ nI b = nI (a ^^^ b) := by
  apply Int32.toBitVec_inj.mp
  show BitVec.ofNat 32 a ^^^ BitVec.ofNat 32 b = BitVec.ofNat 32 (a ^^^ b)
  rw [BitVec.ofNat_xor]
theorem nI_andN (a b : Nat) : nI a &&& (nI b ^^^ (-1)) = nI (a &&& (b ^^^ 4294967295)) := by
  rw [show (-1 : Int32) = nI 4294967295 by decide, nI_xor, nI_and]
def cJoin (S : mS) (r o bb : Int32) : Nat := if (mIsR S r && mIsR S o) = true then (if inR bb 0 2 = true then (if mI S 20 (tn r) = mI S 20 (tn o) then 0 else 3) else 2) else 1
theorem cJoin_0 {S : mS} {r o bb : Int32} (h : cJoin S r o bb = 0) : r = nI (tn r) ∧ tn r < 8 ∧ o = nI (tn o) ∧ tn o < 8 ∧ bb = nI (tn bb) ∧ tn bb < 3 := by
  unfold cJoin at h
  split at h
  · rename_i c
    rw [Bool.and_eq_true] at c
    split at h
    · rename_i d
      obtain ⟨e1, e2, -⟩ := mIsR_of c.1
      obtain ⟨e3, e4, -⟩ := mIsR_of c.2
      obtain ⟨e5, -, e6⟩ := inR_of d (by decide) (by decide)
      exact ⟨e1, e2, e3, e4, e5, by omega⟩
    · omega
  · omega
def jn (a b w : Nat) : Nat := if w = 0 then a ||| b else if w = 1 then a &&& b else a &&& (b ^^^ 4294967295)
def joF (S : mS) (r o w k : Nat) : Nat → Nat := fun z => if 40 * r ≤ z ∧ z < 40 * r + k then jn (mN S 21 z) (mN S 21 (40 * o + (z - 40 * r))) w else mN S 21 z
def joS (S : mS) (r o w k : Nat) : mS := sN (uK S 0 0) 21 (joF S r o w k)
theorem jo_init {S : mS} {r o w : Nat} : uK S 0 0 = joS S r o w 0 := by
  unfold joS
  apply sN_init
  intro z
  unfold joF
  rw [if_neg (by omega)]; rfl
theorem jo_r {S : mS} {r o w k a : Nat} (hk : k < 40) (h : a = r ∨ a = o) : mN (joS S r o w k) 21 (40 * a + k) = mN S 21 (40 * a + k) := by
  unfold joS
  rw [mN_sN, if_pos rfl]
  unfold joF
  rw [if_neg (by omega)]
theorem jo_step {S : mS} {r o w k : Nat} (hk : k < 40) : uN (joS S r o w k) 21 (40 * r + k) (jn (mN S 21 (40 * r + k)) (mN S 21 (40 * o + k)) w) = joS S r o w (k + 1) := by
  unfold joS
  rw [sN_step (g := joF S r o w (k + 1))]
  intro z
  unfold joF
  by_cases c : z = 40 * r + k
  · rw [if_pos c, if_pos (by omega), c, Nat.add_sub_cancel_left]
  · rw [if_neg c]
    by_cases d : 40 * r ≤ z ∧ z < 40 * r + k
    · rw [if_pos d, if_pos (by omega)]
    · rw [if_neg d, if_neg (by omega)]
theorem jn_lt {a b w : Nat} (ha : a < 512) (hb : b < 512) : jn a b w < 512 := by
  unfold jn
  split
  · exact or_lt (n := 9) ha hb
  · split
    · exact Nat.lt_of_le_of_lt Nat.and_le_left ha
    · exact Nat.lt_of_le_of_lt Nat.and_le_left ha
theorem len_lt {S : mS} (I : mInv S) {z : Nat} (hz : z < 320) : mN S 21 z < 512 := (I.2.2.2.2.2.2.2.2.2.2.2.2.2.1 z hz).1
theorem joF_lt {S : mS} (I : mInv S) {r o w z : Nat} (hr : r < 8) (ho : o < 8) (hz : z < 320) : joF S r o w 40 z < 512 := by
  unfold joF
  split
  · exact jn_lt (len_lt I hz) (len_lt I (by omega))
  · exact len_lt I hz
def tJoin (S : mS) (r o bb : Int32) : mS := if cJoin S r o bb = 0 then joS S (tn r) (tn o) (tn bb) 40 else uK S 0 (cJoin S r o bb)
def rJoin (S : mS) (r o bb : Int32) : Nat := if cJoin S r o bb = 0 then mSize (tJoin S r o bb) (tn r) else 0
/-- the highest bit from so many down -/
def hb (v : Nat) : Nat → Nat
  | 0 => 0
  | j + 1 => if v / 2 ^ (j + 1) % 2 = 1 then j + 1 else hb v j
theorem hb_le (v : Nat) : ∀ j, hb v j ≤ j
  | 0 => Nat.le_refl _
  | j + 1 => by
    rw [hb]
    split
    · exact Nat.le_refl _
    · exact Nat.le_succ_of_le (hb_le v j)
def thE (S : mS) (r : Nat) : Nat → Nat
  | 0 => 0
  | k + 1 => if 0 < hb (mN S 21 (40 * r + k)) 8 ∧ thE S r k ≤ k then k + hb (mN S 21 (40 * r + k)) 8 else thE S r k
theorem thE_le (S : mS) (r : Nat) : ∀ k, thE S r k ≤ k + 8
  | 0 => Nat.zero_le _
  | k + 1 => by
    rw [thE]
    have := thE_le S r k
    have := hb_le (mN S 21 (40 * r + k)) 8
    split <;> omega
def thV (S : mS) (r k : Nat) : Nat := if 0 < hb (mN S 21 (40 * r + k)) 8 ∧ thE S r k ≤ k then 2 ^ hb (mN S 21 (40 * r + k)) 8 else 0
def thF (S : mS) (r k : Nat) : Nat → Nat := fun z => if 40 * r ≤ z ∧ z < 40 * r + k then thV S r (z - 40 * r) else mN S 21 z
def thS (S : mS) (r k : Nat) : mS := sN (uK S 0 0) 21 (thF S r k)
theorem th_init {S : mS} {r : Nat} : uK S 0 0 = thS S r 0 := by
  unfold thS
  apply sN_init
  intro z
  unfold thF
  rw [if_neg (by omega)]; rfl
theorem th_r {S : mS} {r k : Nat} : mN (thS S r k) 21 (40 * r + k) = mN S 21 (40 * r + k) := by
  unfold thS
  rw [mN_sN, if_pos rfl]
  unfold thF
  rw [if_neg (by omega)]
theorem th_step {S : mS} {r k : Nat} : uN (thS S r k) 21 (40 * r + k) (thV S r k) = thS S r (k + 1) := by
  unfold thS
  rw [sN_step (g := thF S r (k + 1))]
  intro z
  unfold thF
  by_cases c : z = 40 * r + k
  · rw [if_pos c, if_pos (by omega), c, Nat.add_sub_cancel_left]
  · rw [if_neg c]
    by_cases d : 40 * r ≤ z ∧ z < 40 * r + k
    · rw [if_pos d, if_pos (by omega)]
    · rw [if_neg d, if_neg (by omega)]
theorem thF_lt {S : mS} (I : mInv S) {r z : Nat} (hz : z < 320) : thF S r 40 z < 512 := by
  unfold thF
  split
  · unfold thV
    split
    · exact Nat.lt_of_le_of_lt (Nat.pow_le_pow_right (n := 2) (by decide) (hb_le _ 8)) (by decide)
    · omega
  · exact len_lt I hz
def tThin (S : mS) (r : Int32) : mS := if mIsR S r = true then thS S (tn r) 40 else uK S 0 1
def rThin (S : mS) (r : Int32) : Nat := if mIsR S r = true then mSize (tThin S r) (tn r) else 0
/-- whether a sentence has an aligned one with a row of the pattern, among the first k places -/
def paB (S : mS) (s its j : Nat) : Bool := decide (mN S 7 (if s = 0 then its else mN S 3 (40 * (1 - s) + j)) / 2 ^ (if s = 0 then mN S 3 (40 * (1 - s) + j) else its) % 2 = 1)
def haF (S : mS) (s its pat : Nat) (j : Nat) : Bool := paB S s its j && decide (0 < mLong S pat (1 - s) j 1 false)
def haO (f : Nat → Bool) : Nat → Bool
  | 0 => false
  | k + 1 => haO f k || f k
theorem haO_mono {f : Nat → Bool} {k : Nat} (h : haO f k = true) : ∀ j, haO f (k + j) = true
  | 0 => h
  | j + 1 => by rw [← Nat.add_assoc, haO, haO_mono h j]; rfl
def mHas (S : mS) (s its pat : Nat) : Bool := haO (haF S s its pat) (mN S 1 (1 - s))

def dl_X7_join : List (Nat × Instr × Nat) := [(0, .aload_n 0, 1), (1, .iload_n 1, 1), (2, .invokevirtual 153, 3), (5, .ifCond .eq 15, 3), (8, .aload_n 0, 1), (9, .iload_n 2, 1), (10, .invokevirtual 153, 3), (13, .ifCond .eq 7, 3), (16, .iconst 1, 1), (17, .goto 4, 3), (20, .iconst 0, 1), (21, .istore 4, 2), (23, .aload_n 0, 1), (24, .iload 4, 2), (26, .ifCond .ne 7, 3), (29, .iconst 1, 1), (30, .goto 36, 3), (33, .iload_n 3, 1), (34, .iconst 0, 1), (35, .iconst 2, 1), (36, .invokestatic 76, 3), (39, .ifCond .ne 7, 3), (42, .iconst 2, 1), (43, .goto 23, 3), (46, .aload_n 0, 1), (47, .getfield 63, 3), (50, .iload_n 1, 1), (51, .iaload, 1), (52, .aload_n 0, 1), (53, .getfield 63, 3), (56, .iload_n 2, 1), (57, .iaload, 1), (58, .if_icmp .eq 7, 3), (61, .iconst 3, 1), (62, .goto 4, 3), (65, .iconst 0, 1), (66, .invokevirtual 84, 3), (69, .ifCond .ne 5, 3), (72, .iconst 0, 1), (73, .ireturn, 1), (74, .iconst 0, 1), (75, .istore 5, 2), (77, .iload 5, 2), (79, .bipush 40, 2), (81, .if_icmp .ge 81, 3), (84, .aload_n 0, 1), (85, .getfield 66, 3), (88, .bipush 40, 2), (90, .iload_n 1, 1), (91, .imul, 1), (92, .iload 5, 2), (94, .iadd, 1), (95, .iaload, 1), (96, .istore 6, 2), (98, .aload_n 0, 1), (99, .getfield 66, 3), (102, .bipush 40, 2), (104, .iload_n 2, 1), (105, .imul, 1), (106, .iload 5, 2), (108, .iadd, 1), (109, .iaload, 1), (110, .istore 7, 2), (112, .aload_n 0, 1), (113, .getfield 66, 3), (116, .bipush 40, 2), (118, .iload_n 1, 1), (119, .imul, 1), (120, .iload 5, 2), (122, .iadd, 1), (123, .iload_n 3, 1), (124, .ifCond .ne 11, 3), (127, .iload 6, 2), (129, .iload 7, 2), (131, .ior, 1), (132, .goto 23, 3), (135, .iload_n 3, 1), (136, .iconst 1, 1), (137, .if_icmp .ne 11, 3), (140, .iload 6, 2), (142, .iload 7, 2), (144, .iand, 1), (145, .goto 10, 3), (148, .iload 6, 2), (150, .iload 7, 2), (152, .iconst (-1), 1), (153, .ixor, 1), (154, .iand, 1), (155, .iastore, 1), (156, .iinc 5 1, 3), (159, .goto (-82), 3), (162, .aload_n 0, 1), (163, .iload_n 1, 1), (164, .invokevirtual 150, 3), (167, .ireturn, 1)]
theorem dc_X7_join : dnL cX7_join dl_X7_join = true := by decide +kernel
theorem d_X7_join_0 : dn cX7_join 0 (.aload_n 0) 1 1 := dnAt dc_X7_join 0 rfl rfl
theorem d_X7_join_1 : dn cX7_join 1 (.iload_n 1) 1 2 := dnAt dc_X7_join 1 rfl rfl
theorem d_X7_join_2 : dn cX7_join 2 (.invokevirtual 153) 3 5 := dnAt dc_X7_join 2 rfl rfl
theorem d_X7_join_5 : dn cX7_join 5 (.ifCond .eq 15) 3 8 := dnAt dc_X7_join 3 rfl rfl
theorem d_X7_join_8 : dn cX7_join 8 (.aload_n 0) 1 9 := dnAt dc_X7_join 4 rfl rfl
theorem d_X7_join_9 : dn cX7_join 9 (.iload_n 2) 1 10 := dnAt dc_X7_join 5 rfl rfl
theorem d_X7_join_10 : dn cX7_join 10 (.invokevirtual 153) 3 13 := dnAt dc_X7_join 6 rfl rfl
theorem d_X7_join_13 : dn cX7_join 13 (.ifCond .eq 7) 3 16 := dnAt dc_X7_join 7 rfl rfl
theorem d_X7_join_16 : dn cX7_join 16 (.iconst 1) 1 17 := dnAt dc_X7_join 8 rfl rfl
theorem d_X7_join_17 : dn cX7_join 17 (.goto 4) 3 20 := dnAt dc_X7_join 9 rfl rfl
theorem d_X7_join_20 : dn cX7_join 20 (.iconst 0) 1 21 := dnAt dc_X7_join 10 rfl rfl
theorem d_X7_join_21 : dn cX7_join 21 (.istore 4) 2 23 := dnAt dc_X7_join 11 rfl rfl
theorem d_X7_join_23 : dn cX7_join 23 (.aload_n 0) 1 24 := dnAt dc_X7_join 12 rfl rfl
theorem d_X7_join_24 : dn cX7_join 24 (.iload 4) 2 26 := dnAt dc_X7_join 13 rfl rfl
theorem d_X7_join_26 : dn cX7_join 26 (.ifCond .ne 7) 3 29 := dnAt dc_X7_join 14 rfl rfl
theorem d_X7_join_29 : dn cX7_join 29 (.iconst 1) 1 30 := dnAt dc_X7_join 15 rfl rfl
theorem d_X7_join_30 : dn cX7_join 30 (.goto 36) 3 33 := dnAt dc_X7_join 16 rfl rfl
theorem d_X7_join_33 : dn cX7_join 33 (.iload_n 3) 1 34 := dnAt dc_X7_join 17 rfl rfl
theorem d_X7_join_34 : dn cX7_join 34 (.iconst 0) 1 35 := dnAt dc_X7_join 18 rfl rfl
theorem d_X7_join_35 : dn cX7_join 35 (.iconst 2) 1 36 := dnAt dc_X7_join 19 rfl rfl
theorem d_X7_join_36 : dn cX7_join 36 (.invokestatic 76) 3 39 := dnAt dc_X7_join 20 rfl rfl
theorem d_X7_join_39 : dn cX7_join 39 (.ifCond .ne 7) 3 42 := dnAt dc_X7_join 21 rfl rfl
theorem d_X7_join_42 : dn cX7_join 42 (.iconst 2) 1 43 := dnAt dc_X7_join 22 rfl rfl
theorem d_X7_join_43 : dn cX7_join 43 (.goto 23) 3 46 := dnAt dc_X7_join 23 rfl rfl
theorem d_X7_join_46 : dn cX7_join 46 (.aload_n 0) 1 47 := dnAt dc_X7_join 24 rfl rfl
theorem d_X7_join_47 : dn cX7_join 47 (.getfield 63) 3 50 := dnAt dc_X7_join 25 rfl rfl
theorem d_X7_join_50 : dn cX7_join 50 (.iload_n 1) 1 51 := dnAt dc_X7_join 26 rfl rfl
theorem d_X7_join_51 : dn cX7_join 51 (.iaload) 1 52 := dnAt dc_X7_join 27 rfl rfl
theorem d_X7_join_52 : dn cX7_join 52 (.aload_n 0) 1 53 := dnAt dc_X7_join 28 rfl rfl
theorem d_X7_join_53 : dn cX7_join 53 (.getfield 63) 3 56 := dnAt dc_X7_join 29 rfl rfl
theorem d_X7_join_56 : dn cX7_join 56 (.iload_n 2) 1 57 := dnAt dc_X7_join 30 rfl rfl
theorem d_X7_join_57 : dn cX7_join 57 (.iaload) 1 58 := dnAt dc_X7_join 31 rfl rfl
theorem d_X7_join_58 : dn cX7_join 58 (.if_icmp .eq 7) 3 61 := dnAt dc_X7_join 32 rfl rfl
theorem d_X7_join_61 : dn cX7_join 61 (.iconst 3) 1 62 := dnAt dc_X7_join 33 rfl rfl
theorem d_X7_join_62 : dn cX7_join 62 (.goto 4) 3 65 := dnAt dc_X7_join 34 rfl rfl
theorem d_X7_join_65 : dn cX7_join 65 (.iconst 0) 1 66 := dnAt dc_X7_join 35 rfl rfl
theorem d_X7_join_66 : dn cX7_join 66 (.invokevirtual 84) 3 69 := dnAt dc_X7_join 36 rfl rfl
theorem d_X7_join_69 : dn cX7_join 69 (.ifCond .ne 5) 3 72 := dnAt dc_X7_join 37 rfl rfl
theorem d_X7_join_72 : dn cX7_join 72 (.iconst 0) 1 73 := dnAt dc_X7_join 38 rfl rfl
theorem d_X7_join_73 : dn cX7_join 73 (.ireturn) 1 74 := dnAt dc_X7_join 39 rfl rfl
theorem d_X7_join_74 : dn cX7_join 74 (.iconst 0) 1 75 := dnAt dc_X7_join 40 rfl rfl
theorem d_X7_join_75 : dn cX7_join 75 (.istore 5) 2 77 := dnAt dc_X7_join 41 rfl rfl
theorem d_X7_join_77 : dn cX7_join 77 (.iload 5) 2 79 := dnAt dc_X7_join 42 rfl rfl
theorem d_X7_join_79 : dn cX7_join 79 (.bipush 40) 2 81 := dnAt dc_X7_join 43 rfl rfl
theorem d_X7_join_81 : dn cX7_join 81 (.if_icmp .ge 81) 3 84 := dnAt dc_X7_join 44 rfl rfl
theorem d_X7_join_84 : dn cX7_join 84 (.aload_n 0) 1 85 := dnAt dc_X7_join 45 rfl rfl
theorem d_X7_join_85 : dn cX7_join 85 (.getfield 66) 3 88 := dnAt dc_X7_join 46 rfl rfl
theorem d_X7_join_88 : dn cX7_join 88 (.bipush 40) 2 90 := dnAt dc_X7_join 47 rfl rfl
theorem d_X7_join_90 : dn cX7_join 90 (.iload_n 1) 1 91 := dnAt dc_X7_join 48 rfl rfl
theorem d_X7_join_91 : dn cX7_join 91 (.imul) 1 92 := dnAt dc_X7_join 49 rfl rfl
theorem d_X7_join_92 : dn cX7_join 92 (.iload 5) 2 94 := dnAt dc_X7_join 50 rfl rfl
theorem d_X7_join_94 : dn cX7_join 94 (.iadd) 1 95 := dnAt dc_X7_join 51 rfl rfl
theorem d_X7_join_95 : dn cX7_join 95 (.iaload) 1 96 := dnAt dc_X7_join 52 rfl rfl
theorem d_X7_join_96 : dn cX7_join 96 (.istore 6) 2 98 := dnAt dc_X7_join 53 rfl rfl
theorem d_X7_join_98 : dn cX7_join 98 (.aload_n 0) 1 99 := dnAt dc_X7_join 54 rfl rfl
theorem d_X7_join_99 : dn cX7_join 99 (.getfield 66) 3 102 := dnAt dc_X7_join 55 rfl rfl
theorem d_X7_join_102 : dn cX7_join 102 (.bipush 40) 2 104 := dnAt dc_X7_join 56 rfl rfl
theorem d_X7_join_104 : dn cX7_join 104 (.iload_n 2) 1 105 := dnAt dc_X7_join 57 rfl rfl
theorem d_X7_join_105 : dn cX7_join 105 (.imul) 1 106 := dnAt dc_X7_join 58 rfl rfl
theorem d_X7_join_106 : dn cX7_join 106 (.iload 5) 2 108 := dnAt dc_X7_join 59 rfl rfl
theorem d_X7_join_108 : dn cX7_join 108 (.iadd) 1 109 := dnAt dc_X7_join 60 rfl rfl
theorem d_X7_join_109 : dn cX7_join 109 (.iaload) 1 110 := dnAt dc_X7_join 61 rfl rfl
theorem d_X7_join_110 : dn cX7_join 110 (.istore 7) 2 112 := dnAt dc_X7_join 62 rfl rfl
theorem d_X7_join_112 : dn cX7_join 112 (.aload_n 0) 1 113 := dnAt dc_X7_join 63 rfl rfl
theorem d_X7_join_113 : dn cX7_join 113 (.getfield 66) 3 116 := dnAt dc_X7_join 64 rfl rfl
theorem d_X7_join_116 : dn cX7_join 116 (.bipush 40) 2 118 := dnAt dc_X7_join 65 rfl rfl
theorem d_X7_join_118 : dn cX7_join 118 (.iload_n 1) 1 119 := dnAt dc_X7_join 66 rfl rfl
theorem d_X7_join_119 : dn cX7_join 119 (.imul) 1 120 := dnAt dc_X7_join 67 rfl rfl
theorem d_X7_join_120 : dn cX7_join 120 (.iload 5) 2 122 := dnAt dc_X7_join 68 rfl rfl
theorem d_X7_join_122 : dn cX7_join 122 (.iadd) 1 123 := dnAt dc_X7_join 69 rfl rfl
theorem d_X7_join_123 : dn cX7_join 123 (.iload_n 3) 1 124 := dnAt dc_X7_join 70 rfl rfl
theorem d_X7_join_124 : dn cX7_join 124 (.ifCond .ne 11) 3 127 := dnAt dc_X7_join 71 rfl rfl
theorem d_X7_join_127 : dn cX7_join 127 (.iload 6) 2 129 := dnAt dc_X7_join 72 rfl rfl
theorem d_X7_join_129 : dn cX7_join 129 (.iload 7) 2 131 := dnAt dc_X7_join 73 rfl rfl
theorem d_X7_join_131 : dn cX7_join 131 (.ior) 1 132 := dnAt dc_X7_join 74 rfl rfl
theorem d_X7_join_132 : dn cX7_join 132 (.goto 23) 3 135 := dnAt dc_X7_join 75 rfl rfl
theorem d_X7_join_135 : dn cX7_join 135 (.iload_n 3) 1 136 := dnAt dc_X7_join 76 rfl rfl
theorem d_X7_join_136 : dn cX7_join 136 (.iconst 1) 1 137 := dnAt dc_X7_join 77 rfl rfl
theorem d_X7_join_137 : dn cX7_join 137 (.if_icmp .ne 11) 3 140 := dnAt dc_X7_join 78 rfl rfl
theorem d_X7_join_140 : dn cX7_join 140 (.iload 6) 2 142 := dnAt dc_X7_join 79 rfl rfl
theorem d_X7_join_142 : dn cX7_join 142 (.iload 7) 2 144 := dnAt dc_X7_join 80 rfl rfl
theorem d_X7_join_144 : dn cX7_join 144 (.iand) 1 145 := dnAt dc_X7_join 81 rfl rfl
theorem d_X7_join_145 : dn cX7_join 145 (.goto 10) 3 148 := dnAt dc_X7_join 82 rfl rfl
theorem d_X7_join_148 : dn cX7_join 148 (.iload 6) 2 150 := dnAt dc_X7_join 83 rfl rfl
theorem d_X7_join_150 : dn cX7_join 150 (.iload 7) 2 152 := dnAt dc_X7_join 84 rfl rfl
theorem d_X7_join_152 : dn cX7_join 152 (.iconst (-1)) 1 153 := dnAt dc_X7_join 85 rfl rfl
theorem d_X7_join_153 : dn cX7_join 153 (.ixor) 1 154 := dnAt dc_X7_join 86 rfl rfl
theorem d_X7_join_154 : dn cX7_join 154 (.iand) 1 155 := dnAt dc_X7_join 87 rfl rfl
theorem d_X7_join_155 : dn cX7_join 155 (.iastore) 1 156 := dnAt dc_X7_join 88 rfl rfl
theorem d_X7_join_156 : dn cX7_join 156 (.iinc 5 1) 3 159 := dnAt dc_X7_join 89 rfl rfl
theorem d_X7_join_159 : dn cX7_join 159 (.goto (-82)) 3 162 := dnAt dc_X7_join 90 rfl rfl
theorem d_X7_join_162 : dn cX7_join 162 (.aload_n 0) 1 163 := dnAt dc_X7_join 91 rfl rfl
theorem d_X7_join_163 : dn cX7_join 163 (.iload_n 1) 1 164 := dnAt dc_X7_join 92 rfl rfl
theorem d_X7_join_164 : dn cX7_join 164 (.invokevirtual 150) 3 167 := dnAt dc_X7_join 93 rfl rfl
theorem d_X7_join_167 : dn cX7_join 167 (.ireturn) 1 168 := dnAt dc_X7_join 94 rfl rfl
set_option maxHeartbeats 4000000 in
set_option maxRecDepth 100000 in
theorem m_join (S : mS) (r o bb : Int32) (I : mInv S) : mC yX7_join cX7_join 8 (Option.some Jvm.ClassFile.FieldType.int) { frames := 2, cells := 0, slots := 0, locals := 45 } [.int r, .int o, .int bb] S (fun v9 T9 => v9 = (some (.int (nI (rJoin S r o bb)))) ∧ T9 = tJoin S r o bb) := by
  refine mC.of (by decide) (Nat.le_of_ble_eq_true rfl) ?_
  intro G x q h0 C A TY
  show VM G x q h0 S 0 [(0, .ref (q 0)), (1, .int r), (2, .int o), (3, .int bb)] []
  have join_21 : VM G x q h0 S 21 [(0, .ref (q 0)), (1, .int r), (2, .int o), (3, .int bb)] [.int (bI (mIsR S r && mIsR S o))] := by
    refine m_istore C d_X7_join_21 (lv' := [(4, .int (bI (mIsR S r && mIsR S o))), (0, .ref (q 0)), (1, .int r), (2, .int o), (3, .int bb)]) (by decide) rfl ?_
    have join_66 : VM G x q h0 S 66 [(0, .ref (q 0)), (1, .int r), (2, .int o), (3, .int bb)] [.int (nI (cJoin S r o bb)), .ref (q 0)] := by
      refine m_callV C d_X7_join_66 ok_RX7_84 (m_holds S (cJoin S r o bb) (by unfold cJoin; split <;> (try split) <;> (try split) <;> omega)) rfl (rest := []) rfl rfl (Nat.le_of_ble_eq_true rfl) ⟨⟨by decide, by decide⟩, by decide, by decide⟩ (fun v9 T9 e9 => ?_)
      obtain ⟨rfl, e9⟩ := e9
      refine m_eq e9 ?_
      show VM G x q h0 (uK S 0 (cJoin S r o bb)) 69 [(0, .ref (q 0)), (1, .int r), (2, .int o), (3, .int bb)] [.int (bI (decide (cJoin S r o bb = 0)))]
      refine mb_if_ne C d_X7_join_69 (tgt := 74) rfl (fun c_69 => ?_) (fun c_69 => ?_)
      · skip
        have c0 := of_decide_eq_true c_69
        obtain ⟨e1, e2, e3, e4, e5, e6⟩ := cJoin_0 c0
        rw [c0]
        refine m_lve (lv' := [(0, .ref (q 0)), (1, .int (nI (tn r))), (2, .int (nI (tn o))), (3, .int (nI (tn bb)))]) (by rw [← e1, ← e3, ← e5]) ?_
        refine m_iconst C d_X7_join_74 (v := (nI 0)) rfl ?_
        refine m_istore C d_X7_join_75 (lv' := [(5, .int (nI 0)), (0, .ref (q 0)), (1, .int (nI (tn r))), (2, .int (nI (tn o))), (3, .int (nI (tn bb)))]) (by decide) rfl ?_
        have loop_77 : ∀ (fuel : Nat) (k : Nat), (k ≤ 40) → (41 - k) < fuel → VM G x q h0 (joS S (tn r) (tn o) (tn bb) k) 77 [(0, .ref (q 0)), (1, .int (nI (tn r))), (2, .int (nI (tn o))), (3, .int (nI (tn bb))), (5, .int (nI k))] [] := by
          intro fuel
          induction fuel with
          | zero => intro k hk hf9; exact absurd hf9 (Nat.not_lt_zero _)
          | succ fuel ih_77 =>
            intro k hk hf9
            refine m_iload C d_X7_join_77 4 rfl ?_
            refine m_bipush C d_X7_join_79 (v := (nI 40)) rfl ?_
            refine mn_icmp_ge C d_X7_join_81 (tgt := 162) rfl (by omega) (by omega) (fun c_81 => ?_) (fun c_81 => ?_)
            · skip
              obtain rfl : k = 40 := by omega
              refine m_aload_n C d_X7_join_162 0 rfl ?_
              refine m_iload_n C d_X7_join_163 1 rfl ?_
              refine m_callV C d_X7_join_164 ok_RX7_150 (m_sizeOf (joS S (tn r) (tn o) (tn bb) 40) (tn r) (by omega) (fun z hz => joF_lt I e2 e4 hz)) rfl (rest := []) rfl rfl (Nat.le_of_ble_eq_true rfl) ⟨⟨by decide, by decide⟩, by decide, by decide⟩ (fun v9 T9 e9 => ?_)
              obtain ⟨rfl, e9⟩ := e9
              refine m_eq e9 ?_
              show VM G x q h0 (joS S (tn r) (tn o) (tn bb) 40) 167 [(0, .ref (q 0)), (1, .int (nI (tn r))), (2, .int (nI (tn o))), (3, .int (nI (tn bb))), (5, .int (nI 40))] [.int (nI (mSize (joS S (tn r) (tn o) (tn bb) 40) (tn r)))]
              refine m_st (st' := [.int (nI (rJoin S r o bb))]) (by rw [rJoin, if_pos c0, tJoin, if_pos c0]) ?_
              exact m_iret C A TY d_X7_join_167 rfl (⟨rfl, by rw [tJoin, if_pos c0]⟩)
            · skip
              refine m_aload_n C d_X7_join_84 0 rfl ?_
              refine m_get C d_X7_join_85 fd_RX7_66 (v := .ref (q 21)) rfl ?_
              refine m_bipush C d_X7_join_88 (v := (nI 40)) rfl ?_
              refine m_iload_n C d_X7_join_90 1 rfl ?_
              refine mn_imul C d_X7_join_91 ?_
              refine m_iload C d_X7_join_92 4 rfl ?_
              refine mn_iadd C d_X7_join_94 ?_
              refine m_ald C d_X7_join_95 (k := 21) (by decide) rfl (by show _ < 320; omega) (by decide) ?_
              refine m_st (st' := [.int (nI (mN S 21 (40 * tn r + k)))]) (by rw [jo_r (by omega) (Or.inl rfl)]) ?_
              refine m_istore C d_X7_join_96 (lv' := [(6, .int (nI (mN S 21 (40 * tn r + k)))), (0, .ref (q 0)), (1, .int (nI (tn r))), (2, .int (nI (tn o))), (3, .int (nI (tn bb))), (5, .int (nI k))]) (by decide) rfl ?_
              refine m_aload_n C d_X7_join_98 1 rfl ?_
              refine m_get C d_X7_join_99 fd_RX7_66 (v := .ref (q 21)) rfl ?_
              refine m_bipush C d_X7_join_102 (v := (nI 40)) rfl ?_
              refine m_iload_n C d_X7_join_104 3 rfl ?_
              refine mn_imul C d_X7_join_105 ?_
              refine m_iload C d_X7_join_106 5 rfl ?_
              refine mn_iadd C d_X7_join_108 ?_
              refine m_ald C d_X7_join_109 (k := 21) (by decide) rfl (by show _ < 320; omega) (by decide) ?_
              refine m_st (st' := [.int (nI (mN S 21 (40 * tn o + k)))]) (by rw [jo_r (by omega) (Or.inr rfl)]) ?_
              refine m_istore C d_X7_join_110 (lv' := [(7, .int (nI (mN S 21 (40 * tn o + k)))), (6, .int (nI (mN S 21 (40 * tn r + k)))), (0, .ref (q 0)), (1, .int (nI (tn r))), (2, .int (nI (tn o))), (3, .int (nI (tn bb))), (5, .int (nI k))]) (by decide) rfl ?_
              have join_155 : VM G x q h0 (joS S (tn r) (tn o) (tn bb) k) 155 [(0, .ref (q 0)), (1, .int (nI (tn r))), (2, .int (nI (tn o))), (3, .int (nI (tn bb))), (5, .int (nI k))] [.int (nI (jn (mN S 21 (40 * tn r + k)) (mN S 21 (40 * tn o + k)) (tn bb))), .int (nI (40 * tn r + k)), .ref (q 21)] := by
                refine m_ast C d_X7_join_155 (k := 21) (v := jn (mN S 21 (40 * tn r + k)) (mN S 21 (40 * tn o + k)) (tn bb)) (by decide) rfl (by show _ < 320; omega) (by decide) ?_
                refine mn_iinc C d_X7_join_156 (lv' := [(5, .int (nI (k + 1))), (0, .ref (q 0)), (1, .int (nI (tn r))), (2, .int (nI (tn o))), (3, .int (nI (tn bb)))]) 4 rfl (nI_inc _ rfl) (by decide) rfl ?_
                refine m_goto C d_X7_join_159 (tgt := 77) rfl ?_
                refine m_eq (S' := joS S (tn r) (tn o) (tn bb) (k + 1)) (jo_step (by omega)) ?_
                refine m_lv (lv' := [(0, .ref (q 0)), (1, .int (nI (tn r))), (2, .int (nI (tn o))), (3, .int (nI (tn bb))), (5, .int (nI (k + 1)))]) [1, 2, 3, 4, 0] rfl ?_
                exact ih_77 (k + 1) (by omega) (by omega)
              refine m_aload_n C d_X7_join_112 2 rfl ?_
              refine m_get C d_X7_join_113 fd_RX7_66 (v := .ref (q 21)) rfl ?_
              refine m_bipush C d_X7_join_116 (v := (nI 40)) rfl ?_
              refine m_iload_n C d_X7_join_118 3 rfl ?_
              refine mn_imul C d_X7_join_119 ?_
              refine m_iload C d_X7_join_120 6 rfl ?_
              refine mn_iadd C d_X7_join_122 ?_
              refine m_iload_n C d_X7_join_123 5 rfl ?_
              refine mn_if_ne C d_X7_join_124 (tgt := 135) rfl (by omega) (fun c_124 => ?_) (fun c_124 => ?_)
              · skip
                refine m_iload_n C d_X7_join_135 5 rfl ?_
                refine m_iconst C d_X7_join_136 (v := (nI 1)) rfl ?_
                refine mn_icmp_ne C d_X7_join_137 (tgt := 148) rfl (by omega) (by omega) (fun c_137 => ?_) (fun c_137 => ?_)
                · skip
                  refine m_iload C d_X7_join_148 1 rfl ?_
                  refine m_iload C d_X7_join_150 0 rfl ?_
                  refine m_iconst C d_X7_join_152 (v := ((-1))) rfl ?_
                  refine m_ixor C d_X7_join_153 ?_
                  refine m_iand C d_X7_join_154 ?_
                  refine m_st (st' := [.int (nI (mN S 21 (40 * tn r + k) &&& (mN S 21 (40 * tn o + k) ^^^ 4294967295))), .int (nI ((40 * (tn r)) + k)), .ref (q 21)]) (by rw [nI_andN]) ?_
                  refine m_lv (lv' := [(0, .ref (q 0)), (1, .int (nI (tn r))), (2, .int (nI (tn o))), (3, .int (nI (tn bb))), (5, .int (nI k))]) [2, 3, 4, 5, 6] rfl ?_
                  refine m_st (st' := [.int (nI (jn (mN S 21 (40 * tn r + k)) (mN S 21 (40 * tn o + k)) (tn bb))), .int (nI (40 * tn r + k)), .ref (q 21)]) (by rw [jn, if_neg (by omega), if_neg c_137]) ?_
                  exact join_155  
                · skip
                  refine m_iload C d_X7_join_140 1 rfl ?_
                  refine m_iload C d_X7_join_142 0 rfl ?_
                  refine mn_iand C d_X7_join_144 ?_
                  refine m_goto C d_X7_join_145 (tgt := 155) rfl ?_
                  refine m_lv (lv' := [(0, .ref (q 0)), (1, .int (nI (tn r))), (2, .int (nI (tn o))), (3, .int (nI (tn bb))), (5, .int (nI k))]) [2, 3, 4, 5, 6] rfl ?_
                  refine m_st (st' := [.int (nI (jn (mN S 21 (40 * tn r + k)) (mN S 21 (40 * tn o + k)) (tn bb))), .int (nI (40 * tn r + k)), .ref (q 21)]) (by rw [jn, if_neg (by omega), if_pos c_137]) ?_
                  exact join_155  
              · skip
                refine m_iload C d_X7_join_127 1 rfl ?_
                refine m_iload C d_X7_join_129 0 rfl ?_
                refine mn_ior C d_X7_join_131 ?_
                refine m_goto C d_X7_join_132 (tgt := 155) rfl ?_
                refine m_lv (lv' := [(0, .ref (q 0)), (1, .int (nI (tn r))), (2, .int (nI (tn o))), (3, .int (nI (tn bb))), (5, .int (nI k))]) [2, 3, 4, 5, 6] rfl ?_
                refine m_st (st' := [.int (nI (jn (mN S 21 (40 * tn r + k)) (mN S 21 (40 * tn o + k)) (tn bb))), .int (nI (40 * tn r + k)), .ref (q 21)]) (by rw [jn, if_pos c_124]) ?_
                exact join_155  
        refine m_eq (S' := joS S (tn r) (tn o) (tn bb) 0) (jo_init) ?_
        refine m_lv (lv' := [(0, .ref (q 0)), (1, .int (nI (tn r))), (2, .int (nI (tn o))), (3, .int (nI (tn bb))), (5, .int (nI 0))]) [1, 2, 3, 4, 0] rfl ?_
        exact loop_77 _ 0 (by omega) (Nat.lt_succ_self _)
      · skip
        have c1 := of_decide_eq_false c_69
        refine m_iconst C d_X7_join_72 (v := (nI 0)) rfl ?_
        refine m_st (st' := [.int (nI (rJoin S r o bb))]) (by rw [rJoin, if_neg c1]) ?_
        exact m_iret C A TY d_X7_join_73 rfl (⟨rfl, by rw [tJoin, if_neg c1]⟩)
    refine m_aload_n C d_X7_join_23 1 rfl ?_
    refine m_iload C d_X7_join_24 0 rfl ?_
    refine mb_if_ne C d_X7_join_26 (tgt := 33) rfl (fun c_26 => ?_) (fun c_26 => ?_)
    · skip
      have c9 := c_26
      rw [Bool.and_eq_true] at c9
      obtain ⟨e1, e2, -⟩ := mIsR_of c9.1
      obtain ⟨e3, e4, -⟩ := mIsR_of c9.2
      refine m_lve (lv' := [(4, .int (bI (mIsR S r && mIsR S o))), (0, .ref (q 0)), (1, .int (nI (tn r))), (2, .int (nI (tn o))), (3, .int bb)]) (by rw [← e1, ← e3]) ?_
      refine m_iload_n C d_X7_join_33 4 rfl ?_
      refine m_iconst C d_X7_join_34 (v := (nI 0)) rfl ?_
      refine m_iconst C d_X7_join_35 (v := (nI 2)) rfl ?_
      refine m_callS C d_X7_join_36 ok_RX7_76 (s_isIn bb ((nI 0)) ((nI 2))) (rest := [.ref (q 0)]) rfl rfl (Nat.le_of_ble_eq_true rfl) ⟨⟨by decide, by decide⟩, by decide, by decide⟩ ?_
      show VM G x q h0 S 39 [(4, .int (bI (mIsR S r && mIsR S o))), (0, .ref (q 0)), (1, .int (nI (tn r))), (2, .int (nI (tn o))), (3, .int bb)] [.int (bI (inR bb 0 2)), .ref (q 0)]
      refine mb_if_ne C d_X7_join_39 (tgt := 46) rfl (fun c_39 => ?_) (fun c_39 => ?_)
      · skip
        refine m_aload_n C d_X7_join_46 1 rfl ?_
        refine m_get C d_X7_join_47 fd_RX7_63 (v := .ref (q 20)) rfl ?_
        refine m_iload_n C d_X7_join_50 2 rfl ?_
        refine m_aldI C d_X7_join_51 (k := 20) (by decide) rfl (by show _ < 8; omega) (by decide) ?_
        refine m_aload_n C d_X7_join_52 1 rfl ?_
        refine m_get C d_X7_join_53 fd_RX7_63 (v := .ref (q 20)) rfl ?_
        refine m_iload_n C d_X7_join_56 3 rfl ?_
        refine m_aldI C d_X7_join_57 (k := 20) (by decide) rfl (by show _ < 8; omega) (by decide) ?_
        refine m_icmp_eq C d_X7_join_58 (tgt := 65) rfl (fun c_58 => ?_) (fun c_58 => ?_)
        · skip
          refine m_iconst C d_X7_join_65 (v := (nI 0)) rfl ?_
          refine m_lv (lv' := [(0, .ref (q 0)), (1, .int (nI (tn r))), (2, .int (nI (tn o))), (3, .int bb)]) [1, 2, 3, 4] rfl ?_
          refine m_lve (lv' := [(0, .ref (q 0)), (1, .int r), (2, .int o), (3, .int bb)]) (by rw [← e1, ← e3]) ?_
          refine m_st (st' := [.int (nI (cJoin S r o bb)), .ref (q 0)]) (by rw [cJoin, if_pos c_26, if_pos c_39, if_pos c_58]) ?_
          exact join_66  
        · skip
          refine m_iconst C d_X7_join_61 (v := (nI 3)) rfl ?_
          refine m_goto C d_X7_join_62 (tgt := 66) rfl ?_
          refine m_lv (lv' := [(0, .ref (q 0)), (1, .int (nI (tn r))), (2, .int (nI (tn o))), (3, .int bb)]) [1, 2, 3, 4] rfl ?_
          refine m_lve (lv' := [(0, .ref (q 0)), (1, .int r), (2, .int o), (3, .int bb)]) (by rw [← e1, ← e3]) ?_
          refine m_st (st' := [.int (nI (cJoin S r o bb)), .ref (q 0)]) (by rw [cJoin, if_pos c_26, if_pos c_39, if_neg c_58]) ?_
          exact join_66  
      · skip
        refine m_iconst C d_X7_join_42 (v := (nI 2)) rfl ?_
        refine m_goto C d_X7_join_43 (tgt := 66) rfl ?_
        refine m_lv (lv' := [(0, .ref (q 0)), (1, .int (nI (tn r))), (2, .int (nI (tn o))), (3, .int bb)]) [1, 2, 3, 4] rfl ?_
        refine m_lve (lv' := [(0, .ref (q 0)), (1, .int r), (2, .int o), (3, .int bb)]) (by rw [← e1, ← e3]) ?_
        refine m_st (st' := [.int (nI (cJoin S r o bb)), .ref (q 0)]) (by rw [cJoin, if_pos c_26, if_neg (by rw [c_39]; decide)]) ?_
        exact join_66  
    · skip
      refine m_iconst C d_X7_join_29 (v := (nI 1)) rfl ?_
      refine m_goto C d_X7_join_30 (tgt := 66) rfl ?_
      refine m_lv (lv' := [(0, .ref (q 0)), (1, .int r), (2, .int o), (3, .int bb)]) [1, 2, 3, 4] rfl ?_
      refine m_st (st' := [.int (nI (cJoin S r o bb)), .ref (q 0)]) (by rw [cJoin, if_neg (by rw [c_26]; decide)]) ?_
      exact join_66  
  refine m_aload_n C d_X7_join_0 0 rfl ?_
  refine m_iload_n C d_X7_join_1 1 rfl ?_
  refine m_callV C d_X7_join_2 ok_RX7_153 (m_isResult S r) rfl (rest := []) rfl rfl (Nat.le_of_ble_eq_true rfl) ⟨⟨by decide, by decide⟩, by decide, by decide⟩ (fun v9 T9 e9 => ?_)
  obtain ⟨rfl, e9⟩ := e9
  refine m_eq e9 ?_
  show VM G x q h0 S 5 [(0, .ref (q 0)), (1, .int r), (2, .int o), (3, .int bb)] [.int (bI (mIsR S r))]
  refine mb_if_eq C d_X7_join_5 (tgt := 20) rfl (fun c_5 => ?_) (fun c_5 => ?_)
  · skip
    refine m_iconst C d_X7_join_20 (v := (bI false)) rfl ?_
    refine m_st (st' := [.int (bI (mIsR S r && mIsR S o))]) (by rw [c_5]; rfl) ?_
    exact join_21  
  · skip
    refine m_aload_n C d_X7_join_8 0 rfl ?_
    refine m_iload_n C d_X7_join_9 2 rfl ?_
    refine m_callV C d_X7_join_10 ok_RX7_153 (m_isResult S o) rfl (rest := []) rfl rfl (Nat.le_of_ble_eq_true rfl) ⟨⟨by decide, by decide⟩, by decide, by decide⟩ (fun v9 T9 e9 => ?_)
    obtain ⟨rfl, e9⟩ := e9
    refine m_eq e9 ?_
    show VM G x q h0 S 13 [(0, .ref (q 0)), (1, .int r), (2, .int o), (3, .int bb)] [.int (bI (mIsR S o))]
    refine mb_if_eq C d_X7_join_13 (tgt := 20) rfl (fun c_13 => ?_) (fun c_13 => ?_)
    · skip
      refine m_iconst C d_X7_join_20 (v := (bI false)) rfl ?_
      refine m_st (st' := [.int (bI (mIsR S r && mIsR S o))]) (by rw [c_5, c_13]; rfl) ?_
      exact join_21  
    · skip
      refine m_iconst C d_X7_join_16 (v := (bI true)) rfl ?_
      refine m_goto C d_X7_join_17 (tgt := 21) rfl ?_
      refine m_st (st' := [.int (bI (mIsR S r && mIsR S o))]) (by rw [c_5, c_13]; rfl) ?_
      exact join_21  
def dl_X7_thin : List (Nat × Instr × Nat) := [(0, .aload_n 0, 1), (1, .aload_n 0, 1), (2, .iload_n 1, 1), (3, .invokevirtual 153, 3), (6, .ifCond .eq 7, 3), (9, .iconst 0, 1), (10, .goto 4, 3), (13, .iconst 1, 1), (14, .invokevirtual 84, 3), (17, .ifCond .ne 5, 3), (20, .iconst 0, 1), (21, .ireturn, 1), (22, .iconst 0, 1), (23, .istore_n 2, 1), (24, .iconst 0, 1), (25, .istore_n 3, 1), (26, .iload_n 3, 1), (27, .bipush 40, 2), (29, .if_icmp .ge 91, 3), (32, .bipush 8, 2), (34, .istore 4, 2), (36, .iload 4, 2), (38, .ifCond .le 28, 3), (41, .aload_n 0, 1), (42, .getfield 66, 3), (45, .bipush 40, 2), (47, .iload_n 1, 1), (48, .imul, 1), (49, .iload_n 3, 1), (50, .iadd, 1), (51, .iaload, 1), (52, .iload 4, 2), (54, .ishr, 1), (55, .iconst 1, 1), (56, .iand, 1), (57, .ifCond .ne 9, 3), (60, .iinc 4 (-1), 3), (63, .goto (-27), 3), (66, .aload_n 0, 1), (67, .getfield 66, 3), (70, .bipush 40, 2), (72, .iload_n 1, 1), (73, .imul, 1), (74, .iload_n 3, 1), (75, .iadd, 1), (76, .iload 4, 2), (78, .ifCond .le 15, 3), (81, .iload_n 3, 1), (82, .iload_n 2, 1), (83, .if_icmp .lt 10, 3), (86, .iconst 1, 1), (87, .iload 4, 2), (89, .ishl, 1), (90, .goto 4, 3), (93, .iconst 0, 1), (94, .iastore, 1), (95, .iload 4, 2), (97, .ifCond .le 15, 3), (100, .iload_n 3, 1), (101, .iload_n 2, 1), (102, .if_icmp .lt 10, 3), (105, .iload_n 3, 1), (106, .iload 4, 2), (108, .iadd, 1), (109, .goto 4, 3), (112, .iload_n 2, 1), (113, .istore_n 2, 1), (114, .iinc 3 1, 3), (117, .goto (-91), 3), (120, .aload_n 0, 1), (121, .iload_n 1, 1), (122, .invokevirtual 150, 3), (125, .ireturn, 1)]
theorem dc_X7_thin : dnL cX7_thin dl_X7_thin = true := by decide +kernel
theorem d_X7_thin_0 : dn cX7_thin 0 (.aload_n 0) 1 1 := dnAt dc_X7_thin 0 rfl rfl
theorem d_X7_thin_1 : dn cX7_thin 1 (.aload_n 0) 1 2 := dnAt dc_X7_thin 1 rfl rfl
theorem d_X7_thin_2 : dn cX7_thin 2 (.iload_n 1) 1 3 := dnAt dc_X7_thin 2 rfl rfl
theorem d_X7_thin_3 : dn cX7_thin 3 (.invokevirtual 153) 3 6 := dnAt dc_X7_thin 3 rfl rfl
theorem d_X7_thin_6 : dn cX7_thin 6 (.ifCond .eq 7) 3 9 := dnAt dc_X7_thin 4 rfl rfl
theorem d_X7_thin_9 : dn cX7_thin 9 (.iconst 0) 1 10 := dnAt dc_X7_thin 5 rfl rfl
theorem d_X7_thin_10 : dn cX7_thin 10 (.goto 4) 3 13 := dnAt dc_X7_thin 6 rfl rfl
theorem d_X7_thin_13 : dn cX7_thin 13 (.iconst 1) 1 14 := dnAt dc_X7_thin 7 rfl rfl
theorem d_X7_thin_14 : dn cX7_thin 14 (.invokevirtual 84) 3 17 := dnAt dc_X7_thin 8 rfl rfl
theorem d_X7_thin_17 : dn cX7_thin 17 (.ifCond .ne 5) 3 20 := dnAt dc_X7_thin 9 rfl rfl
theorem d_X7_thin_20 : dn cX7_thin 20 (.iconst 0) 1 21 := dnAt dc_X7_thin 10 rfl rfl
theorem d_X7_thin_21 : dn cX7_thin 21 (.ireturn) 1 22 := dnAt dc_X7_thin 11 rfl rfl
theorem d_X7_thin_22 : dn cX7_thin 22 (.iconst 0) 1 23 := dnAt dc_X7_thin 12 rfl rfl
theorem d_X7_thin_23 : dn cX7_thin 23 (.istore_n 2) 1 24 := dnAt dc_X7_thin 13 rfl rfl
theorem d_X7_thin_24 : dn cX7_thin 24 (.iconst 0) 1 25 := dnAt dc_X7_thin 14 rfl rfl
theorem d_X7_thin_25 : dn cX7_thin 25 (.istore_n 3) 1 26 := dnAt dc_X7_thin 15 rfl rfl
theorem d_X7_thin_26 : dn cX7_thin 26 (.iload_n 3) 1 27 := dnAt dc_X7_thin 16 rfl rfl
theorem d_X7_thin_27 : dn cX7_thin 27 (.bipush 40) 2 29 := dnAt dc_X7_thin 17 rfl rfl
theorem d_X7_thin_29 : dn cX7_thin 29 (.if_icmp .ge 91) 3 32 := dnAt dc_X7_thin 18 rfl rfl
theorem d_X7_thin_32 : dn cX7_thin 32 (.bipush 8) 2 34 := dnAt dc_X7_thin 19 rfl rfl
theorem d_X7_thin_34 : dn cX7_thin 34 (.istore 4) 2 36 := dnAt dc_X7_thin 20 rfl rfl
theorem d_X7_thin_36 : dn cX7_thin 36 (.iload 4) 2 38 := dnAt dc_X7_thin 21 rfl rfl
theorem d_X7_thin_38 : dn cX7_thin 38 (.ifCond .le 28) 3 41 := dnAt dc_X7_thin 22 rfl rfl
theorem d_X7_thin_41 : dn cX7_thin 41 (.aload_n 0) 1 42 := dnAt dc_X7_thin 23 rfl rfl
theorem d_X7_thin_42 : dn cX7_thin 42 (.getfield 66) 3 45 := dnAt dc_X7_thin 24 rfl rfl
theorem d_X7_thin_45 : dn cX7_thin 45 (.bipush 40) 2 47 := dnAt dc_X7_thin 25 rfl rfl
theorem d_X7_thin_47 : dn cX7_thin 47 (.iload_n 1) 1 48 := dnAt dc_X7_thin 26 rfl rfl
theorem d_X7_thin_48 : dn cX7_thin 48 (.imul) 1 49 := dnAt dc_X7_thin 27 rfl rfl
theorem d_X7_thin_49 : dn cX7_thin 49 (.iload_n 3) 1 50 := dnAt dc_X7_thin 28 rfl rfl
theorem d_X7_thin_50 : dn cX7_thin 50 (.iadd) 1 51 := dnAt dc_X7_thin 29 rfl rfl
theorem d_X7_thin_51 : dn cX7_thin 51 (.iaload) 1 52 := dnAt dc_X7_thin 30 rfl rfl
theorem d_X7_thin_52 : dn cX7_thin 52 (.iload 4) 2 54 := dnAt dc_X7_thin 31 rfl rfl
theorem d_X7_thin_54 : dn cX7_thin 54 (.ishr) 1 55 := dnAt dc_X7_thin 32 rfl rfl
theorem d_X7_thin_55 : dn cX7_thin 55 (.iconst 1) 1 56 := dnAt dc_X7_thin 33 rfl rfl
theorem d_X7_thin_56 : dn cX7_thin 56 (.iand) 1 57 := dnAt dc_X7_thin 34 rfl rfl
theorem d_X7_thin_57 : dn cX7_thin 57 (.ifCond .ne 9) 3 60 := dnAt dc_X7_thin 35 rfl rfl
theorem d_X7_thin_60 : dn cX7_thin 60 (.iinc 4 (-1)) 3 63 := dnAt dc_X7_thin 36 rfl rfl
theorem d_X7_thin_63 : dn cX7_thin 63 (.goto (-27)) 3 66 := dnAt dc_X7_thin 37 rfl rfl
theorem d_X7_thin_66 : dn cX7_thin 66 (.aload_n 0) 1 67 := dnAt dc_X7_thin 38 rfl rfl
theorem d_X7_thin_67 : dn cX7_thin 67 (.getfield 66) 3 70 := dnAt dc_X7_thin 39 rfl rfl
theorem d_X7_thin_70 : dn cX7_thin 70 (.bipush 40) 2 72 := dnAt dc_X7_thin 40 rfl rfl
theorem d_X7_thin_72 : dn cX7_thin 72 (.iload_n 1) 1 73 := dnAt dc_X7_thin 41 rfl rfl
theorem d_X7_thin_73 : dn cX7_thin 73 (.imul) 1 74 := dnAt dc_X7_thin 42 rfl rfl
theorem d_X7_thin_74 : dn cX7_thin 74 (.iload_n 3) 1 75 := dnAt dc_X7_thin 43 rfl rfl
theorem d_X7_thin_75 : dn cX7_thin 75 (.iadd) 1 76 := dnAt dc_X7_thin 44 rfl rfl
theorem d_X7_thin_76 : dn cX7_thin 76 (.iload 4) 2 78 := dnAt dc_X7_thin 45 rfl rfl
theorem d_X7_thin_78 : dn cX7_thin 78 (.ifCond .le 15) 3 81 := dnAt dc_X7_thin 46 rfl rfl
theorem d_X7_thin_81 : dn cX7_thin 81 (.iload_n 3) 1 82 := dnAt dc_X7_thin 47 rfl rfl
theorem d_X7_thin_82 : dn cX7_thin 82 (.iload_n 2) 1 83 := dnAt dc_X7_thin 48 rfl rfl
theorem d_X7_thin_83 : dn cX7_thin 83 (.if_icmp .lt 10) 3 86 := dnAt dc_X7_thin 49 rfl rfl
theorem d_X7_thin_86 : dn cX7_thin 86 (.iconst 1) 1 87 := dnAt dc_X7_thin 50 rfl rfl
theorem d_X7_thin_87 : dn cX7_thin 87 (.iload 4) 2 89 := dnAt dc_X7_thin 51 rfl rfl
theorem d_X7_thin_89 : dn cX7_thin 89 (.ishl) 1 90 := dnAt dc_X7_thin 52 rfl rfl
theorem d_X7_thin_90 : dn cX7_thin 90 (.goto 4) 3 93 := dnAt dc_X7_thin 53 rfl rfl
theorem d_X7_thin_93 : dn cX7_thin 93 (.iconst 0) 1 94 := dnAt dc_X7_thin 54 rfl rfl
theorem d_X7_thin_94 : dn cX7_thin 94 (.iastore) 1 95 := dnAt dc_X7_thin 55 rfl rfl
theorem d_X7_thin_95 : dn cX7_thin 95 (.iload 4) 2 97 := dnAt dc_X7_thin 56 rfl rfl
theorem d_X7_thin_97 : dn cX7_thin 97 (.ifCond .le 15) 3 100 := dnAt dc_X7_thin 57 rfl rfl
theorem d_X7_thin_100 : dn cX7_thin 100 (.iload_n 3) 1 101 := dnAt dc_X7_thin 58 rfl rfl
theorem d_X7_thin_101 : dn cX7_thin 101 (.iload_n 2) 1 102 := dnAt dc_X7_thin 59 rfl rfl
theorem d_X7_thin_102 : dn cX7_thin 102 (.if_icmp .lt 10) 3 105 := dnAt dc_X7_thin 60 rfl rfl
theorem d_X7_thin_105 : dn cX7_thin 105 (.iload_n 3) 1 106 := dnAt dc_X7_thin 61 rfl rfl
theorem d_X7_thin_106 : dn cX7_thin 106 (.iload 4) 2 108 := dnAt dc_X7_thin 62 rfl rfl
theorem d_X7_thin_108 : dn cX7_thin 108 (.iadd) 1 109 := dnAt dc_X7_thin 63 rfl rfl
theorem d_X7_thin_109 : dn cX7_thin 109 (.goto 4) 3 112 := dnAt dc_X7_thin 64 rfl rfl
theorem d_X7_thin_112 : dn cX7_thin 112 (.iload_n 2) 1 113 := dnAt dc_X7_thin 65 rfl rfl
theorem d_X7_thin_113 : dn cX7_thin 113 (.istore_n 2) 1 114 := dnAt dc_X7_thin 66 rfl rfl
theorem d_X7_thin_114 : dn cX7_thin 114 (.iinc 3 1) 3 117 := dnAt dc_X7_thin 67 rfl rfl
theorem d_X7_thin_117 : dn cX7_thin 117 (.goto (-91)) 3 120 := dnAt dc_X7_thin 68 rfl rfl
theorem d_X7_thin_120 : dn cX7_thin 120 (.aload_n 0) 1 121 := dnAt dc_X7_thin 69 rfl rfl
theorem d_X7_thin_121 : dn cX7_thin 121 (.iload_n 1) 1 122 := dnAt dc_X7_thin 70 rfl rfl
theorem d_X7_thin_122 : dn cX7_thin 122 (.invokevirtual 150) 3 125 := dnAt dc_X7_thin 71 rfl rfl
theorem d_X7_thin_125 : dn cX7_thin 125 (.ireturn) 1 126 := dnAt dc_X7_thin 72 rfl rfl
set_option maxHeartbeats 4000000 in
set_option maxRecDepth 100000 in
theorem m_thin (S : mS) (v : Int32) (I : mInv S) : mC yX7_thin cX7_thin 5 (Option.some Jvm.ClassFile.FieldType.int) { frames := 2, cells := 0, slots := 0, locals := 45 } [.int v] S (fun v9 T9 => v9 = (some (.int (nI (rThin S v)))) ∧ T9 = tThin S v) := by
  refine mC.of (by decide) (Nat.le_of_ble_eq_true rfl) ?_
  intro G x q h0 C A TY
  show VM G x q h0 S 0 [(0, .ref (q 0)), (1, .int v)] []
  refine m_aload_n C d_X7_thin_0 0 rfl ?_
  have join_14 : VM G x q h0 S 14 [(0, .ref (q 0)), (1, .int v)] [.int (nI (cWR S v)), .ref (q 0)] := by
    refine m_callV C d_X7_thin_14 ok_RX7_84 (m_holds S (cWR S v) (by unfold cWR; split <;> omega)) rfl (rest := []) rfl rfl (Nat.le_of_ble_eq_true rfl) ⟨⟨by decide, by decide⟩, by decide, by decide⟩ (fun v9 T9 e9 => ?_)
    obtain ⟨rfl, e9⟩ := e9
    refine m_eq e9 ?_
    show VM G x q h0 (uK S 0 (cWR S v)) 17 [(0, .ref (q 0)), (1, .int v)] [.int (bI (decide (cWR S v = 0)))]
    refine mb_if_ne C d_X7_thin_17 (tgt := 22) rfl (fun c_17 => ?_) (fun c_17 => ?_)
    · skip
      have c0 := of_decide_eq_true c_17
      have c1 : mIsR S v = true := by unfold cWR at c0; split at c0 <;> first | assumption | omega
      obtain ⟨e1, e2, e3⟩ := mIsR_of c1
      rw [c0]
      refine m_lve (lv' := [(0, .ref (q 0)), (1, .int (nI (tn v)))]) (by rw [← e1]) ?_
      refine m_iconst C d_X7_thin_22 (v := (nI 0)) rfl ?_
      refine m_istore_n C d_X7_thin_23 (lv' := [(2, .int (nI 0)), (0, .ref (q 0)), (1, .int (nI (tn v)))]) (by decide) rfl ?_
      refine m_iconst C d_X7_thin_24 (v := (nI 0)) rfl ?_
      refine m_istore_n C d_X7_thin_25 (lv' := [(3, .int (nI 0)), (2, .int (nI 0)), (0, .ref (q 0)), (1, .int (nI (tn v)))]) (by decide) rfl ?_
      have loop_26 : ∀ (fuel : Nat) (k : Nat), (k ≤ 40) → (41 - k) < fuel → VM G x q h0 (thS S (tn v) k) 26 [(0, .ref (q 0)), (1, .int (nI (tn v))), (2, .int (nI (thE S (tn v) k))), (3, .int (nI k))] [] := by
        intro fuel
        induction fuel with
        | zero => intro k hk hf9; exact absurd hf9 (Nat.not_lt_zero _)
        | succ fuel ih_26 =>
          intro k hk hf9
          refine m_iload_n C d_X7_thin_26 3 rfl ?_
          refine m_bipush C d_X7_thin_27 (v := (nI 40)) rfl ?_
          refine mn_icmp_ge C d_X7_thin_29 (tgt := 120) rfl (by omega) (by omega) (fun c_29 => ?_) (fun c_29 => ?_)
          · skip
            obtain rfl : k = 40 := by omega
            refine m_aload_n C d_X7_thin_120 0 rfl ?_
            refine m_iload_n C d_X7_thin_121 1 rfl ?_
            refine m_callV C d_X7_thin_122 ok_RX7_150 (m_sizeOf (thS S (tn v) 40) (tn v) (by omega) (fun z hz => thF_lt I hz)) rfl (rest := []) rfl rfl (Nat.le_of_ble_eq_true rfl) ⟨⟨by decide, by decide⟩, by decide, by decide⟩ (fun v9 T9 e9 => ?_)
            obtain ⟨rfl, e9⟩ := e9
            refine m_eq e9 ?_
            show VM G x q h0 (thS S (tn v) 40) 125 [(0, .ref (q 0)), (1, .int (nI (tn v))), (2, .int (nI (thE S (tn v) 40))), (3, .int (nI 40))] [.int (nI (mSize (thS S (tn v) 40) (tn v)))]
            refine m_st (st' := [.int (nI (rThin S v))]) (by rw [rThin, if_pos c1, tThin, if_pos c1]) ?_
            exact m_iret C A TY d_X7_thin_125 rfl (⟨rfl, by rw [tThin, if_pos c1]⟩)
          · skip
            have join_66 : VM G x q h0 (thS S (tn v) k) 66 [(0, .ref (q 0)), (1, .int (nI (tn v))), (2, .int (nI (thE S (tn v) k))), (3, .int (nI k)), (4, .int (nI (hb (mN S 21 (40 * tn v + k)) 8)))] [] := by
              have hb8 := hb_le (mN S 21 (40 * tn v + k)) 8
              have hte := thE_le S (tn v) k
              refine m_aload_n C d_X7_thin_66 0 rfl ?_
              have join_94 : VM G x q h0 (thS S (tn v) k) 94 [(0, .ref (q 0)), (1, .int (nI (tn v))), (2, .int (nI (thE S (tn v) k))), (3, .int (nI k)), (4, .int (nI (hb (mN S 21 (40 * tn v + k)) 8)))] [.int (nI (thV S (tn v) k)), .int (nI (40 * tn v + k)), .ref (q 21)] := by
                refine m_ast C d_X7_thin_94 (k := 21) (v := thV S (tn v) k) (by decide) rfl (by show _ < 320; omega) (by decide) ?_
                have join_113 : VM G x q h0 (uN (thS S (tn v) k) 21 (40 * tn v + k) (thV S (tn v) k)) 113 [(0, .ref (q 0)), (1, .int (nI (tn v))), (3, .int (nI k))] [.int (nI (thE S (tn v) (k + 1)))] := by
                  refine m_istore_n C d_X7_thin_113 (lv' := [(2, .int (nI (thE S (tn v) (k + 1)))), (0, .ref (q 0)), (1, .int (nI (tn v))), (3, .int (nI k))]) (by decide) rfl ?_
                  refine mn_iinc C d_X7_thin_114 (lv' := [(3, .int (nI (k + 1))), (2, .int (nI (thE S (tn v) (k + 1)))), (0, .ref (q 0)), (1, .int (nI (tn v)))]) 3 rfl (nI_inc _ rfl) (by decide) rfl ?_
                  refine m_goto C d_X7_thin_117 (tgt := 26) rfl ?_
                  refine m_eq (S' := thS S (tn v) (k + 1)) (th_step) ?_
                  refine m_lv (lv' := [(0, .ref (q 0)), (1, .int (nI (tn v))), (2, .int (nI (thE S (tn v) (k + 1)))), (3, .int (nI (k + 1)))]) [2, 3, 1, 0] rfl ?_
                  exact ih_26 (k + 1) (by omega) (by omega)
                refine m_iload C d_X7_thin_95 4 rfl ?_
                refine mn_if_le C d_X7_thin_97 (tgt := 112) rfl (by omega) (fun c_97 => ?_) (fun c_97 => ?_)
                · skip
                  refine m_iload_n C d_X7_thin_112 2 rfl ?_
                  refine m_lv (lv' := [(0, .ref (q 0)), (1, .int (nI (tn v))), (3, .int (nI k))]) [0, 1, 3] rfl ?_
                  refine m_st (st' := [.int (nI (thE S (tn v) (k + 1)))]) (by rw [thE, if_neg (by omega)]) ?_
                  exact join_113  
                · skip
                  refine m_iload_n C d_X7_thin_100 3 rfl ?_
                  refine m_iload_n C d_X7_thin_101 2 rfl ?_
                  refine mn_icmp_lt C d_X7_thin_102 (tgt := 112) rfl (by omega) (by omega) (fun c_102 => ?_) (fun c_102 => ?_)
                  · skip
                    refine m_iload_n C d_X7_thin_112 2 rfl ?_
                    refine m_lv (lv' := [(0, .ref (q 0)), (1, .int (nI (tn v))), (3, .int (nI k))]) [0, 1, 3] rfl ?_
                    refine m_st (st' := [.int (nI (thE S (tn v) (k + 1)))]) (by rw [thE, if_neg (by omega)]) ?_
                    exact join_113  
                  · skip
                    refine m_iload_n C d_X7_thin_105 3 rfl ?_
                    refine m_iload C d_X7_thin_106 4 rfl ?_
                    refine mn_iadd C d_X7_thin_108 ?_
                    refine m_goto C d_X7_thin_109 (tgt := 113) rfl ?_
                    refine m_lv (lv' := [(0, .ref (q 0)), (1, .int (nI (tn v))), (3, .int (nI k))]) [0, 1, 3] rfl ?_
                    refine m_st (st' := [.int (nI (thE S (tn v) (k + 1)))]) (by rw [thE, if_pos (by omega)]) ?_
                    exact join_113  
              refine m_get C d_X7_thin_67 fd_RX7_66 (v := .ref (q 21)) rfl ?_
              refine m_bipush C d_X7_thin_70 (v := (nI 40)) rfl ?_
              refine m_iload_n C d_X7_thin_72 1 rfl ?_
              refine mn_imul C d_X7_thin_73 ?_
              refine m_iload_n C d_X7_thin_74 3 rfl ?_
              refine mn_iadd C d_X7_thin_75 ?_
              refine m_iload C d_X7_thin_76 4 rfl ?_
              refine mn_if_le C d_X7_thin_78 (tgt := 93) rfl (by omega) (fun c_78 => ?_) (fun c_78 => ?_)
              · skip
                refine m_iconst C d_X7_thin_93 (v := (nI 0)) rfl ?_
                refine m_st (st' := [.int (nI (thV S (tn v) k)), .int (nI (40 * tn v + k)), .ref (q 21)]) (by rw [thV, if_neg (by omega)]) ?_
                exact join_94  
              · skip
                refine m_iload_n C d_X7_thin_81 3 rfl ?_
                refine m_iload_n C d_X7_thin_82 2 rfl ?_
                refine mn_icmp_lt C d_X7_thin_83 (tgt := 93) rfl (by omega) (by omega) (fun c_83 => ?_) (fun c_83 => ?_)
                · skip
                  refine m_iconst C d_X7_thin_93 (v := (nI 0)) rfl ?_
                  refine m_st (st' := [.int (nI (thV S (tn v) k)), .int (nI (40 * tn v + k)), .ref (q 21)]) (by rw [thV, if_neg (by omega)]) ?_
                  exact join_94  
                · skip
                  refine m_iconst C d_X7_thin_86 (v := (nI 1)) rfl ?_
                  refine m_iload C d_X7_thin_87 4 rfl ?_
                  refine mn_ishl C d_X7_thin_89 (by omega) ?_
                  refine m_goto C d_X7_thin_90 (tgt := 94) rfl ?_
                  refine m_st (st' := [.int (nI (thV S (tn v) k)), .int (nI (40 * tn v + k)), .ref (q 21)]) (by rw [thV, if_pos (by omega), Nat.one_mul]) ?_
                  exact join_94  
            refine m_bipush C d_X7_thin_32 (v := (nI 8)) rfl ?_
            refine m_istore C d_X7_thin_34 (lv' := [(4, .int (nI 8)), (0, .ref (q 0)), (1, .int (nI (tn v))), (2, .int (nI (thE S (tn v) k))), (3, .int (nI k))]) (by decide) rfl ?_
            have loop_36 : ∀ (fuel : Nat) (j : Nat), (hb (mN S 21 (40 * tn v + k)) 8 = hb (mN S 21 (40 * tn v + k)) j) → (j ≤ 8) → (j) < fuel → VM G x q h0 (thS S (tn v) k) 36 [(0, .ref (q 0)), (1, .int (nI (tn v))), (2, .int (nI (thE S (tn v) k))), (3, .int (nI k)), (4, .int (nI j))] [] := by
              intro fuel
              induction fuel with
              | zero => intro j hj hj8 hf9; exact absurd hf9 (Nat.not_lt_zero _)
              | succ fuel ih_36 =>
                intro j hj hj8 hf9
                refine m_iload C d_X7_thin_36 4 rfl ?_
                refine mn_if_le C d_X7_thin_38 (tgt := 66) rfl (by omega) (fun c_38 => ?_) (fun c_38 => ?_)
                · skip
                  refine m_lve (lv' := [(0, .ref (q 0)), (1, .int (nI (tn v))), (2, .int (nI (thE S (tn v) k))), (3, .int (nI k)), (4, .int (nI (hb (mN S 21 (40 * tn v + k)) 8)))]) (by rw [hj, c_38, hb]) ?_
                  exact join_66  
                · skip
                  refine m_aload_n C d_X7_thin_41 0 rfl ?_
                  refine m_get C d_X7_thin_42 fd_RX7_66 (v := .ref (q 21)) rfl ?_
                  refine m_bipush C d_X7_thin_45 (v := (nI 40)) rfl ?_
                  refine m_iload_n C d_X7_thin_47 1 rfl ?_
                  refine mn_imul C d_X7_thin_48 ?_
                  refine m_iload_n C d_X7_thin_49 3 rfl ?_
                  refine mn_iadd C d_X7_thin_50 ?_
                  refine m_ald C d_X7_thin_51 (k := 21) (by decide) rfl (by show _ < 320; omega) (by decide) ?_
                  refine m_st (st' := [.int (nI (mN S 21 (40 * tn v + k)))]) (by rw [th_r]) ?_
                  refine m_iload C d_X7_thin_52 4 rfl ?_
                  refine mn_ishr C d_X7_thin_54 (by have := len_lt I (z := 40 * tn v + k) (by omega); omega) (by omega) ?_
                  refine m_iconst C d_X7_thin_55 (v := (nI 1)) rfl ?_
                  refine mn_iand C d_X7_thin_56 ?_
                  refine m_st (st' := [.int (nI (mN S 21 (40 * tn v + k) / 2 ^ j % 2))]) (by rw [and1]) ?_
                  refine mn_if_ne C d_X7_thin_57 (tgt := 66) rfl (by omega) (fun c_57 => ?_) (fun c_57 => ?_)
                  · skip
                    refine m_lve (lv' := [(0, .ref (q 0)), (1, .int (nI (tn v))), (2, .int (nI (thE S (tn v) k))), (3, .int (nI k)), (4, .int (nI (hb (mN S 21 (40 * tn v + k)) 8)))]) (by rw [hj, show j = (j - 1) + 1 by omega, hb, if_pos (by rw [show j - 1 + 1 = j by omega]; omega)]) ?_
                    exact join_66  
                  · skip
                    refine mn_iinc C d_X7_thin_60 (lv' := [(4, .int (nI (j - 1))), (0, .ref (q 0)), (1, .int (nI (tn v))), (2, .int (nI (thE S (tn v) k))), (3, .int (nI k))]) 4 rfl (nI_dec (k := 1) (by omega) (by decide)) (by decide) rfl ?_
                    refine m_goto C d_X7_thin_63 (tgt := 36) rfl ?_
                    refine m_lv (lv' := [(0, .ref (q 0)), (1, .int (nI (tn v))), (2, .int (nI (thE S (tn v) k))), (3, .int (nI k)), (4, .int (nI (j - 1)))]) [1, 2, 3, 4, 0] rfl ?_
                    exact ih_36 (j - 1) (by rw [hj, show j = (j - 1) + 1 by omega, hb, if_neg (by rw [show j - 1 + 1 = j by omega]; omega)]; rfl) (by omega) (by omega)
            refine m_lv (lv' := [(0, .ref (q 0)), (1, .int (nI (tn v))), (2, .int (nI (thE S (tn v) k))), (3, .int (nI k)), (4, .int (nI 8))]) [1, 2, 3, 4, 0] rfl ?_
            exact loop_36 _ 8 (rfl) (by omega) (Nat.lt_succ_self _)
      refine m_eq (S' := thS S (tn v) 0) (th_init) ?_
      refine m_lv (lv' := [(0, .ref (q 0)), (1, .int (nI (tn v))), (2, .int (nI 0)), (3, .int (nI 0))]) [2, 3, 1, 0] rfl ?_
      refine m_lve (lv' := [(0, .ref (q 0)), (1, .int (nI (tn v))), (2, .int (nI (thE S (tn v) 0))), (3, .int (nI 0))]) (rfl) ?_
      exact loop_26 _ 0 (by omega) (Nat.lt_succ_self _)
    · skip
      have c0 := of_decide_eq_false c_17
      have c1 : ¬ mIsR S v = true := fun z => c0 (by rw [cWR, if_pos z])
      rw [cWR, if_neg c1]
      refine m_iconst C d_X7_thin_20 (v := (nI 0)) rfl ?_
      refine m_st (st' := [.int (nI (rThin S v))]) (by rw [rThin, if_neg c1]) ?_
      exact m_iret C A TY d_X7_thin_21 rfl (⟨rfl, by rw [tThin, if_neg c1]⟩)
  refine m_aload_n C d_X7_thin_1 0 rfl ?_
  refine m_iload_n C d_X7_thin_2 1 rfl ?_
  refine m_callV C d_X7_thin_3 ok_RX7_153 (m_isResult S v) rfl (rest := [.ref (q 0)]) rfl rfl (Nat.le_of_ble_eq_true rfl) ⟨⟨by decide, by decide⟩, by decide, by decide⟩ (fun v9 T9 e9 => ?_)
  obtain ⟨rfl, e9⟩ := e9
  refine m_eq e9 ?_
  show VM G x q h0 S 6 [(0, .ref (q 0)), (1, .int v)] [.int (bI (mIsR S v)), .ref (q 0)]
  refine mb_if_eq C d_X7_thin_6 (tgt := 13) rfl (fun c_6 => ?_) (fun c_6 => ?_)
  · skip
    refine m_iconst C d_X7_thin_13 (v := (nI 1)) rfl ?_
    refine m_st (st' := [.int (nI (cWR S v)), .ref (q 0)]) (by first | rw [cWR, if_pos c_6] | rw [cWR, if_neg (by rw [c_6]; decide)]) ?_
    exact join_14  
  · skip
    refine m_iconst C d_X7_thin_9 (v := (nI 0)) rfl ?_
    refine m_goto C d_X7_thin_10 (tgt := 14) rfl ?_
    refine m_st (st' := [.int (nI (cWR S v)), .ref (q 0)]) (by first | rw [cWR, if_pos c_6] | rw [cWR, if_neg (by rw [c_6]; decide)]) ?_
    exact join_14  
