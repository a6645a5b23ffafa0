theorem tw_680 : (Jvm.Cond.fieldLink "CorpuslineModel" (60 : Nat) "CorpuslineModel" "labels" "[I") ∈ TB := tb_of 680 (by decide +kernel) rfl
theorem fd_RX7_60 : fdOk RX7 60 6 19 := ⟨_, _, _, rfl, by decide, cw_6, tw_680, rfl⟩
/-- what the walks through patterns need -/
def mCore (S : mS) : Prop :=
  (∀ s, s < 2 → mN S 1 s ≤ 40) ∧ (∀ i, i < 240 → mN S 2 i < 100) ∧ (∀ i, i < 80 → mN S 3 i ≤ i % 40) ∧ (∀ i, i < 80 → mN S 4 i ≤ i % 40) ∧
  (∀ i, i < 40 → mN S 7 i < 1099511627776) ∧ (∀ p, p < 21 → mN S 8 p ≤ 8) ∧ (∀ i, i < 1008 → mN S 12 i < 1125899906842624) ∧ (∀ i, i < 168 → mN S 13 i < 8) ∧ (∀ i, i < 168 → mN S 14 i < 512) ∧ True
theorem mInv.core {S : mS} (I : mInv S) : mCore S := ⟨I.1, I.2.1, I.2.2.1, I.2.2.2.1, I.2.2.2.2.1, I.2.2.2.2.2.1, I.2.2.2.2.2.2.1, I.2.2.2.2.2.2.2.1, I.2.2.2.2.2.2.2.2.1, trivial⟩
def allTo (f : Nat → Bool) : Nat → Bool
  | 0 => true
  | k + 1 => allTo f k && f k
/-- a label, as the reference keeps it: none is -1 -/
def labI (x : Nat) : Int32 := nI x - nI 1
theorem labI_m1 {x : Nat} (hx : x ≤ 1000) : labI x = -1 ↔ x = 0 := by
  constructor
  · intro h
    rcases Nat.eq_zero_or_pos x with q | q
    · exact q
    · rw [labI, pk_sub q] at h
      have h1 : (nI (x - 1)).toInt = (-1 : Int32).toInt := by rw [h]
      rw [nI_toInt (by omega)] at h1
      have h2 : (-1 : Int32).toInt = -1 := rfl
      omega
  · intro h; subst h; decide
theorem labI_p {x : Nat} (hx : 0 < x) : labI x = nI (x - 1) := pk_sub hx
theorem labI_0 : labI 0 = -1 := by decide
theorem lcmp_0 {a b : Nat} (ha : a < 9223372036854775808) (hb : b < 9223372036854775808) : lg_cmp (lN a) (lN b) = 0 ↔ a = b := by
  rw [lN_cmp ha hb]
  by_cases h : a = b
  · rw [if_pos h]; exact ⟨fun _ => h, fun _ => rfl⟩
  · rw [if_neg h]
    constructor
    · intro q
      split at q
      · exact absurd q (by decide)
      · exact absurd q (by decide)
    · intro q; exact absurd q h
def tA (S : mS) (t s p k : Nat) : Bool := (decide (mI S 11 (3 * t + k) = -1) || decide (mI S 11 (3 * t + k) = nI (mVal S s p k))) && decide (mN S 12 (6 * t + 2 * k + mVal S s p k / 50) / 2 ^ (mVal S s p k % 50) % 2 = 0)
def tC (S : mS) (t s p : Nat) (lab : Nat → Nat) (k z : Nat) : Bool := !decide (mN S 14 t / 2 ^ (3 * z + k) % 2 = 1) || (!decide (lab z = 0) && decide (mVal S s (lab z - 1) k = mVal S s p k))
def tF (S : mS) (t s p : Nat) (lab : Nat → Nat) (k : Nat) : Bool := tA S t s p k && allTo (tC S t s p lab k) 3
def tMat (S : mS) (t s p : Nat) (lab : Nat → Nat) : Bool := allTo (tF S t s p lab) 3
theorem sI_sI {S : mS} {k : Nat} {f g : Nat → Int32} : sI (sI S k f) k g = sI S k g := by
  apply mS_ext
  · intro j; rfl
  · intro j z; rfl
  · intro j z; rfl
  · intro j z
    simp only [mI_sI]
    split <;> rfl
/-- a way through so many tests: the place then, and the labels; none if it can't be gone -/
def goS (M : Nat → Nat → (Nat → Nat) → Bool) (st : Nat → Nat) (way fr e : Nat) : Nat → Option (Nat × (Nat → Nat))
  | 0 => some (fr, fun _ => 0)
  | k + 1 => match goS M st way fr e k with
    | none => none
    | some (pl, lab) => if way / 2 ^ k % 2 = 1 then (if pl = e ∨ M k pl lab = false then none else some (pl + 1, fun z => if st k / 2 ^ z % 2 = 1 then pl + 1 else lab z)) else some (pl, lab)
def goA (S : mS) (pat way s fr e : Nat) (k : Nat) : Option (Nat × (Nat → Nat)) := goS (fun k pl lab => tMat S (8 * pat + k) s pl lab) (fun k => mN S 13 (8 * pat + k)) way fr e k
def goN (S : mS) (pat way s fr e : Nat) : Nat := match goA S pat way s fr e (mN S 8 pat) with
  | none => 0
  | some (pl, _) => pl - fr
def goI (S : mS) (pat way s fr e : Nat) : Int32 := match goA S pat way s fr e (mN S 8 pat) with
  | none => -1
  | some (pl, _) => nI (pl - fr)
theorem goS_mono {M : Nat → Nat → (Nat → Nat) → Bool} {st : Nat → Nat} {way fr e : Nat} {k : Nat} (h : goS M st way fr e k = none) : ∀ j, goS M st way fr e (k + j) = none
  | 0 => h
  | j + 1 => by
    show goS M st way fr e (k + j + 1) = none
    rw [goS, goS_mono h j]
theorem goS_fail {M : Nat → Nat → (Nat → Nat) → Bool} {st : Nat → Nat} {way fr e : Nat} {k m : Nat} (h : goS M st way fr e (k + 1) = none) (hk : k < m) : goS M st way fr e m = none := by
  have := goS_mono h (m - (k + 1))
  rwa [show k + 1 + (m - (k + 1)) = m by omega] at this
/-- the place behind a bound -/
def inB (S : mS) (s p bd e : Nat) : Bool := decide (bd = 0) || (if bd = 1 then decide (mN S 3 (40 * s + e) = mN S 3 (40 * s + p)) else decide (mN S 4 (40 * s + e) = mN S 4 (40 * s + p)))
def eGo (S : mS) (s p bd : Nat) : Nat → Nat → Nat
  | 0, e => e
  | f + 1, e => if e < mN S 1 s ∧ inB S s p bd e = true then eGo S s p bd f (e + 1) else e
def eOf (S : mS) (s p bd : Nat) : Nat := eGo S s p bd 41 (p + 1)
theorem eGo_le {S : mS} {s p bd : Nat} : ∀ (f e : Nat), e ≤ mN S 1 s → eGo S s p bd f e ≤ mN S 1 s
  | 0, _, h => h
  | f + 1, e, h => by
    rw [eGo]
    split
    · exact eGo_le f (e + 1) (by omega)
    · exact h
theorem eGo_ge {S : mS} {s p bd : Nat} : ∀ (f e : Nat), e ≤ eGo S s p bd f e
  | 0, _ => Nat.le_refl _
  | f + 1, e => by
    rw [eGo]
    split
    · exact Nat.le_trans (Nat.le_succ e) (eGo_ge f (e + 1))
    · exact Nat.le_refl _
def loS (W : Nat → Bool) (g : Nat → Nat) (L : Bool) : Nat → Nat
  | 0 => 0
  | w + 1 => if w ≠ 0 ∧ W w = true ∧ 0 < g w ∧ (loS W g L w = 0 ∨ (if L = true then loS W g L w < g w else g w < loS W g L w)) then g w else loS W g L w
def mLoW (S : mS) (pat s p bd : Nat) (L : Bool) (w : Nat) : Nat := loS (fun w => mB S 10 (256 * pat + w)) (fun w => goN S pat w s p (eOf S s p bd)) L w
def mLong (S : mS) (pat s p bd : Nat) (L : Bool) : Nat := mLoW S pat s p bd L (2 ^ mN S 8 pat)

def dl_X7_matches : List (Nat × Instr × Nat) := [(0, .iconst 1, 1), (1, .istore 4, 2), (3, .iconst 0, 1), (4, .istore 5, 2), (6, .iload 5, 2), (8, .iconst 3, 1), (9, .if_icmp .ge 184, 3), (12, .aload_n 0, 1), (13, .iload_n 2, 1), (14, .iload_n 3, 1), (15, .iload 5, 2), (17, .invokevirtual 94, 3), (20, .istore 6, 2), (22, .iload 4, 2), (24, .ifCond .eq 71, 3), (27, .aload_n 0, 1), (28, .getfield 42, 3), (31, .iconst 3, 1), (32, .iload_n 1, 1), (33, .imul, 1), (34, .iload 5, 2), (36, .iadd, 1), (37, .iaload, 1), (38, .iconst (-1), 1), (39, .if_icmp .eq 19, 3), (42, .aload_n 0, 1), (43, .getfield 42, 3), (46, .iconst 3, 1), (47, .iload_n 1, 1), (48, .imul, 1), (49, .iload 5, 2), (51, .iadd, 1), (52, .iaload, 1), (53, .iload 6, 2), (55, .if_icmp .ne 40, 3), (58, .aload_n 0, 1), (59, .getfield 45, 3), (62, .bipush 6, 2), (64, .iload_n 1, 1), (65, .imul, 1), (66, .iconst 2, 1), (67, .iload 5, 2), (69, .imul, 1), (70, .iadd, 1), (71, .iload 6, 2), (73, .bipush 50, 2), (75, .idiv, 1), (76, .iadd, 1), (77, .laload, 1), (78, .iload 6, 2), (80, .bipush 50, 2), (82, .irem, 1), (83, .lshr, 1), (84, .lconst 1, 1), (85, .land, 1), (86, .lconst 0, 1), (87, .lcmp, 1), (88, .ifCond .ne 7, 3), (91, .iconst 1, 1), (92, .goto 4, 3), (95, .iconst 0, 1), (96, .istore 4, 2), (98, .iconst 0, 1), (99, .istore 7, 2), (101, .iload 7, 2), (103, .iconst 3, 1), (104, .if_icmp .ge 83, 3), (107, .aload_n 0, 1), (108, .getfield 51, 3), (111, .iload_n 1, 1), (112, .iaload, 1), (113, .iconst 3, 1), (114, .iload 7, 2), (116, .imul, 1), (117, .iload 5, 2), (119, .iadd, 1), (120, .ishr, 1), (121, .iconst 1, 1), (122, .iand, 1), (123, .iconst 1, 1), (124, .if_icmp .ne 7, 3), (127, .iconst 1, 1), (128, .goto 4, 3), (131, .iconst 0, 1), (132, .istore 8, 2), (134, .iload 4, 2), (136, .ifCond .eq 42, 3), (139, .iload 8, 2), (141, .ifCond .eq 33, 3), (144, .aload_n 0, 1), (145, .getfield 60, 3), (148, .iload 7, 2), (150, .iaload, 1), (151, .iconst (-1), 1), (152, .if_icmp .eq 26, 3), (155, .aload_n 0, 1), (156, .iload_n 2, 1), (157, .aload_n 0, 1), (158, .getfield 60, 3), (161, .iload 7, 2), (163, .iaload, 1), (164, .iload 5, 2), (166, .invokevirtual 94, 3), (169, .iload 6, 2), (171, .if_icmp .ne 7, 3), (174, .iconst 1, 1), (175, .goto 4, 3), (178, .iconst 0, 1), (179, .istore 4, 2), (181, .iinc 7 1, 3), (184, .goto (-83), 3), (187, .iinc 5 1, 3), (190, .goto (-184), 3), (193, .iload 4, 2), (195, .ireturn, 1)]
theorem dc_X7_matches : dnL cX7_matches dl_X7_matches = true := by decide +kernel
theorem d_X7_matches_0 : dn cX7_matches 0 (.iconst 1) 1 1 := dnAt dc_X7_matches 0 rfl rfl
theorem d_X7_matches_1 : dn cX7_matches 1 (.istore 4) 2 3 := dnAt dc_X7_matches 1 rfl rfl
theorem d_X7_matches_3 : dn cX7_matches 3 (.iconst 0) 1 4 := dnAt dc_X7_matches 2 rfl rfl
theorem d_X7_matches_4 : dn cX7_matches 4 (.istore 5) 2 6 := dnAt dc_X7_matches 3 rfl rfl
theorem d_X7_matches_6 : dn cX7_matches 6 (.iload 5) 2 8 := dnAt dc_X7_matches 4 rfl rfl
theorem d_X7_matches_8 : dn cX7_matches 8 (.iconst 3) 1 9 := dnAt dc_X7_matches 5 rfl rfl
theorem d_X7_matches_9 : dn cX7_matches 9 (.if_icmp .ge 184) 3 12 := dnAt dc_X7_matches 6 rfl rfl
theorem d_X7_matches_12 : dn cX7_matches 12 (.aload_n 0) 1 13 := dnAt dc_X7_matches 7 rfl rfl
theorem d_X7_matches_13 : dn cX7_matches 13 (.iload_n 2) 1 14 := dnAt dc_X7_matches 8 rfl rfl
theorem d_X7_matches_14 : dn cX7_matches 14 (.iload_n 3) 1 15 := dnAt dc_X7_matches 9 rfl rfl
theorem d_X7_matches_15 : dn cX7_matches 15 (.iload 5) 2 17 := dnAt dc_X7_matches 10 rfl rfl
theorem d_X7_matches_17 : dn cX7_matches 17 (.invokevirtual 94) 3 20 := dnAt dc_X7_matches 11 rfl rfl
theorem d_X7_matches_20 : dn cX7_matches 20 (.istore 6) 2 22 := dnAt dc_X7_matches 12 rfl rfl
theorem d_X7_matches_22 : dn cX7_matches 22 (.iload 4) 2 24 := dnAt dc_X7_matches 13 rfl rfl
theorem d_X7_matches_24 : dn cX7_matches 24 (.ifCond .eq 71) 3 27 := dnAt dc_X7_matches 14 rfl rfl
theorem d_X7_matches_27 : dn cX7_matches 27 (.aload_n 0) 1 28 := dnAt dc_X7_matches 15 rfl rfl
theorem d_X7_matches_28 : dn cX7_matches 28 (.getfield 42) 3 31 := dnAt dc_X7_matches 16 rfl rfl
theorem d_X7_matches_31 : dn cX7_matches 31 (.iconst 3) 1 32 := dnAt dc_X7_matches 17 rfl rfl
theorem d_X7_matches_32 : dn cX7_matches 32 (.iload_n 1) 1 33 := dnAt dc_X7_matches 18 rfl rfl
theorem d_X7_matches_33 : dn cX7_matches 33 (.imul) 1 34 := dnAt dc_X7_matches 19 rfl rfl
theorem d_X7_matches_34 : dn cX7_matches 34 (.iload 5) 2 36 := dnAt dc_X7_matches 20 rfl rfl
theorem d_X7_matches_36 : dn cX7_matches 36 (.iadd) 1 37 := dnAt dc_X7_matches 21 rfl rfl
theorem d_X7_matches_37 : dn cX7_matches 37 (.iaload) 1 38 := dnAt dc_X7_matches 22 rfl rfl
theorem d_X7_matches_38 : dn cX7_matches 38 (.iconst (-1)) 1 39 := dnAt dc_X7_matches 23 rfl rfl
theorem d_X7_matches_39 : dn cX7_matches 39 (.if_icmp .eq 19) 3 42 := dnAt dc_X7_matches 24 rfl rfl
theorem d_X7_matches_42 : dn cX7_matches 42 (.aload_n 0) 1 43 := dnAt dc_X7_matches 25 rfl rfl
theorem d_X7_matches_43 : dn cX7_matches 43 (.getfield 42) 3 46 := dnAt dc_X7_matches 26 rfl rfl
theorem d_X7_matches_46 : dn cX7_matches 46 (.iconst 3) 1 47 := dnAt dc_X7_matches 27 rfl rfl
theorem d_X7_matches_47 : dn cX7_matches 47 (.iload_n 1) 1 48 := dnAt dc_X7_matches 28 rfl rfl
theorem d_X7_matches_48 : dn cX7_matches 48 (.imul) 1 49 := dnAt dc_X7_matches 29 rfl rfl
theorem d_X7_matches_49 : dn cX7_matches 49 (.iload 5) 2 51 := dnAt dc_X7_matches 30 rfl rfl
theorem d_X7_matches_51 : dn cX7_matches 51 (.iadd) 1 52 := dnAt dc_X7_matches 31 rfl rfl
theorem d_X7_matches_52 : dn cX7_matches 52 (.iaload) 1 53 := dnAt dc_X7_matches 32 rfl rfl
theorem d_X7_matches_53 : dn cX7_matches 53 (.iload 6) 2 55 := dnAt dc_X7_matches 33 rfl rfl
theorem d_X7_matches_55 : dn cX7_matches 55 (.if_icmp .ne 40) 3 58 := dnAt dc_X7_matches 34 rfl rfl
theorem d_X7_matches_58 : dn cX7_matches 58 (.aload_n 0) 1 59 := dnAt dc_X7_matches 35 rfl rfl
theorem d_X7_matches_59 : dn cX7_matches 59 (.getfield 45) 3 62 := dnAt dc_X7_matches 36 rfl rfl
theorem d_X7_matches_62 : dn cX7_matches 62 (.bipush 6) 2 64 := dnAt dc_X7_matches 37 rfl rfl
theorem d_X7_matches_64 : dn cX7_matches 64 (.iload_n 1) 1 65 := dnAt dc_X7_matches 38 rfl rfl
theorem d_X7_matches_65 : dn cX7_matches 65 (.imul) 1 66 := dnAt dc_X7_matches 39 rfl rfl
theorem d_X7_matches_66 : dn cX7_matches 66 (.iconst 2) 1 67 := dnAt dc_X7_matches 40 rfl rfl
theorem d_X7_matches_67 : dn cX7_matches 67 (.iload 5) 2 69 := dnAt dc_X7_matches 41 rfl rfl
theorem d_X7_matches_69 : dn cX7_matches 69 (.imul) 1 70 := dnAt dc_X7_matches 42 rfl rfl
theorem d_X7_matches_70 : dn cX7_matches 70 (.iadd) 1 71 := dnAt dc_X7_matches 43 rfl rfl
theorem d_X7_matches_71 : dn cX7_matches 71 (.iload 6) 2 73 := dnAt dc_X7_matches 44 rfl rfl
theorem d_X7_matches_73 : dn cX7_matches 73 (.bipush 50) 2 75 := dnAt dc_X7_matches 45 rfl rfl
theorem d_X7_matches_75 : dn cX7_matches 75 (.idiv) 1 76 := dnAt dc_X7_matches 46 rfl rfl
theorem d_X7_matches_76 : dn cX7_matches 76 (.iadd) 1 77 := dnAt dc_X7_matches 47 rfl rfl
theorem d_X7_matches_77 : dn cX7_matches 77 (.laload) 1 78 := dnAt dc_X7_matches 48 rfl rfl
theorem d_X7_matches_78 : dn cX7_matches 78 (.iload 6) 2 80 := dnAt dc_X7_matches 49 rfl rfl
theorem d_X7_matches_80 : dn cX7_matches 80 (.bipush 50) 2 82 := dnAt dc_X7_matches 50 rfl rfl
theorem d_X7_matches_82 : dn cX7_matches 82 (.irem) 1 83 := dnAt dc_X7_matches 51 rfl rfl
theorem d_X7_matches_83 : dn cX7_matches 83 (.lshr) 1 84 := dnAt dc_X7_matches 52 rfl rfl
theorem d_X7_matches_84 : dn cX7_matches 84 (.lconst 1) 1 85 := dnAt dc_X7_matches 53 rfl rfl
theorem d_X7_matches_85 : dn cX7_matches 85 (.land) 1 86 := dnAt dc_X7_matches 54 rfl rfl
theorem d_X7_matches_86 : dn cX7_matches 86 (.lconst 0) 1 87 := dnAt dc_X7_matches 55 rfl rfl
theorem d_X7_matches_87 : dn cX7_matches 87 (.lcmp) 1 88 := dnAt dc_X7_matches 56 rfl rfl
theorem d_X7_matches_88 : dn cX7_matches 88 (.ifCond .ne 7) 3 91 := dnAt dc_X7_matches 57 rfl rfl
theorem d_X7_matches_91 : dn cX7_matches 91 (.iconst 1) 1 92 := dnAt dc_X7_matches 58 rfl rfl
theorem d_X7_matches_92 : dn cX7_matches 92 (.goto 4) 3 95 := dnAt dc_X7_matches 59 rfl rfl
theorem d_X7_matches_95 : dn cX7_matches 95 (.iconst 0) 1 96 := dnAt dc_X7_matches 60 rfl rfl
theorem d_X7_matches_96 : dn cX7_matches 96 (.istore 4) 2 98 := dnAt dc_X7_matches 61 rfl rfl
theorem d_X7_matches_98 : dn cX7_matches 98 (.iconst 0) 1 99 := dnAt dc_X7_matches 62 rfl rfl
theorem d_X7_matches_99 : dn cX7_matches 99 (.istore 7) 2 101 := dnAt dc_X7_matches 63 rfl rfl
theorem d_X7_matches_101 : dn cX7_matches 101 (.iload 7) 2 103 := dnAt dc_X7_matches 64 rfl rfl
theorem d_X7_matches_103 : dn cX7_matches 103 (.iconst 3) 1 104 := dnAt dc_X7_matches 65 rfl rfl
theorem d_X7_matches_104 : dn cX7_matches 104 (.if_icmp .ge 83) 3 107 := dnAt dc_X7_matches 66 rfl rfl
theorem d_X7_matches_107 : dn cX7_matches 107 (.aload_n 0) 1 108 := dnAt dc_X7_matches 67 rfl rfl
theorem d_X7_matches_108 : dn cX7_matches 108 (.getfield 51) 3 111 := dnAt dc_X7_matches 68 rfl rfl
theorem d_X7_matches_111 : dn cX7_matches 111 (.iload_n 1) 1 112 := dnAt dc_X7_matches 69 rfl rfl
theorem d_X7_matches_112 : dn cX7_matches 112 (.iaload) 1 113 := dnAt dc_X7_matches 70 rfl rfl
theorem d_X7_matches_113 : dn cX7_matches 113 (.iconst 3) 1 114 := dnAt dc_X7_matches 71 rfl rfl
theorem d_X7_matches_114 : dn cX7_matches 114 (.iload 7) 2 116 := dnAt dc_X7_matches 72 rfl rfl
theorem d_X7_matches_116 : dn cX7_matches 116 (.imul) 1 117 := dnAt dc_X7_matches 73 rfl rfl
theorem d_X7_matches_117 : dn cX7_matches 117 (.iload 5) 2 119 := dnAt dc_X7_matches 74 rfl rfl
theorem d_X7_matches_119 : dn cX7_matches 119 (.iadd) 1 120 := dnAt dc_X7_matches 75 rfl rfl
theorem d_X7_matches_120 : dn cX7_matches 120 (.ishr) 1 121 := dnAt dc_X7_matches 76 rfl rfl
theorem d_X7_matches_121 : dn cX7_matches 121 (.iconst 1) 1 122 := dnAt dc_X7_matches 77 rfl rfl
theorem d_X7_matches_122 : dn cX7_matches 122 (.iand) 1 123 := dnAt dc_X7_matches 78 rfl rfl
theorem d_X7_matches_123 : dn cX7_matches 123 (.iconst 1) 1 124 := dnAt dc_X7_matches 79 rfl rfl
theorem d_X7_matches_124 : dn cX7_matches 124 (.if_icmp .ne 7) 3 127 := dnAt dc_X7_matches 80 rfl rfl
theorem d_X7_matches_127 : dn cX7_matches 127 (.iconst 1) 1 128 := dnAt dc_X7_matches 81 rfl rfl
theorem d_X7_matches_128 : dn cX7_matches 128 (.goto 4) 3 131 := dnAt dc_X7_matches 82 rfl rfl
theorem d_X7_matches_131 : dn cX7_matches 131 (.iconst 0) 1 132 := dnAt dc_X7_matches 83 rfl rfl
theorem d_X7_matches_132 : dn cX7_matches 132 (.istore 8) 2 134 := dnAt dc_X7_matches 84 rfl rfl
theorem d_X7_matches_134 : dn cX7_matches 134 (.iload 4) 2 136 := dnAt dc_X7_matches 85 rfl rfl
theorem d_X7_matches_136 : dn cX7_matches 136 (.ifCond .eq 42) 3 139 := dnAt dc_X7_matches 86 rfl rfl
theorem d_X7_matches_139 : dn cX7_matches 139 (.iload 8) 2 141 := dnAt dc_X7_matches 87 rfl rfl
theorem d_X7_matches_141 : dn cX7_matches 141 (.ifCond .eq 33) 3 144 := dnAt dc_X7_matches 88 rfl rfl
theorem d_X7_matches_144 : dn cX7_matches 144 (.aload_n 0) 1 145 := dnAt dc_X7_matches 89 rfl rfl
theorem d_X7_matches_145 : dn cX7_matches 145 (.getfield 60) 3 148 := dnAt dc_X7_matches 90 rfl rfl
theorem d_X7_matches_148 : dn cX7_matches 148 (.iload 7) 2 150 := dnAt dc_X7_matches 91 rfl rfl
theorem d_X7_matches_150 : dn cX7_matches 150 (.iaload) 1 151 := dnAt dc_X7_matches 92 rfl rfl
theorem d_X7_matches_151 : dn cX7_matches 151 (.iconst (-1)) 1 152 := dnAt dc_X7_matches 93 rfl rfl
theorem d_X7_matches_152 : dn cX7_matches 152 (.if_icmp .eq 26) 3 155 := dnAt dc_X7_matches 94 rfl rfl
theorem d_X7_matches_155 : dn cX7_matches 155 (.aload_n 0) 1 156 := dnAt dc_X7_matches 95 rfl rfl
theorem d_X7_matches_156 : dn cX7_matches 156 (.iload_n 2) 1 157 := dnAt dc_X7_matches 96 rfl rfl
theorem d_X7_matches_157 : dn cX7_matches 157 (.aload_n 0) 1 158 := dnAt dc_X7_matches 97 rfl rfl
theorem d_X7_matches_158 : dn cX7_matches 158 (.getfield 60) 3 161 := dnAt dc_X7_matches 98 rfl rfl
theorem d_X7_matches_161 : dn cX7_matches 161 (.iload 7) 2 163 := dnAt dc_X7_matches 99 rfl rfl
theorem d_X7_matches_163 : dn cX7_matches 163 (.iaload) 1 164 := dnAt dc_X7_matches 100 rfl rfl
theorem d_X7_matches_164 : dn cX7_matches 164 (.iload 5) 2 166 := dnAt dc_X7_matches 101 rfl rfl
theorem d_X7_matches_166 : dn cX7_matches 166 (.invokevirtual 94) 3 169 := dnAt dc_X7_matches 102 rfl rfl
theorem d_X7_matches_169 : dn cX7_matches 169 (.iload 6) 2 171 := dnAt dc_X7_matches 103 rfl rfl
theorem d_X7_matches_171 : dn cX7_matches 171 (.if_icmp .ne 7) 3 174 := dnAt dc_X7_matches 104 rfl rfl
theorem d_X7_matches_174 : dn cX7_matches 174 (.iconst 1) 1 175 := dnAt dc_X7_matches 105 rfl rfl
theorem d_X7_matches_175 : dn cX7_matches 175 (.goto 4) 3 178 := dnAt dc_X7_matches 106 rfl rfl
theorem d_X7_matches_178 : dn cX7_matches 178 (.iconst 0) 1 179 := dnAt dc_X7_matches 107 rfl rfl
theorem d_X7_matches_179 : dn cX7_matches 179 (.istore 4) 2 181 := dnAt dc_X7_matches 108 rfl rfl
theorem d_X7_matches_181 : dn cX7_matches 181 (.iinc 7 1) 3 184 := dnAt dc_X7_matches 109 rfl rfl
theorem d_X7_matches_184 : dn cX7_matches 184 (.goto (-83)) 3 187 := dnAt dc_X7_matches 110 rfl rfl
theorem d_X7_matches_187 : dn cX7_matches 187 (.iinc 5 1) 3 190 := dnAt dc_X7_matches 111 rfl rfl
theorem d_X7_matches_190 : dn cX7_matches 190 (.goto (-184)) 3 193 := dnAt dc_X7_matches 112 rfl rfl
theorem d_X7_matches_193 : dn cX7_matches 193 (.iload 4) 2 195 := dnAt dc_X7_matches 113 rfl rfl
theorem d_X7_matches_195 : dn cX7_matches 195 (.ireturn) 1 196 := dnAt dc_X7_matches 114 rfl rfl
set_option maxHeartbeats 4000000 in
set_option maxRecDepth 100000 in
theorem m_matches (S : mS) (f : Nat → Int32) (t s p : Nat) (lab : Nat → Nat) (I : mCore S) (ht : t < 168) (hs : s < 2) (hp : p < 40) (hl : ∀ z, z < 3 → f z = labI (lab z) ∧ lab z ≤ 40) : mC yX7_matches cX7_matches 9 (Option.some Jvm.ClassFile.FieldType.boolean) { frames := 1, cells := 0, slots := 0, locals := 23 } [.int (nI t), .int (nI s), .int (nI p)] (sI S 19 f) (fun v9 T9 => v9 = (some (.int (bI (tMat S t s p lab)))) ∧ T9 = sI S 19 f) := by
  refine mC.of (by decide) (Nat.le_of_ble_eq_true rfl) ?_
  intro G x q h0 C A TY
  show VM G x q h0 (sI S 19 f) 0 [(0, .ref (q 0)), (1, .int (nI t)), (2, .int (nI s)), (3, .int (nI p))] []
  refine m_iconst C d_X7_matches_0 (v := (bI true)) rfl ?_
  refine m_istore C d_X7_matches_1 (lv' := [(4, .int (bI true)), (0, .ref (q 0)), (1, .int (nI t)), (2, .int (nI s)), (3, .int (nI p))]) (by decide) rfl ?_
  refine m_iconst C d_X7_matches_3 (v := (nI 0)) rfl ?_
  refine m_istore C d_X7_matches_4 (lv' := [(5, .int (nI 0)), (4, .int (bI true)), (0, .ref (q 0)), (1, .int (nI t)), (2, .int (nI s)), (3, .int (nI p))]) (by decide) rfl ?_
  have loop_6 : ∀ (fuel : Nat) (k : Nat), (k ≤ 3) → (4 - k) < fuel → VM G x q h0 (sI S 19 f) 6 [(0, .ref (q 0)), (1, .int (nI t)), (2, .int (nI s)), (3, .int (nI p)), (4, .int (bI (allTo (tF S t s p lab) k))), (5, .int (nI k))] [] := by
    intro fuel
    induction fuel with
    | zero => intro k hk hf9; exact absurd hf9 (Nat.not_lt_zero _)
    | succ fuel ih_6 =>
      intro k hk hf9
      refine m_iload C d_X7_matches_6 5 rfl ?_
      refine m_iconst C d_X7_matches_8 (v := (nI 3)) rfl ?_
      refine mn_icmp_ge C d_X7_matches_9 (tgt := 193) rfl (by omega) (by omega) (fun c_9 => ?_) (fun c_9 => ?_)
      · skip
        obtain rfl : k = 3 := by omega
        refine m_iload C d_X7_matches_193 4 rfl ?_
        refine m_st (st' := [.int (bI (tMat S t s p lab))]) (rfl) ?_
        exact m_iret C A TY d_X7_matches_195 (bI_nar _) (⟨rfl, rfl⟩)
      · skip
        refine m_aload_n C d_X7_matches_12 0 rfl ?_
        refine m_iload_n C d_X7_matches_13 2 rfl ?_
        refine m_iload_n C d_X7_matches_14 3 rfl ?_
        refine m_iload C d_X7_matches_15 5 rfl ?_
        refine m_callV C d_X7_matches_17 ok_RX7_94 (m_valueOf (sI S 19 f) s p k (by omega) (by omega) (by omega)) rfl (rest := []) rfl rfl (Nat.le_of_ble_eq_true rfl) ⟨⟨by decide, by decide⟩, by decide, by decide⟩ (fun v9 T9 e9 => ?_)
        obtain ⟨rfl, e9⟩ := e9
        refine m_eq e9 ?_
        show VM G x q h0 (sI S 19 f) 20 [(0, .ref (q 0)), (1, .int (nI t)), (2, .int (nI s)), (3, .int (nI p)), (4, .int (bI (allTo (tF S t s p lab) k))), (5, .int (nI k))] [.int (nI (mVal S s p k))]
        have hv := I.2.1 (3 * (40 * s + p) + k) (by omega)
        have hv2 : mVal S s p k < 100 := hv
        refine m_istore C d_X7_matches_20 (lv' := [(6, .int (nI (mVal S s p k))), (0, .ref (q 0)), (1, .int (nI t)), (2, .int (nI s)), (3, .int (nI p)), (4, .int (bI (allTo (tF S t s p lab) k))), (5, .int (nI k))]) (by decide) rfl ?_
        have join_96 : VM G x q h0 (sI S 19 f) 96 [(0, .ref (q 0)), (1, .int (nI t)), (2, .int (nI s)), (3, .int (nI p)), (5, .int (nI k)), (6, .int (nI (mVal S s p k)))] [.int (bI (allTo (tF S t s p lab) k && tA S t s p k))] := by
          refine m_istore C d_X7_matches_96 (lv' := [(4, .int (bI (allTo (tF S t s p lab) k && tA S t s p k))), (0, .ref (q 0)), (1, .int (nI t)), (2, .int (nI s)), (3, .int (nI p)), (5, .int (nI k)), (6, .int (nI (mVal S s p k)))]) (by decide) rfl ?_
          refine m_iconst C d_X7_matches_98 (v := (nI 0)) rfl ?_
          refine m_istore C d_X7_matches_99 (lv' := [(7, .int (nI 0)), (4, .int (bI (allTo (tF S t s p lab) k && tA S t s p k))), (0, .ref (q 0)), (1, .int (nI t)), (2, .int (nI s)), (3, .int (nI p)), (5, .int (nI k)), (6, .int (nI (mVal S s p k)))]) (by decide) rfl ?_
          have loop_101 : ∀ (fuel : Nat) (z : Nat), (z ≤ 3) → (4 - z) < fuel → VM G x q h0 (sI S 19 f) 101 [(0, .ref (q 0)), (1, .int (nI t)), (2, .int (nI s)), (3, .int (nI p)), (4, .int (bI (allTo (tF S t s p lab) k && tA S t s p k && allTo (tC S t s p lab k) z))), (5, .int (nI k)), (6, .int (nI (mVal S s p k))), (7, .int (nI z))] [] := by
            intro fuel
            induction fuel with
            | zero => intro z hz hf9; exact absurd hf9 (Nat.not_lt_zero _)
            | succ fuel ih_101 =>
              intro z hz hf9
              refine m_iload C d_X7_matches_101 7 rfl ?_
              refine m_iconst C d_X7_matches_103 (v := (nI 3)) rfl ?_
              refine mn_icmp_ge C d_X7_matches_104 (tgt := 187) rfl (by omega) (by omega) (fun c_104 => ?_) (fun c_104 => ?_)
              · skip
                obtain rfl : z = 3 := by omega
                refine mn_iinc C d_X7_matches_187 (lv' := [(5, .int (nI (k + 1))), (0, .ref (q 0)), (1, .int (nI t)), (2, .int (nI s)), (3, .int (nI p)), (4, .int (bI (allTo (tF S t s p lab) k && tA S t s p k && allTo (tC S t s p lab k) 3))), (6, .int (nI (mVal S s p k))), (7, .int (nI 3))]) 5 rfl (nI_inc _ rfl) (by decide) rfl ?_
                refine m_goto C d_X7_matches_190 (tgt := 6) rfl ?_
                refine m_lv (lv' := [(0, .ref (q 0)), (1, .int (nI t)), (2, .int (nI s)), (3, .int (nI p)), (4, .int (bI (allTo (tF S t s p lab) k && tA S t s p k && allTo (tC S t s p lab k) 3))), (5, .int (nI (k + 1)))]) [1, 2, 3, 4, 5, 0] rfl ?_
                refine m_lve (lv' := [(0, .ref (q 0)), (1, .int (nI t)), (2, .int (nI s)), (3, .int (nI p)), (4, .int (bI (allTo (tF S t s p lab) (k + 1)))), (5, .int (nI (k + 1)))]) (by rw [allTo, Bool.and_assoc]; rfl) ?_
                exact ih_6 (k + 1) (by omega) (by omega)
              · skip
                have join_132 : VM G x q h0 (sI S 19 f) 132 [(0, .ref (q 0)), (1, .int (nI t)), (2, .int (nI s)), (3, .int (nI p)), (4, .int (bI (allTo (tF S t s p lab) k && tA S t s p k && allTo (tC S t s p lab k) z))), (5, .int (nI k)), (6, .int (nI (mVal S s p k))), (7, .int (nI z))] [.int (bI (decide (mN S 14 t / 2 ^ (3 * z + k) % 2 = 1)))] := by
                  refine m_istore C d_X7_matches_132 (lv' := [(8, .int (bI (decide (mN S 14 t / 2 ^ (3 * z + k) % 2 = 1)))), (0, .ref (q 0)), (1, .int (nI t)), (2, .int (nI s)), (3, .int (nI p)), (4, .int (bI (allTo (tF S t s p lab) k && tA S t s p k && allTo (tC S t s p lab k) z))), (5, .int (nI k)), (6, .int (nI (mVal S s p k))), (7, .int (nI z))]) (by decide) rfl ?_
                  have join_179 : VM G x q h0 (sI S 19 f) 179 [(0, .ref (q 0)), (1, .int (nI t)), (2, .int (nI s)), (3, .int (nI p)), (5, .int (nI k)), (6, .int (nI (mVal S s p k))), (7, .int (nI z))] [.int (bI (allTo (tF S t s p lab) k && tA S t s p k && allTo (tC S t s p lab k) (z + 1)))] := by
                    refine m_istore C d_X7_matches_179 (lv' := [(4, .int (bI (allTo (tF S t s p lab) k && tA S t s p k && allTo (tC S t s p lab k) (z + 1)))), (0, .ref (q 0)), (1, .int (nI t)), (2, .int (nI s)), (3, .int (nI p)), (5, .int (nI k)), (6, .int (nI (mVal S s p k))), (7, .int (nI z))]) (by decide) rfl ?_
                    refine mn_iinc C d_X7_matches_181 (lv' := [(7, .int (nI (z + 1))), (4, .int (bI (allTo (tF S t s p lab) k && tA S t s p k && allTo (tC S t s p lab k) (z + 1)))), (0, .ref (q 0)), (1, .int (nI t)), (2, .int (nI s)), (3, .int (nI p)), (5, .int (nI k)), (6, .int (nI (mVal S s p k)))]) 7 rfl (nI_inc _ rfl) (by decide) rfl ?_
                    refine m_goto C d_X7_matches_184 (tgt := 101) rfl ?_
                    refine m_lv (lv' := [(0, .ref (q 0)), (1, .int (nI t)), (2, .int (nI s)), (3, .int (nI p)), (4, .int (bI (allTo (tF S t s p lab) k && tA S t s p k && allTo (tC S t s p lab k) (z + 1)))), (5, .int (nI k)), (6, .int (nI (mVal S s p k))), (7, .int (nI (z + 1)))]) [2, 3, 4, 5, 1, 6, 7, 0] rfl ?_
                    exact ih_101 (z + 1) (by omega) (by omega)
                  refine m_iload C d_X7_matches_134 5 rfl ?_
                  refine mb_if_eq C d_X7_matches_136 (tgt := 178) rfl (fun c_136 => ?_) (fun c_136 => ?_)
                  · skip
                    refine m_iconst C d_X7_matches_178 (v := (bI false)) rfl ?_
                    refine m_lv (lv' := [(0, .ref (q 0)), (1, .int (nI t)), (2, .int (nI s)), (3, .int (nI p)), (5, .int (nI k)), (6, .int (nI (mVal S s p k))), (7, .int (nI z))]) [1, 2, 3, 4, 6, 7, 8] rfl ?_
                    refine m_st (st' := [.int (bI (allTo (tF S t s p lab) k && tA S t s p k && allTo (tC S t s p lab k) (z + 1)))]) (congrArg (fun z => [Value.int (bI z)]) (by rw [allTo]; revert c_136; cases allTo (tF S t s p lab) k <;> cases tA S t s p k <;> cases allTo (tC S t s p lab k) z <;> simp)) ?_
                    exact join_179  
                  · skip
                    refine m_iload C d_X7_matches_139 0 rfl ?_
                    refine mb_if_eq C d_X7_matches_141 (tgt := 174) rfl (fun c_141 => ?_) (fun c_141 => ?_)
                    · skip
                      refine m_iconst C d_X7_matches_174 (v := (bI true)) rfl ?_
                      refine m_goto C d_X7_matches_175 (tgt := 179) rfl ?_
                      refine m_lv (lv' := [(0, .ref (q 0)), (1, .int (nI t)), (2, .int (nI s)), (3, .int (nI p)), (5, .int (nI k)), (6, .int (nI (mVal S s p k))), (7, .int (nI z))]) [1, 2, 3, 4, 6, 7, 8] rfl ?_
                      refine m_st (st' := [.int (bI (allTo (tF S t s p lab) k && tA S t s p k && allTo (tC S t s p lab k) (z + 1)))]) (congrArg (fun z => [Value.int (bI z)]) (by rw [allTo, ← Bool.and_assoc, c_136, Bool.true_and, tC, c_141]; rfl)) ?_
                      exact join_179  
                    · skip
                      refine m_aload_n C d_X7_matches_144 1 rfl ?_
                      refine m_get C d_X7_matches_145 fd_RX7_60 (v := .ref (q 19)) rfl ?_
                      refine m_iload C d_X7_matches_148 8 rfl ?_
                      refine m_aldI C d_X7_matches_150 (k := 19) (by decide) rfl (by show _ < 3; omega) (by decide) ?_
                      refine m_st (st' := [.int (labI (lab z))]) (by rw [show mI (sI S 19 f) 19 z = labI (lab z) from (hl z (by omega)).1]) ?_
                      refine m_iconst C d_X7_matches_151 (v := ((-1))) rfl ?_
                      refine m_icmp_eq C d_X7_matches_152 (tgt := 178) rfl (fun c_152 => ?_) (fun c_152 => ?_)
                      · skip
                        have hz9 := (hl z (by omega)).2
                        have c9 : lab z = 0 := (labI_m1 (by omega)).mp c_152
                        refine m_iconst C d_X7_matches_178 (v := (bI false)) rfl ?_
                        refine m_lv (lv' := [(0, .ref (q 0)), (1, .int (nI t)), (2, .int (nI s)), (3, .int (nI p)), (5, .int (nI k)), (6, .int (nI (mVal S s p k))), (7, .int (nI z))]) [1, 2, 3, 4, 6, 7, 8] rfl ?_
                        refine m_st (st' := [.int (bI (allTo (tF S t s p lab) k && tA S t s p k && allTo (tC S t s p lab k) (z + 1)))]) (congrArg (fun z => [Value.int (bI z)]) (by rw [allTo, ← Bool.and_assoc, c_136, Bool.true_and, tC, c_141, decide_eq_true c9]; rfl)) ?_
                        exact join_179  
                      · skip
                        have hz9 := (hl z (by omega)).2
                        have c9 : 0 < lab z := Nat.pos_of_ne_zero fun q => c_152 ((labI_m1 (by omega)).mpr q)
                        refine m_aload_n C d_X7_matches_155 1 rfl ?_
                        refine m_iload_n C d_X7_matches_156 3 rfl ?_
                        refine m_aload_n C d_X7_matches_157 1 rfl ?_
                        refine m_get C d_X7_matches_158 fd_RX7_60 (v := .ref (q 19)) rfl ?_
                        refine m_iload C d_X7_matches_161 8 rfl ?_
                        refine m_aldI C d_X7_matches_163 (k := 19) (by decide) rfl (by show _ < 3; omega) (by decide) ?_
                        refine m_st (st' := [.int (nI (lab z - 1)), .int (nI s), .ref (q 0)]) (by rw [show mI (sI S 19 f) 19 z = labI (lab z) from (hl z (by omega)).1, labI_p c9]) ?_
                        refine m_iload C d_X7_matches_164 6 rfl ?_
                        refine m_callV C d_X7_matches_166 ok_RX7_94 (m_valueOf (sI S 19 f) s (lab z - 1) k (by omega) (by omega) (by omega)) rfl (rest := []) rfl rfl (Nat.le_of_ble_eq_true rfl) ⟨⟨by decide, by decide⟩, by decide, by decide⟩ (fun v9 T9 e9 => ?_)
                        obtain ⟨rfl, e9⟩ := e9
                        refine m_eq e9 ?_
                        show VM G x q h0 (sI S 19 f) 169 [(8, .int (bI (decide (mN S 14 t / 2 ^ (3 * z + k) % 2 = 1)))), (0, .ref (q 0)), (1, .int (nI t)), (2, .int (nI s)), (3, .int (nI p)), (4, .int (bI (allTo (tF S t s p lab) k && tA S t s p k && allTo (tC S t s p lab k) z))), (5, .int (nI k)), (6, .int (nI (mVal S s p k))), (7, .int (nI z))] [.int (nI (mVal S s (lab z - 1) k))]
                        refine m_iload C d_X7_matches_169 7 rfl ?_
                        refine mn_icmp_ne C d_X7_matches_171 (tgt := 178) rfl (by have := I.2.1 (3 * (40 * s + (lab z - 1)) + k) (by omega); unfold mVal; omega) (by omega) (fun c_171 => ?_) (fun c_171 => ?_)
                        · skip
                          refine m_iconst C d_X7_matches_178 (v := (bI false)) rfl ?_
                          refine m_lv (lv' := [(0, .ref (q 0)), (1, .int (nI t)), (2, .int (nI s)), (3, .int (nI p)), (5, .int (nI k)), (6, .int (nI (mVal S s p k))), (7, .int (nI z))]) [1, 2, 3, 4, 6, 7, 8] rfl ?_
                          refine m_st (st' := [.int (bI (allTo (tF S t s p lab) k && tA S t s p k && allTo (tC S t s p lab k) (z + 1)))]) (congrArg (fun z => [Value.int (bI z)]) (by rw [allTo, ← Bool.and_assoc, c_136, Bool.true_and, tC, c_141, decide_eq_false (by omega), decide_eq_false c_171]; rfl)) ?_
                          exact join_179  
                        · skip
                          refine m_iconst C d_X7_matches_174 (v := (bI true)) rfl ?_
                          refine m_goto C d_X7_matches_175 (tgt := 179) rfl ?_
                          refine m_lv (lv' := [(0, .ref (q 0)), (1, .int (nI t)), (2, .int (nI s)), (3, .int (nI p)), (5, .int (nI k)), (6, .int (nI (mVal S s p k))), (7, .int (nI z))]) [1, 2, 3, 4, 6, 7, 8] rfl ?_
                          refine m_st (st' := [.int (bI (allTo (tF S t s p lab) k && tA S t s p k && allTo (tC S t s p lab k) (z + 1)))]) (congrArg (fun z => [Value.int (bI z)]) (by rw [allTo, ← Bool.and_assoc, c_136, Bool.true_and, tC, c_141, decide_eq_false (by omega), decide_eq_true c_171]; rfl)) ?_
                          exact join_179  
                refine m_aload_n C d_X7_matches_107 0 rfl ?_
                refine m_get C d_X7_matches_108 fd_RX7_51 (v := .ref (q 14)) rfl ?_
                refine m_iload_n C d_X7_matches_111 1 rfl ?_
                refine m_ald C d_X7_matches_112 (k := 14) (by decide) rfl (by show _ < 168; omega) (by decide) ?_
                refine m_st (st' := [.int (nI (mN S 14 t))]) rfl ?_
                refine m_iconst C d_X7_matches_113 (v := (nI 3)) rfl ?_
                refine m_iload C d_X7_matches_114 7 rfl ?_
                refine mn_imul C d_X7_matches_116 ?_
                refine m_iload C d_X7_matches_117 5 rfl ?_
                refine mn_iadd C d_X7_matches_119 ?_
                refine mn_ishr C d_X7_matches_120 (by have := I.2.2.2.2.2.2.2.2.1 t (by omega); omega) (by omega) ?_
                refine m_iconst C d_X7_matches_121 (v := (nI 1)) rfl ?_
                refine mn_iand C d_X7_matches_122 ?_
                refine m_st (st' := [.int (nI (mN S 14 t / 2 ^ (3 * z + k) % 2))]) (by rw [and1]) ?_
                refine m_iconst C d_X7_matches_123 (v := (nI 1)) rfl ?_
                refine mn_icmp_ne C d_X7_matches_124 (tgt := 131) rfl (by omega) (by omega) (fun c_124 => ?_) (fun c_124 => ?_)
                · skip
                  refine m_iconst C d_X7_matches_131 (v := (bI false)) rfl ?_
                  refine m_st (st' := [.int (bI (decide (mN S 14 t / 2 ^ (3 * z + k) % 2 = 1)))]) (by first | rw [decide_eq_true c_124] | rw [decide_eq_false c_124]) ?_
                  exact join_132  
                · skip
                  refine m_iconst C d_X7_matches_127 (v := (bI true)) rfl ?_
                  refine m_goto C d_X7_matches_128 (tgt := 132) rfl ?_
                  refine m_st (st' := [.int (bI (decide (mN S 14 t / 2 ^ (3 * z + k) % 2 = 1)))]) (by first | rw [decide_eq_true c_124] | rw [decide_eq_false c_124]) ?_
                  exact join_132  
          refine m_lv (lv' := [(0, .ref (q 0)), (1, .int (nI t)), (2, .int (nI s)), (3, .int (nI p)), (4, .int (bI (allTo (tF S t s p lab) k && tA S t s p k))), (5, .int (nI k)), (6, .int (nI (mVal S s p k))), (7, .int (nI 0))]) [2, 3, 4, 5, 1, 6, 7, 0] rfl ?_
          refine m_lve (lv' := [(0, .ref (q 0)), (1, .int (nI t)), (2, .int (nI s)), (3, .int (nI p)), (4, .int (bI (allTo (tF S t s p lab) k && tA S t s p k && allTo (tC S t s p lab k) 0))), (5, .int (nI k)), (6, .int (nI (mVal S s p k))), (7, .int (nI 0))]) (by rw [allTo, Bool.and_true]) ?_
          exact loop_101 _ 0 (by omega) (Nat.lt_succ_self _)
        refine m_iload C d_X7_matches_22 5 rfl ?_
        refine mb_if_eq C d_X7_matches_24 (tgt := 95) rfl (fun c_24 => ?_) (fun c_24 => ?_)
        · skip
          refine m_iconst C d_X7_matches_95 (v := (bI false)) rfl ?_
          refine m_lv (lv' := [(0, .ref (q 0)), (1, .int (nI t)), (2, .int (nI s)), (3, .int (nI p)), (5, .int (nI k)), (6, .int (nI (mVal S s p k)))]) [1, 2, 3, 4, 6, 0] rfl ?_
          refine m_st (st' := [.int (bI (allTo (tF S t s p lab) k && tA S t s p k))]) (by rw [c_24]; rfl) ?_
          exact join_96  
        · skip
          refine m_aload_n C d_X7_matches_27 1 rfl ?_
          refine m_get C d_X7_matches_28 fd_RX7_42 (v := .ref (q 11)) rfl ?_
          refine m_iconst C d_X7_matches_31 (v := (nI 3)) rfl ?_
          refine m_iload_n C d_X7_matches_32 2 rfl ?_
          refine mn_imul C d_X7_matches_33 ?_
          refine m_iload C d_X7_matches_34 6 rfl ?_
          refine mn_iadd C d_X7_matches_36 ?_
          refine m_aldI C d_X7_matches_37 (k := 11) (by decide) rfl (by show _ < 504; omega) (by decide) ?_
          refine m_st (st' := [.int (mI S 11 ((3 * t) + k))]) rfl ?_
          refine m_iconst C d_X7_matches_38 (v := ((-1))) rfl ?_
          refine m_icmp_eq C d_X7_matches_39 (tgt := 58) rfl (fun c_39 => ?_) (fun c_39 => ?_)
          · skip
            refine m_aload_n C d_X7_matches_58 1 rfl ?_
            refine m_get C d_X7_matches_59 fd_RX7_45 (v := .ref (q 12)) rfl ?_
            refine m_bipush C d_X7_matches_62 (v := (nI 6)) rfl ?_
            refine m_iload_n C d_X7_matches_64 2 rfl ?_
            refine mn_imul C d_X7_matches_65 ?_
            refine m_iconst C d_X7_matches_66 (v := (nI 2)) rfl ?_
            refine m_iload C d_X7_matches_67 6 rfl ?_
            refine mn_imul C d_X7_matches_69 ?_
            refine mn_iadd C d_X7_matches_70 ?_
            refine m_iload C d_X7_matches_71 0 rfl ?_
            refine m_bipush C d_X7_matches_73 (v := (nI 50)) rfl ?_
            refine mn_idiv C d_X7_matches_75 (by omega) (by omega) (by omega) ?_
            refine mn_iadd C d_X7_matches_76 ?_
            refine m_lld C d_X7_matches_77 (k := 12) (by decide) rfl (by show _ < 1008; omega) (by decide) ?_
            refine m_st (st' := [.long (lN (mN S 12 (((6 * t) + (2 * k)) + ((mVal S s p k) / 50))))]) rfl ?_
            refine m_iload C d_X7_matches_78 0 rfl ?_
            refine m_bipush C d_X7_matches_80 (v := (nI 50)) rfl ?_
            refine mn_irem C d_X7_matches_82 (by omega) (by omega) (by omega) ?_
            refine mn_lshr C d_X7_matches_83 (by have := I.2.2.2.2.2.2.1 (6 * t + 2 * k + mVal S s p k / 50) (by omega); omega) (by omega) ?_
            refine m_lconst C d_X7_matches_84 (v := (lN 1)) rfl ?_
            refine mn_land C d_X7_matches_85 ?_
            refine m_st (st' := [.long (lN (mN S 12 (6 * t + 2 * k + mVal S s p k / 50) / 2 ^ (mVal S s p k % 50) % 2))]) (by rw [and1]) ?_
            refine m_lconst C d_X7_matches_86 (v := (lN 0)) rfl ?_
            refine mn_lcmp C d_X7_matches_87 (by omega) (by omega) ?_
            refine m_if_ne C d_X7_matches_88 (tgt := 95) rfl (fun c_88 => ?_) (fun c_88 => ?_)
            · skip
              have c9 : ¬ mN S 12 (6 * t + 2 * k + mVal S s p k / 50) / 2 ^ (mVal S s p k % 50) % 2 = 0 := fun z => c_88 ((lcmp_0 (by omega) (by omega)).mpr z)
              refine m_iconst C d_X7_matches_95 (v := (bI false)) rfl ?_
              refine m_lv (lv' := [(0, .ref (q 0)), (1, .int (nI t)), (2, .int (nI s)), (3, .int (nI p)), (5, .int (nI k)), (6, .int (nI (mVal S s p k)))]) [1, 2, 3, 4, 6, 0] rfl ?_
              refine m_st (st' := [.int (bI (allTo (tF S t s p lab) k && tA S t s p k))]) (by rw [c_24, tA, decide_eq_true c_39, decide_eq_false c9]; first | rfl | simp) ?_
              exact join_96  
            · skip
              have c9 : mN S 12 (6 * t + 2 * k + mVal S s p k / 50) / 2 ^ (mVal S s p k % 50) % 2 = 0 := (lcmp_0 (by omega) (by omega)).mp (Classical.not_not.mp c_88)
              refine m_iconst C d_X7_matches_91 (v := (bI true)) rfl ?_
              refine m_goto C d_X7_matches_92 (tgt := 96) rfl ?_
              refine m_lv (lv' := [(0, .ref (q 0)), (1, .int (nI t)), (2, .int (nI s)), (3, .int (nI p)), (5, .int (nI k)), (6, .int (nI (mVal S s p k)))]) [1, 2, 3, 4, 6, 0] rfl ?_
              refine m_st (st' := [.int (bI (allTo (tF S t s p lab) k && tA S t s p k))]) (by rw [c_24, tA, decide_eq_true c_39, decide_eq_true c9]; first | rfl | simp) ?_
              exact join_96  
          · skip
            refine m_aload_n C d_X7_matches_42 1 rfl ?_
            refine m_get C d_X7_matches_43 fd_RX7_42 (v := .ref (q 11)) rfl ?_
            refine m_iconst C d_X7_matches_46 (v := (nI 3)) rfl ?_
            refine m_iload_n C d_X7_matches_47 2 rfl ?_
            refine mn_imul C d_X7_matches_48 ?_
            refine m_iload C d_X7_matches_49 6 rfl ?_
            refine mn_iadd C d_X7_matches_51 ?_
            refine m_aldI C d_X7_matches_52 (k := 11) (by decide) rfl (by show _ < 504; omega) (by decide) ?_
            refine m_st (st' := [.int (mI S 11 ((3 * t) + k))]) rfl ?_
            refine m_iload C d_X7_matches_53 0 rfl ?_
            refine m_icmp_ne C d_X7_matches_55 (tgt := 95) rfl (fun c_55 => ?_) (fun c_55 => ?_)
            · skip
              refine m_iconst C d_X7_matches_95 (v := (bI false)) rfl ?_
              refine m_lv (lv' := [(0, .ref (q 0)), (1, .int (nI t)), (2, .int (nI s)), (3, .int (nI p)), (5, .int (nI k)), (6, .int (nI (mVal S s p k)))]) [1, 2, 3, 4, 6, 0] rfl ?_
              refine m_st (st' := [.int (bI (allTo (tF S t s p lab) k && tA S t s p k))]) (by rw [c_24, tA, decide_eq_false c_39, decide_eq_false c_55]; rfl) ?_
              exact join_96  
            · skip
              refine m_aload_n C d_X7_matches_58 1 rfl ?_
              refine m_get C d_X7_matches_59 fd_RX7_45 (v := .ref (q 12)) rfl ?_
              refine m_bipush C d_X7_matches_62 (v := (nI 6)) rfl ?_
              refine m_iload_n C d_X7_matches_64 2 rfl ?_
              refine mn_imul C d_X7_matches_65 ?_
              refine m_iconst C d_X7_matches_66 (v := (nI 2)) rfl ?_
              refine m_iload C d_X7_matches_67 6 rfl ?_
              refine mn_imul C d_X7_matches_69 ?_
              refine mn_iadd C d_X7_matches_70 ?_
              refine m_iload C d_X7_matches_71 0 rfl ?_
              refine m_bipush C d_X7_matches_73 (v := (nI 50)) rfl ?_
              refine mn_idiv C d_X7_matches_75 (by omega) (by omega) (by omega) ?_
              refine mn_iadd C d_X7_matches_76 ?_
              refine m_lld C d_X7_matches_77 (k := 12) (by decide) rfl (by show _ < 1008; omega) (by decide) ?_
              refine m_st (st' := [.long (lN (mN S 12 (((6 * t) + (2 * k)) + ((mVal S s p k) / 50))))]) rfl ?_
              refine m_iload C d_X7_matches_78 0 rfl ?_
              refine m_bipush C d_X7_matches_80 (v := (nI 50)) rfl ?_
              refine mn_irem C d_X7_matches_82 (by omega) (by omega) (by omega) ?_
              refine mn_lshr C d_X7_matches_83 (by have := I.2.2.2.2.2.2.1 (6 * t + 2 * k + mVal S s p k / 50) (by omega); omega) (by omega) ?_
              refine m_lconst C d_X7_matches_84 (v := (lN 1)) rfl ?_
              refine mn_land C d_X7_matches_85 ?_
              refine m_st (st' := [.long (lN (mN S 12 (6 * t + 2 * k + mVal S s p k / 50) / 2 ^ (mVal S s p k % 50) % 2))]) (by rw [and1]) ?_
              refine m_lconst C d_X7_matches_86 (v := (lN 0)) rfl ?_
              refine mn_lcmp C d_X7_matches_87 (by omega) (by omega) ?_
              refine m_if_ne C d_X7_matches_88 (tgt := 95) rfl (fun c_88 => ?_) (fun c_88 => ?_)
              · skip
                have c9 : ¬ mN S 12 (6 * t + 2 * k + mVal S s p k / 50) / 2 ^ (mVal S s p k % 50) % 2 = 0 := fun z => c_88 ((lcmp_0 (by omega) (by omega)).mpr z)
                refine m_iconst C d_X7_matches_95 (v := (bI false)) rfl ?_
                refine m_lv (lv' := [(0, .ref (q 0)), (1, .int (nI t)), (2, .int (nI s)), (3, .int (nI p)), (5, .int (nI k)), (6, .int (nI (mVal S s p k)))]) [1, 2, 3, 4, 6, 0] rfl ?_
                refine m_st (st' := [.int (bI (allTo (tF S t s p lab) k && tA S t s p k))]) (by rw [c_24, tA, decide_eq_false c_39, decide_eq_true (Classical.not_not.mp c_55), decide_eq_false c9]; first | rfl | simp) ?_
                exact join_96  
              · skip
                have c9 : mN S 12 (6 * t + 2 * k + mVal S s p k / 50) / 2 ^ (mVal S s p k % 50) % 2 = 0 := (lcmp_0 (by omega) (by omega)).mp (Classical.not_not.mp c_88)
                refine m_iconst C d_X7_matches_91 (v := (bI true)) rfl ?_
                refine m_goto C d_X7_matches_92 (tgt := 96) rfl ?_
                refine m_lv (lv' := [(0, .ref (q 0)), (1, .int (nI t)), (2, .int (nI s)), (3, .int (nI p)), (5, .int (nI k)), (6, .int (nI (mVal S s p k)))]) [1, 2, 3, 4, 6, 0] rfl ?_
                refine m_st (st' := [.int (bI (allTo (tF S t s p lab) k && tA S t s p k))]) (by rw [c_24, tA, decide_eq_false c_39, decide_eq_true (Classical.not_not.mp c_55), decide_eq_true c9]; first | rfl | simp) ?_
                exact join_96  
  refine m_lv (lv' := [(0, .ref (q 0)), (1, .int (nI t)), (2, .int (nI s)), (3, .int (nI p)), (4, .int (bI true)), (5, .int (nI 0))]) [2, 3, 4, 5, 1, 0] rfl ?_
  refine m_lve (lv' := [(0, .ref (q 0)), (1, .int (nI t)), (2, .int (nI s)), (3, .int (nI p)), (4, .int (bI (allTo (tF S t s p lab) 0))), (5, .int (nI 0))]) (rfl) ?_
  exact loop_6 _ 0 (by omega) (Nat.lt_succ_self _)
