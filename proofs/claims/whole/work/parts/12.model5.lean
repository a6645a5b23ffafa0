theorem tw_670 : (Jvm.Cond.fieldLink "CorpuslineModel" (36 : Nat) "CorpuslineModel" "isTest" "[Z") ∈ TB := tb_of 670 (by decide +kernel) rfl
theorem tw_671 : (Jvm.Cond.fieldLink "CorpuslineModel" (39 : Nat) "CorpuslineModel" "ways" "[Z") ∈ TB := tb_of 671 (by decide +kernel) rfl
theorem tw_672 : (Jvm.Cond.fieldLink "CorpuslineModel" (42 : Nat) "CorpuslineModel" "values" "[I") ∈ TB := tb_of 672 (by decide +kernel) rfl
theorem tw_673 : (Jvm.Cond.fieldLink "CorpuslineModel" (45 : Nat) "CorpuslineModel" "others" "[J") ∈ TB := tb_of 673 (by decide +kernel) rfl
theorem tw_674 : (Jvm.Cond.fieldLink "CorpuslineModel" (48 : Nat) "CorpuslineModel" "sets" "[I") ∈ TB := tb_of 674 (by decide +kernel) rfl
theorem tw_675 : (Jvm.Cond.fieldLink "CorpuslineModel" (51 : Nat) "CorpuslineModel" "compares" "[I") ∈ TB := tb_of 675 (by decide +kernel) rfl
theorem fd_RX7_36 : fdOk RX7 36 6 9 := ⟨_, _, _, rfl, by decide, cw_6, tw_670, rfl⟩
theorem fd_RX7_39 : fdOk RX7 39 6 10 := ⟨_, _, _, rfl, by decide, cw_6, tw_671, rfl⟩
theorem fd_RX7_42 : fdOk RX7 42 6 11 := ⟨_, _, _, rfl, by decide, cw_6, tw_672, rfl⟩
theorem fd_RX7_45 : fdOk RX7 45 6 12 := ⟨_, _, _, rfl, by decide, cw_6, tw_673, rfl⟩
theorem fd_RX7_48 : fdOk RX7 48 6 13 := ⟨_, _, _, rfl, by decide, cw_6, tw_674, rfl⟩
theorem fd_RX7_51 : fdOk RX7 51 6 14 := ⟨_, _, _, rfl, by decide, cw_6, tw_675, rfl⟩
/-- the tests' rows read through a map of tests -/
def tmap (S : mS) (g : Nat → Nat) : mS := (S.1, (fun k x => if k = 12 then mN S 12 (6 * g (x / 6) + x % 6) else if k = 13 then mN S 13 (g x) else if k = 14 then mN S 14 (g x) else S.2.1 k x), S.2.2.1, fun k x => if k = 11 then mI S 11 (3 * g (x / 3) + x % 3) else S.2.2.2 k x)
theorem mK_tmap (S : mS) (g : Nat → Nat) (j : Nat) : mK (tmap S g) j = mK S j := rfl
theorem mB_tmap (S : mS) (g : Nat → Nat) (j b : Nat) : mB (tmap S g) j b = mB S j b := rfl
theorem mN_tmap (S : mS) (g : Nat → Nat) (j x : Nat) : mN (tmap S g) j x = if j = 12 then mN S 12 (6 * g (x / 6) + x % 6) else if j = 13 then mN S 13 (g x) else if j = 14 then mN S 14 (g x) else mN S j x := rfl
theorem mI_tmap (S : mS) (g : Nat → Nat) (j x : Nat) : mI (tmap S g) j x = if j = 11 then mI S 11 (3 * g (x / 3) + x % 3) else mI S j x := rfl
theorem tmap_tmap (S : mS) (g g' : Nat → Nat) : tmap (tmap S g) g' = tmap S (fun t => g (g' t)) := by
  apply mS_ext
  · intro k; rfl
  · intro k x
    rw [mN_tmap (tmap S g) g' k x, mN_tmap S (fun t => g (g' t)) k x]
    by_cases h1 : k = 12
    · rw [if_pos h1, if_pos h1, mN_tmap, if_pos rfl, show (6 * g' (x / 6) + x % 6) / 6 = g' (x / 6) by omega, show (6 * g' (x / 6) + x % 6) % 6 = x % 6 by omega]
    · rw [if_neg h1, if_neg h1]
      by_cases h2 : k = 13
      · rw [if_pos h2, if_pos h2, mN_tmap, if_neg (by decide), if_pos rfl]
      · rw [if_neg h2, if_neg h2]
        by_cases h3 : k = 14
        · rw [if_pos h3, if_pos h3, mN_tmap, if_neg (by decide), if_neg (by decide), if_pos rfl]
        · rw [if_neg h3, if_neg h3, mN_tmap, if_neg h1, if_neg h2, if_neg h3]
  · intro k x; rfl
  · intro k x
    rw [mI_tmap (tmap S g) g' k x, mI_tmap S (fun t => g (g' t)) k x]
    by_cases h1 : k = 11
    · rw [if_pos h1, if_pos h1, mI_tmap, if_pos rfl, show (3 * g' (x / 3) + x % 3) / 3 = g' (x / 3) by omega, show (3 * g' (x / 3) + x % 3) % 3 = x % 3 by omega]
    · rw [if_neg h1, if_neg h1, mI_tmap, if_neg h1]
theorem tmap_congr {S : mS} {g g' : Nat → Nat} (h : ∀ t, g t = g' t) : tmap S g = tmap S g' := by rw [funext h]
theorem tmap_id (S : mS) {g : Nat → Nat} (h : ∀ t, g t = t) : S = tmap S g := by
  apply mS_ext
  · intro k; rfl
  · intro k x
    rw [mN_tmap, h, h, Nat.div_add_mod]
    split
    · rename_i e; rw [e]
    · split
      · rename_i e; rw [e]
      · split
        · rename_i e; rw [e]
        · rfl
  · intro k x; rfl
  · intro k x
    rw [mI_tmap, h, Nat.div_add_mod]
    split
    · rename_i e; rw [e]
    · rfl
def cpL (S : mS) (a t k : Nat) : mS := sN (sI S 11 (fun x => if 3 * t ≤ x ∧ x < 3 * t + k then mI S 11 (3 * a + (x - 3 * t)) else mI S 11 x)) 12 (fun x => if 6 * t ≤ x ∧ x < 6 * t + 2 * k then mN S 12 (6 * a + (x - 6 * t)) else mN S 12 x)
def cpG (a t : Nat) : Nat → Nat := fun z => if z = t then a else z
theorem cpL_0 (S : mS) (a t : Nat) : S = cpL S a t 0 := by
  unfold cpL
  apply mS_ext
  · intro k; rfl
  · intro k x
    rw [mN_sN]
    split
    · rename_i e; rw [if_neg (by omega), e]
    · rfl
  · intro k x; rfl
  · intro k x
    rw [mI_sN, mI_sI]
    split
    · rename_i e; rw [if_neg (by omega), e]
    · rfl
theorem cpL_end (S : mS) (a t : Nat) : uN (uN (cpL S a t 3) 13 t (mN S 13 a)) 14 t (mN S 14 a) = tmap S (cpG a t) := by
  apply mS_ext <;> intros <;> simp only [cpL, cpG, mK_uK, mN_uK, mB_uK, mI_uK, mK_uN, mN_uN, mB_uN, mI_uN, mK_uB, mN_uB, mB_uB, mI_uB, mK_uI, mN_uI, mB_uI, mI_uI, mK_sN, mN_sN, mB_sN, mI_sN, mK_sB, mN_sB, mB_sB, mI_sB, mK_sI, mN_sI, mB_sI, mI_sI, mK_tmap, mN_tmap, mB_tmap, mI_tmap] <;> grind
def cTest (S : mS) (attr value : Int32) : Nat := if (inR attr 0 2 && inR value 0 99) = true then (if mTests S = 8 then 2 else 0) else 1
def cAny (S : mS) : Nat := if mTests S = 8 then 1 else 0
def cSame (S : mS) (attr label : Int32) : Nat := if (inR attr 0 2 && inR label 0 2) = true then (if mTests S = 8 then 2 else 0) else 1
def canL (S : mS) : Bool := decide (0 < mK S 16) && mB S 9 (12 + mK S 16 - 1)
def cLabel (S : mS) (label : Int32) : Nat := if inR label 0 2 = true then (if canL S = true then 0 else 2) else 1
def canB (S : mS) : Bool := decide (1 < mK S 16) && (mB S 9 (12 + mK S 16 - 1) && mB S 9 (12 + mK S 16 - 2))
def cBoth (S : mS) : Nat := if canB S = true then 0 else 1
def cTwo (S : mS) : Nat := if mK S 16 < 2 then 1 else 0
def cKeep (S : mS) : Nat := if mK S 16 = 1 ∧ mK S 15 ≠ 12 then 0 else 1
def puW (S : mS) (p k : Nat) : mS := sB (uB (uN S 8 p 1) 9 p true) 10 (fun z => if 256 * p ≤ z ∧ z < 256 * p + k then decide (z - 256 * p = 1) else mB S 10 z)
def puV (S : mS) (p k : Nat) : mS := sN (sI (puW S p 256) 11 (fun x => if 24 * p ≤ x ∧ x < 24 * p + k then -1 else mI S 11 x)) 12 (fun x => if 48 * p ≤ x ∧ x < 48 * p + 2 * k then 0 else mN S 12 x)
def tPuts (S : mS) : mS := uK (uN (uN (puV S (12 + mK S 16) 3) 13 (8 * (12 + mK S 16)) 0) 14 (8 * (12 + mK S 16)) 0) 16 (mK S 16 + 1)
def tTest (S : mS) (attr value : Int32) (o : Bool) : mS :=
  if cTest S attr value = 0 then
    if o = true then uN (tPuts (uK S 0 0)) 12 (6 * (8 * (12 + mK S 16)) + 2 * tn attr + tn value / 50) (2 ^ (tn value % 50))
    else uI (tPuts (uK S 0 0)) 11 (3 * (8 * (12 + mK S 16)) + tn attr) value
  else uK S 0 (cTest S attr value)
def rPut (S : mS) (c : Nat) : Nat := if c = 0 then mK S 16 + 1 else 0
def tAny (S : mS) : mS := if cAny S = 0 then tPuts (uK S 0 0) else uK S 0 1
def tSame (S : mS) (attr label : Int32) : mS := if cSame S attr label = 0 then uN (tPuts (uK S 0 0)) 14 (8 * (12 + mK S 16)) (2 ^ (3 * tn label + tn attr)) else uK S 0 (cSame S attr label)
def tLabel (S : mS) (label : Int32) : mS := if cLabel S label = 0 then uN (uK S 0 0) 13 (8 * (12 + mK S 16 - 1)) (mN S 13 (8 * (12 + mK S 16 - 1)) ||| 2 ^ tn label) else uK S 0 (cLabel S label)
def vJoin (v w : Int32) : Int32 := if v = -1 then w else if w = -1 ∨ w = v then v else -2
def boL (S : mS) (a o k : Nat) : mS := sN (sI S 11 (fun x => if 3 * a ≤ x ∧ x < 3 * a + k then vJoin (mI S 11 x) (mI S 11 (3 * o + (x - 3 * a))) else mI S 11 x)) 12 (fun x => if 6 * a ≤ x ∧ x < 6 * a + 2 * k then mN S 12 x ||| mN S 12 (6 * o + (x - 6 * a)) else mN S 12 x)
def boE (S : mS) (a o : Nat) : mS := uN (uN (boL S a o 3) 13 a (mN S 13 a ||| mN S 13 o)) 14 a (mN S 14 a ||| mN S 14 o)
def tBoth (S : mS) : mS := if cBoth S = 0 then uK (boE (uK S 0 0) (8 * (12 + mK S 16 - 2)) (8 * (12 + mK S 16 - 1))) 16 (mK S 16 - 1) else uK S 0 1
def laG (b a k : Nat) : Nat → Nat := fun t => if b ≤ t ∧ t < b + k then a + (t - b) else t
theorem laG_succ (S : mS) {b a k : Nat} (h : a + k < b ∨ b ≤ a ∨ k = 0) : tmap (tmap S (laG b a k)) (cpG (a + k) (b + k)) = tmap S (laG b a (k + 1)) := by
  rw [tmap_tmap]
  apply tmap_congr
  intro t
  simp only [laG, cpG]
  grind
def tLays (S : mS) : mS := tmap S (laG (8 * (12 + mK S 16 - 2) + mN S 8 (12 + mK S 16 - 2)) (8 * (12 + mK S 16 - 2 + 1)) (mN S 8 (12 + mK S 16 - 2 + 1)))
def beL (S : mS) (p k : Nat) : mS := sB S 10 (fun z => if 256 * p ≤ z ∧ z < 256 * p + k then mB S 17 (z - 256 * p) else mB S 10 z)
def tBec (S : mS) (p m : Nat) : mS := uB (uN (beL S p 256) 8 p m) 9 p false
def cpP (S : mS) (a t k : Nat) : mS := sB (uB (uN S 8 t (mN S 8 a)) 9 t (mB S 9 a)) 10 (fun z => if 256 * t ≤ z ∧ z < 256 * t + k then mB S 10 (256 * a + (z - 256 * t)) else mB S 10 z)
def tPart (S : mS) (a t : Nat) : mS := tmap (cpP S a t 256) (laG (8 * t) (8 * a) 8)
def tKeep (S : mS) : mS := if cKeep S = 0 then uK (uK (tPart (uK S 0 0) 12 (mK S 15)) 16 0) 15 (mK S 15 + 1) else uK S 0 1
def rKeep (S : mS) : Nat := if cKeep S = 0 then mK S 15 else 0
/-- a row set place by place -/
theorem sB_step {S : mS} {k i : Nat} {f g : Nat → Bool} {v : Bool} (h : ∀ z, (if z = i then v else f z) = g z) : uB (sB S k f) k i v = sB S k g := by
  apply mS_ext
  · intro j; rfl
  · intro j z; rfl
  · intro j z
    rw [mB_uB, mB_sB, mB_sB, ← h]
    by_cases e : j = k
    · by_cases e2 : z = i
      · rw [if_pos ⟨e, e2⟩, if_pos e, if_pos e2]
      · rw [if_neg (fun q => e2 q.2), if_pos e, if_pos e, if_neg e2]
    · rw [if_neg (fun q => e q.1), if_neg e, if_neg e]
  · intro j z; rfl
theorem sB_init {S : mS} {k : Nat} {g : Nat → Bool} (h : ∀ z, mB S k z = g z) : S = sB S k g := by
  apply mS_ext
  · intro j; rfl
  · intro j z; rfl
  · intro j z
    rw [mB_sB, ← h]
    by_cases e : j = k
    · rw [if_pos e, e]
    · rw [if_neg e]
  · intro j z; rfl
theorem sN_step {S : mS} {k i : Nat} {f g : Nat → Nat} {v : Nat} (h : ∀ z, (if z = i then v else f z) = g z) : uN (sN S k f) k i v = sN S k g := by
  apply mS_ext
  · intro j; rfl
  · intro j z
    rw [mN_uN, mN_sN, mN_sN, ← h]
    by_cases e : j = k
    · by_cases e2 : z = i
      · rw [if_pos ⟨e, e2⟩, if_pos e, if_pos e2]
      · rw [if_neg (fun q => e2 q.2), if_pos e, if_pos e, if_neg e2]
    · rw [if_neg (fun q => e q.1), if_neg e, if_neg e]
  · intro j z; rfl
  · intro j z; rfl
theorem sN_init {S : mS} {k : Nat} {g : Nat → Nat} (h : ∀ z, mN S k z = g z) : S = sN S k g := by
  apply mS_ext
  · intro j; rfl
  · intro j z
    rw [mN_sN, ← h]
    by_cases e : j = k
    · rw [if_pos e, e]
    · rw [if_neg e]
  · intro j z; rfl
  · intro j z; rfl
theorem sI_step {S : mS} {k i : Nat} {f g : Nat → Int32} {v : Int32} (h : ∀ z, (if z = i then v else f z) = g z) : uI (sI S k f) k i v = sI S k g := by
  apply mS_ext
  · intro j; rfl
  · intro j z; rfl
  · intro j z; rfl
  · intro j z
    rw [mI_uI, mI_sI, mI_sI, ← h]
    by_cases e : j = k
    · by_cases e2 : z = i
      · rw [if_pos ⟨e, e2⟩, if_pos e, if_pos e2]
      · rw [if_neg (fun q => e2 q.2), if_pos e, if_pos e, if_neg e2]
    · rw [if_neg (fun q => e q.1), if_neg e, if_neg e]
theorem sI_init {S : mS} {k : Nat} {g : Nat → Int32} (h : ∀ z, mI S k z = g z) : S = sI S k g := by
  apply mS_ext
  · intro j; rfl
  · intro j z; rfl
  · intro j z; rfl
  · intro j z
    rw [mI_sI, ← h]
    by_cases e : j = k
    · rw [if_pos e, e]
    · rw [if_neg e]
theorem uN_sI {S : mS} {j i v k : Nat} {f : Nat → Int32} : uN (sI S k f) j i v = sI (uN S j i v) k f := rfl
theorem uI_sN {S : mS} {j i k : Nat} {v : Int32} {f : Nat → Nat} : uI (sN S k f) j i v = sN (uI S j i v) k f := rfl
theorem mInv_pair {S : mS} (I : mInv S) (h : 2 ≤ mK S 16) : mN S 8 (12 + mK S 16 - 2) + mN S 8 (12 + mK S 16 - 2 + 1) ≤ 8 := by
  have h1 : mTests S ≤ 8 := I.2.2.2.2.2.2.2.2.2.2.2.1
  obtain ⟨z, hz⟩ : ∃ z, mK S 16 = z + 1 + 1 := ⟨mK S 16 - 2, by omega⟩
  rw [mTests, hz, sumTo, sumTo] at h1
  rw [hz, show 12 + (z + 1 + 1) - 2 = 12 + z by omega]
  have e : 12 + (z + 1) = 12 + z + 1 := by omega
  rw [e] at h1
  omega

theorem cpL_rI {S : mS} {a t k : Nat} (hk : k < 3) : mI (cpL S a t k) 11 (3 * a + k) = mI S 11 (3 * a + k) := by
  unfold cpL
  rw [mI_sN, mI_sI, if_pos rfl]
  split
  · congr 1; omega
  · rfl
theorem cpL_rN {S : mS} {a t k : Nat} (hk : k < 3) : mN (cpL S a t k) 12 (6 * a + 2 * k) = mN S 12 (6 * a + 2 * k) := by
  unfold cpL
  rw [mN_sN, if_pos rfl]
  split
  · congr 1; omega
  · rfl
theorem cpL_rN2 {S : mS} {a t k : Nat} (hk : k < 3) : (if 12 = 12 ∧ 6 * a + 2 * k + 1 = 6 * t + 2 * k then mN S 12 (6 * a + 2 * k) else mN (cpL S a t k) 12 (6 * a + 2 * k + 1)) = mN S 12 (6 * a + 2 * k + 1) := by
  rw [if_neg (by omega)]
  unfold cpL
  rw [mN_sN, if_pos rfl]
  split
  · congr 1; omega
  · rfl
theorem cpL_step {S : mS} {a t k : Nat} (hk : k < 3) : uN (uN (uI (cpL S a t k) 11 (3 * t + k) (mI S 11 (3 * a + k))) 12 (6 * t + 2 * k) (mN S 12 (6 * a + 2 * k))) 12 (6 * t + 2 * k + 1) (mN S 12 (6 * a + 2 * k + 1)) = cpL S a t (k + 1) := by
  unfold cpL
  rw [uI_sN, sI_step (g := fun x => if 3 * t ≤ x ∧ x < 3 * t + (k + 1) then mI S 11 (3 * a + (x - 3 * t)) else mI S 11 x)]
  · rw [sN_step (g := fun x => if 6 * t ≤ x ∧ x < 6 * t + 2 * k + 1 then mN S 12 (6 * a + (x - 6 * t)) else mN S 12 x)]
    · rw [sN_step]
      intro z
      by_cases c : z = 6 * t + 2 * k + 1
      · rw [if_pos c, if_pos (by omega)]; congr 1; omega
      · rw [if_neg c]
        by_cases d : 6 * t ≤ z ∧ z < 6 * t + 2 * k + 1
        · rw [if_pos d, if_pos (by omega)]
        · rw [if_neg d, if_neg (by omega)]
    · intro z
      by_cases c : z = 6 * t + 2 * k
      · rw [if_pos c, if_pos (by omega)]; congr 1; omega
      · rw [if_neg c]
        by_cases d : 6 * t ≤ z ∧ z < 6 * t + 2 * k
        · rw [if_pos d, if_pos (by omega)]
        · rw [if_neg d, if_neg (by omega)]
  · intro z
    by_cases c : z = 3 * t + k
    · rw [if_pos c, if_pos (by omega)]; congr 1; omega
    · rw [if_neg c]
      by_cases d : 3 * t ≤ z ∧ z < 3 * t + k
      · rw [if_pos d, if_pos (by omega)]
      · rw [if_neg d, if_neg (by omega)]

def dl_X7_copiesTest : List (Nat × Instr × Nat) := [(0, .iconst 0, 1), (1, .istore_n 3, 1), (2, .iload_n 3, 1), (3, .iconst 3, 1), (4, .if_icmp .ge 85, 3), (7, .aload_n 0, 1), (8, .getfield 42, 3), (11, .iconst 3, 1), (12, .iload_n 2, 1), (13, .imul, 1), (14, .iload_n 3, 1), (15, .iadd, 1), (16, .aload_n 0, 1), (17, .getfield 42, 3), (20, .iconst 3, 1), (21, .iload_n 1, 1), (22, .imul, 1), (23, .iload_n 3, 1), (24, .iadd, 1), (25, .iaload, 1), (26, .iastore, 1), (27, .aload_n 0, 1), (28, .getfield 45, 3), (31, .bipush 6, 2), (33, .iload_n 2, 1), (34, .imul, 1), (35, .iconst 2, 1), (36, .iload_n 3, 1), (37, .imul, 1), (38, .iadd, 1), (39, .aload_n 0, 1), (40, .getfield 45, 3), (43, .bipush 6, 2), (45, .iload_n 1, 1), (46, .imul, 1), (47, .iconst 2, 1), (48, .iload_n 3, 1), (49, .imul, 1), (50, .iadd, 1), (51, .laload, 1), (52, .lastore, 1), (53, .aload_n 0, 1), (54, .getfield 45, 3), (57, .bipush 6, 2), (59, .iload_n 2, 1), (60, .imul, 1), (61, .iconst 2, 1), (62, .iload_n 3, 1), (63, .imul, 1), (64, .iadd, 1), (65, .iconst 1, 1), (66, .iadd, 1), (67, .aload_n 0, 1), (68, .getfield 45, 3), (71, .bipush 6, 2), (73, .iload_n 1, 1), (74, .imul, 1), (75, .iconst 2, 1), (76, .iload_n 3, 1), (77, .imul, 1), (78, .iadd, 1), (79, .iconst 1, 1), (80, .iadd, 1), (81, .laload, 1), (82, .lastore, 1), (83, .iinc 3 1, 3), (86, .goto (-84), 3), (89, .aload_n 0, 1), (90, .getfield 48, 3), (93, .iload_n 2, 1), (94, .aload_n 0, 1), (95, .getfield 48, 3), (98, .iload_n 1, 1), (99, .iaload, 1), (100, .iastore, 1), (101, .aload_n 0, 1), (102, .getfield 51, 3), (105, .iload_n 2, 1), (106, .aload_n 0, 1), (107, .getfield 51, 3), (110, .iload_n 1, 1), (111, .iaload, 1), (112, .iastore, 1), (113, .return_, 1)]
theorem dc_X7_copiesTest : dnL cX7_copiesTest dl_X7_copiesTest = true := by decide +kernel
theorem d_X7_copiesTest_0 : dn cX7_copiesTest 0 (.iconst 0) 1 1 := dnAt dc_X7_copiesTest 0 rfl rfl
theorem d_X7_copiesTest_1 : dn cX7_copiesTest 1 (.istore_n 3) 1 2 := dnAt dc_X7_copiesTest 1 rfl rfl
theorem d_X7_copiesTest_2 : dn cX7_copiesTest 2 (.iload_n 3) 1 3 := dnAt dc_X7_copiesTest 2 rfl rfl
theorem d_X7_copiesTest_3 : dn cX7_copiesTest 3 (.iconst 3) 1 4 := dnAt dc_X7_copiesTest 3 rfl rfl
theorem d_X7_copiesTest_4 : dn cX7_copiesTest 4 (.if_icmp .ge 85) 3 7 := dnAt dc_X7_copiesTest 4 rfl rfl
theorem d_X7_copiesTest_7 : dn cX7_copiesTest 7 (.aload_n 0) 1 8 := dnAt dc_X7_copiesTest 5 rfl rfl
theorem d_X7_copiesTest_8 : dn cX7_copiesTest 8 (.getfield 42) 3 11 := dnAt dc_X7_copiesTest 6 rfl rfl
theorem d_X7_copiesTest_11 : dn cX7_copiesTest 11 (.iconst 3) 1 12 := dnAt dc_X7_copiesTest 7 rfl rfl
theorem d_X7_copiesTest_12 : dn cX7_copiesTest 12 (.iload_n 2) 1 13 := dnAt dc_X7_copiesTest 8 rfl rfl
theorem d_X7_copiesTest_13 : dn cX7_copiesTest 13 (.imul) 1 14 := dnAt dc_X7_copiesTest 9 rfl rfl
theorem d_X7_copiesTest_14 : dn cX7_copiesTest 14 (.iload_n 3) 1 15 := dnAt dc_X7_copiesTest 10 rfl rfl
theorem d_X7_copiesTest_15 : dn cX7_copiesTest 15 (.iadd) 1 16 := dnAt dc_X7_copiesTest 11 rfl rfl
theorem d_X7_copiesTest_16 : dn cX7_copiesTest 16 (.aload_n 0) 1 17 := dnAt dc_X7_copiesTest 12 rfl rfl
theorem d_X7_copiesTest_17 : dn cX7_copiesTest 17 (.getfield 42) 3 20 := dnAt dc_X7_copiesTest 13 rfl rfl
theorem d_X7_copiesTest_20 : dn cX7_copiesTest 20 (.iconst 3) 1 21 := dnAt dc_X7_copiesTest 14 rfl rfl
theorem d_X7_copiesTest_21 : dn cX7_copiesTest 21 (.iload_n 1) 1 22 := dnAt dc_X7_copiesTest 15 rfl rfl
theorem d_X7_copiesTest_22 : dn cX7_copiesTest 22 (.imul) 1 23 := dnAt dc_X7_copiesTest 16 rfl rfl
theorem d_X7_copiesTest_23 : dn cX7_copiesTest 23 (.iload_n 3) 1 24 := dnAt dc_X7_copiesTest 17 rfl rfl
theorem d_X7_copiesTest_24 : dn cX7_copiesTest 24 (.iadd) 1 25 := dnAt dc_X7_copiesTest 18 rfl rfl
theorem d_X7_copiesTest_25 : dn cX7_copiesTest 25 (.iaload) 1 26 := dnAt dc_X7_copiesTest 19 rfl rfl
theorem d_X7_copiesTest_26 : dn cX7_copiesTest 26 (.iastore) 1 27 := dnAt dc_X7_copiesTest 20 rfl rfl
theorem d_X7_copiesTest_27 : dn cX7_copiesTest 27 (.aload_n 0) 1 28 := dnAt dc_X7_copiesTest 21 rfl rfl
theorem d_X7_copiesTest_28 : dn cX7_copiesTest 28 (.getfield 45) 3 31 := dnAt dc_X7_copiesTest 22 rfl rfl
theorem d_X7_copiesTest_31 : dn cX7_copiesTest 31 (.bipush 6) 2 33 := dnAt dc_X7_copiesTest 23 rfl rfl
theorem d_X7_copiesTest_33 : dn cX7_copiesTest 33 (.iload_n 2) 1 34 := dnAt dc_X7_copiesTest 24 rfl rfl
theorem d_X7_copiesTest_34 : dn cX7_copiesTest 34 (.imul) 1 35 := dnAt dc_X7_copiesTest 25 rfl rfl
theorem d_X7_copiesTest_35 : dn cX7_copiesTest 35 (.iconst 2) 1 36 := dnAt dc_X7_copiesTest 26 rfl rfl
theorem d_X7_copiesTest_36 : dn cX7_copiesTest 36 (.iload_n 3) 1 37 := dnAt dc_X7_copiesTest 27 rfl rfl
theorem d_X7_copiesTest_37 : dn cX7_copiesTest 37 (.imul) 1 38 := dnAt dc_X7_copiesTest 28 rfl rfl
theorem d_X7_copiesTest_38 : dn cX7_copiesTest 38 (.iadd) 1 39 := dnAt dc_X7_copiesTest 29 rfl rfl
theorem d_X7_copiesTest_39 : dn cX7_copiesTest 39 (.aload_n 0) 1 40 := dnAt dc_X7_copiesTest 30 rfl rfl
theorem d_X7_copiesTest_40 : dn cX7_copiesTest 40 (.getfield 45) 3 43 := dnAt dc_X7_copiesTest 31 rfl rfl
theorem d_X7_copiesTest_43 : dn cX7_copiesTest 43 (.bipush 6) 2 45 := dnAt dc_X7_copiesTest 32 rfl rfl
theorem d_X7_copiesTest_45 : dn cX7_copiesTest 45 (.iload_n 1) 1 46 := dnAt dc_X7_copiesTest 33 rfl rfl
theorem d_X7_copiesTest_46 : dn cX7_copiesTest 46 (.imul) 1 47 := dnAt dc_X7_copiesTest 34 rfl rfl
theorem d_X7_copiesTest_47 : dn cX7_copiesTest 47 (.iconst 2) 1 48 := dnAt dc_X7_copiesTest 35 rfl rfl
theorem d_X7_copiesTest_48 : dn cX7_copiesTest 48 (.iload_n 3) 1 49 := dnAt dc_X7_copiesTest 36 rfl rfl
theorem d_X7_copiesTest_49 : dn cX7_copiesTest 49 (.imul) 1 50 := dnAt dc_X7_copiesTest 37 rfl rfl
theorem d_X7_copiesTest_50 : dn cX7_copiesTest 50 (.iadd) 1 51 := dnAt dc_X7_copiesTest 38 rfl rfl
theorem d_X7_copiesTest_51 : dn cX7_copiesTest 51 (.laload) 1 52 := dnAt dc_X7_copiesTest 39 rfl rfl
theorem d_X7_copiesTest_52 : dn cX7_copiesTest 52 (.lastore) 1 53 := dnAt dc_X7_copiesTest 40 rfl rfl
theorem d_X7_copiesTest_53 : dn cX7_copiesTest 53 (.aload_n 0) 1 54 := dnAt dc_X7_copiesTest 41 rfl rfl
theorem d_X7_copiesTest_54 : dn cX7_copiesTest 54 (.getfield 45) 3 57 := dnAt dc_X7_copiesTest 42 rfl rfl
theorem d_X7_copiesTest_57 : dn cX7_copiesTest 57 (.bipush 6) 2 59 := dnAt dc_X7_copiesTest 43 rfl rfl
theorem d_X7_copiesTest_59 : dn cX7_copiesTest 59 (.iload_n 2) 1 60 := dnAt dc_X7_copiesTest 44 rfl rfl
theorem d_X7_copiesTest_60 : dn cX7_copiesTest 60 (.imul) 1 61 := dnAt dc_X7_copiesTest 45 rfl rfl
theorem d_X7_copiesTest_61 : dn cX7_copiesTest 61 (.iconst 2) 1 62 := dnAt dc_X7_copiesTest 46 rfl rfl
theorem d_X7_copiesTest_62 : dn cX7_copiesTest 62 (.iload_n 3) 1 63 := dnAt dc_X7_copiesTest 47 rfl rfl
theorem d_X7_copiesTest_63 : dn cX7_copiesTest 63 (.imul) 1 64 := dnAt dc_X7_copiesTest 48 rfl rfl
theorem d_X7_copiesTest_64 : dn cX7_copiesTest 64 (.iadd) 1 65 := dnAt dc_X7_copiesTest 49 rfl rfl
theorem d_X7_copiesTest_65 : dn cX7_copiesTest 65 (.iconst 1) 1 66 := dnAt dc_X7_copiesTest 50 rfl rfl
theorem d_X7_copiesTest_66 : dn cX7_copiesTest 66 (.iadd) 1 67 := dnAt dc_X7_copiesTest 51 rfl rfl
theorem d_X7_copiesTest_67 : dn cX7_copiesTest 67 (.aload_n 0) 1 68 := dnAt dc_X7_copiesTest 52 rfl rfl
theorem d_X7_copiesTest_68 : dn cX7_copiesTest 68 (.getfield 45) 3 71 := dnAt dc_X7_copiesTest 53 rfl rfl
theorem d_X7_copiesTest_71 : dn cX7_copiesTest 71 (.bipush 6) 2 73 := dnAt dc_X7_copiesTest 54 rfl rfl
theorem d_X7_copiesTest_73 : dn cX7_copiesTest 73 (.iload_n 1) 1 74 := dnAt dc_X7_copiesTest 55 rfl rfl
theorem d_X7_copiesTest_74 : dn cX7_copiesTest 74 (.imul) 1 75 := dnAt dc_X7_copiesTest 56 rfl rfl
theorem d_X7_copiesTest_75 : dn cX7_copiesTest 75 (.iconst 2) 1 76 := dnAt dc_X7_copiesTest 57 rfl rfl
theorem d_X7_copiesTest_76 : dn cX7_copiesTest 76 (.iload_n 3) 1 77 := dnAt dc_X7_copiesTest 58 rfl rfl
theorem d_X7_copiesTest_77 : dn cX7_copiesTest 77 (.imul) 1 78 := dnAt dc_X7_copiesTest 59 rfl rfl
theorem d_X7_copiesTest_78 : dn cX7_copiesTest 78 (.iadd) 1 79 := dnAt dc_X7_copiesTest 60 rfl rfl
theorem d_X7_copiesTest_79 : dn cX7_copiesTest 79 (.iconst 1) 1 80 := dnAt dc_X7_copiesTest 61 rfl rfl
theorem d_X7_copiesTest_80 : dn cX7_copiesTest 80 (.iadd) 1 81 := dnAt dc_X7_copiesTest 62 rfl rfl
theorem d_X7_copiesTest_81 : dn cX7_copiesTest 81 (.laload) 1 82 := dnAt dc_X7_copiesTest 63 rfl rfl
theorem d_X7_copiesTest_82 : dn cX7_copiesTest 82 (.lastore) 1 83 := dnAt dc_X7_copiesTest 64 rfl rfl
theorem d_X7_copiesTest_83 : dn cX7_copiesTest 83 (.iinc 3 1) 3 86 := dnAt dc_X7_copiesTest 65 rfl rfl
theorem d_X7_copiesTest_86 : dn cX7_copiesTest 86 (.goto (-84)) 3 89 := dnAt dc_X7_copiesTest 66 rfl rfl
theorem d_X7_copiesTest_89 : dn cX7_copiesTest 89 (.aload_n 0) 1 90 := dnAt dc_X7_copiesTest 67 rfl rfl
theorem d_X7_copiesTest_90 : dn cX7_copiesTest 90 (.getfield 48) 3 93 := dnAt dc_X7_copiesTest 68 rfl rfl
theorem d_X7_copiesTest_93 : dn cX7_copiesTest 93 (.iload_n 2) 1 94 := dnAt dc_X7_copiesTest 69 rfl rfl
theorem d_X7_copiesTest_94 : dn cX7_copiesTest 94 (.aload_n 0) 1 95 := dnAt dc_X7_copiesTest 70 rfl rfl
theorem d_X7_copiesTest_95 : dn cX7_copiesTest 95 (.getfield 48) 3 98 := dnAt dc_X7_copiesTest 71 rfl rfl
theorem d_X7_copiesTest_98 : dn cX7_copiesTest 98 (.iload_n 1) 1 99 := dnAt dc_X7_copiesTest 72 rfl rfl
theorem d_X7_copiesTest_99 : dn cX7_copiesTest 99 (.iaload) 1 100 := dnAt dc_X7_copiesTest 73 rfl rfl
theorem d_X7_copiesTest_100 : dn cX7_copiesTest 100 (.iastore) 1 101 := dnAt dc_X7_copiesTest 74 rfl rfl
theorem d_X7_copiesTest_101 : dn cX7_copiesTest 101 (.aload_n 0) 1 102 := dnAt dc_X7_copiesTest 75 rfl rfl
theorem d_X7_copiesTest_102 : dn cX7_copiesTest 102 (.getfield 51) 3 105 := dnAt dc_X7_copiesTest 76 rfl rfl
theorem d_X7_copiesTest_105 : dn cX7_copiesTest 105 (.iload_n 2) 1 106 := dnAt dc_X7_copiesTest 77 rfl rfl
theorem d_X7_copiesTest_106 : dn cX7_copiesTest 106 (.aload_n 0) 1 107 := dnAt dc_X7_copiesTest 78 rfl rfl
theorem d_X7_copiesTest_107 : dn cX7_copiesTest 107 (.getfield 51) 3 110 := dnAt dc_X7_copiesTest 79 rfl rfl
theorem d_X7_copiesTest_110 : dn cX7_copiesTest 110 (.iload_n 1) 1 111 := dnAt dc_X7_copiesTest 80 rfl rfl
theorem d_X7_copiesTest_111 : dn cX7_copiesTest 111 (.iaload) 1 112 := dnAt dc_X7_copiesTest 81 rfl rfl
theorem d_X7_copiesTest_112 : dn cX7_copiesTest 112 (.iastore) 1 113 := dnAt dc_X7_copiesTest 82 rfl rfl
theorem d_X7_copiesTest_113 : dn cX7_copiesTest 113 (.return_) 1 114 := dnAt dc_X7_copiesTest 83 rfl rfl
set_option maxHeartbeats 4000000 in
set_option maxRecDepth 100000 in
theorem m_copiesTest (S : mS) (a t : Nat) (ha : a < 168) (ht : t < 168) : mC yX7_copiesTest cX7_copiesTest 4 (Option.none : Option Jvm.ClassFile.FieldType) { frames := 0, cells := 0, slots := 0, locals := 0 } [.int (nI a), .int (nI t)] S (fun v9 T9 => v9 = none ∧ T9 = tmap S (cpG a t)) := by
  refine mC.of (by decide) (Nat.le_of_ble_eq_true rfl) ?_
  intro G x q h0 C A TY
  show VM G x q h0 S 0 [(0, .ref (q 0)), (1, .int (nI a)), (2, .int (nI t))] []
  refine m_iconst C d_X7_copiesTest_0 (v := (nI 0)) rfl ?_
  refine m_istore_n C d_X7_copiesTest_1 (lv' := [(3, .int (nI 0)), (0, .ref (q 0)), (1, .int (nI a)), (2, .int (nI t))]) (by decide) rfl ?_
  have loop_2 : ∀ (fuel : Nat) (k : Nat), (k ≤ 3) → (4 - k) < fuel → VM G x q h0 (cpL S a t k) 2 [(0, .ref (q 0)), (1, .int (nI a)), (2, .int (nI t)), (3, .int (nI k))] [] := by
    intro fuel
    induction fuel with
    | zero => intro k hk hf9; exact absurd hf9 (Nat.not_lt_zero _)
    | succ fuel ih_2 =>
      intro k hk hf9
      refine m_iload_n C d_X7_copiesTest_2 3 rfl ?_
      refine m_iconst C d_X7_copiesTest_3 (v := (nI 3)) rfl ?_
      refine mn_icmp_ge C d_X7_copiesTest_4 (tgt := 89) rfl (by omega) (by omega) (fun c_4 => ?_) (fun c_4 => ?_)
      · skip
        obtain rfl : k = 3 := by omega
        refine m_aload_n C d_X7_copiesTest_89 0 rfl ?_
        refine m_get C d_X7_copiesTest_90 fd_RX7_48 (v := .ref (q 13)) rfl ?_
        refine m_iload_n C d_X7_copiesTest_93 2 rfl ?_
        refine m_aload_n C d_X7_copiesTest_94 0 rfl ?_
        refine m_get C d_X7_copiesTest_95 fd_RX7_48 (v := .ref (q 13)) rfl ?_
        refine m_iload_n C d_X7_copiesTest_98 1 rfl ?_
        refine m_ald C d_X7_copiesTest_99 (k := 13) (by decide) rfl (by show _ < 168; omega) (by decide) ?_
        refine m_st (st' := [.int (nI (mN S 13 a)), .int (nI t), .ref (q 13)]) rfl ?_
        refine m_ast C d_X7_copiesTest_100 (k := 13) (v := mN S 13 a) (by decide) rfl (by show _ < 168; omega) (by decide) ?_
        refine m_aload_n C d_X7_copiesTest_101 0 rfl ?_
        refine m_get C d_X7_copiesTest_102 fd_RX7_51 (v := .ref (q 14)) rfl ?_
        refine m_iload_n C d_X7_copiesTest_105 2 rfl ?_
        refine m_aload_n C d_X7_copiesTest_106 0 rfl ?_
        refine m_get C d_X7_copiesTest_107 fd_RX7_51 (v := .ref (q 14)) rfl ?_
        refine m_iload_n C d_X7_copiesTest_110 1 rfl ?_
        refine m_ald C d_X7_copiesTest_111 (k := 14) (by decide) rfl (by show _ < 168; omega) (by decide) ?_
        refine m_st (st' := [.int (nI (mN S 14 a)), .int (nI t), .ref (q 14)]) rfl ?_
        refine m_ast C d_X7_copiesTest_112 (k := 14) (v := mN S 14 a) (by decide) rfl (by show _ < 168; omega) (by decide) ?_
        exact m_vret C A TY d_X7_copiesTest_113 (⟨rfl, cpL_end S a t⟩)
      · skip
        refine m_aload_n C d_X7_copiesTest_7 0 rfl ?_
        refine m_get C d_X7_copiesTest_8 fd_RX7_42 (v := .ref (q 11)) rfl ?_
        refine m_iconst C d_X7_copiesTest_11 (v := (nI 3)) rfl ?_
        refine m_iload_n C d_X7_copiesTest_12 2 rfl ?_
        refine mn_imul C d_X7_copiesTest_13 ?_
        refine m_iload_n C d_X7_copiesTest_14 3 rfl ?_
        refine mn_iadd C d_X7_copiesTest_15 ?_
        refine m_aload_n C d_X7_copiesTest_16 0 rfl ?_
        refine m_get C d_X7_copiesTest_17 fd_RX7_42 (v := .ref (q 11)) rfl ?_
        refine m_iconst C d_X7_copiesTest_20 (v := (nI 3)) rfl ?_
        refine m_iload_n C d_X7_copiesTest_21 1 rfl ?_
        refine mn_imul C d_X7_copiesTest_22 ?_
        refine m_iload_n C d_X7_copiesTest_23 3 rfl ?_
        refine mn_iadd C d_X7_copiesTest_24 ?_
        refine m_aldI C d_X7_copiesTest_25 (k := 11) (by decide) rfl (by show _ < 504; omega) (by decide) ?_
        refine m_st (st' := [.int (mI S 11 (3 * a + k)), .int (nI ((3 * t) + k)), .ref (q 11)]) (by rw [cpL_rI (by omega)]) ?_
        refine m_astI C d_X7_copiesTest_26 (k := 11) (v := mI S 11 (3 * a + k)) (by decide) rfl (by show _ < 504; omega) (by decide) ?_
        refine m_aload_n C d_X7_copiesTest_27 0 rfl ?_
        refine m_get C d_X7_copiesTest_28 fd_RX7_45 (v := .ref (q 12)) rfl ?_
        refine m_bipush C d_X7_copiesTest_31 (v := (nI 6)) rfl ?_
        refine m_iload_n C d_X7_copiesTest_33 2 rfl ?_
        refine mn_imul C d_X7_copiesTest_34 ?_
        refine m_iconst C d_X7_copiesTest_35 (v := (nI 2)) rfl ?_
        refine m_iload_n C d_X7_copiesTest_36 3 rfl ?_
        refine mn_imul C d_X7_copiesTest_37 ?_
        refine mn_iadd C d_X7_copiesTest_38 ?_
        refine m_aload_n C d_X7_copiesTest_39 0 rfl ?_
        refine m_get C d_X7_copiesTest_40 fd_RX7_45 (v := .ref (q 12)) rfl ?_
        refine m_bipush C d_X7_copiesTest_43 (v := (nI 6)) rfl ?_
        refine m_iload_n C d_X7_copiesTest_45 1 rfl ?_
        refine mn_imul C d_X7_copiesTest_46 ?_
        refine m_iconst C d_X7_copiesTest_47 (v := (nI 2)) rfl ?_
        refine m_iload_n C d_X7_copiesTest_48 3 rfl ?_
        refine mn_imul C d_X7_copiesTest_49 ?_
        refine mn_iadd C d_X7_copiesTest_50 ?_
        refine m_lld C d_X7_copiesTest_51 (k := 12) (by decide) rfl (by show _ < 1008; omega) (by decide) ?_
        refine m_st (st' := [.long (lN (mN (cpL S a t k) 12 ((6 * a) + (2 * k)))), .int (nI ((6 * t) + (2 * k))), .ref (q 12)]) rfl ?_
        refine m_st (st' := [.long (lN (mN S 12 (6 * a + 2 * k))), .int (nI ((6 * t) + (2 * k))), .ref (q 12)]) (by rw [cpL_rN (by omega)]) ?_
        refine m_lst C d_X7_copiesTest_52 (k := 12) (v := mN S 12 (6 * a + 2 * k)) (by decide) rfl (by show _ < 1008; omega) (by decide) ?_
        refine m_aload_n C d_X7_copiesTest_53 0 rfl ?_
        refine m_get C d_X7_copiesTest_54 fd_RX7_45 (v := .ref (q 12)) rfl ?_
        refine m_bipush C d_X7_copiesTest_57 (v := (nI 6)) rfl ?_
        refine m_iload_n C d_X7_copiesTest_59 2 rfl ?_
        refine mn_imul C d_X7_copiesTest_60 ?_
        refine m_iconst C d_X7_copiesTest_61 (v := (nI 2)) rfl ?_
        refine m_iload_n C d_X7_copiesTest_62 3 rfl ?_
        refine mn_imul C d_X7_copiesTest_63 ?_
        refine mn_iadd C d_X7_copiesTest_64 ?_
        refine m_iconst C d_X7_copiesTest_65 (v := (nI 1)) rfl ?_
        refine mn_iadd C d_X7_copiesTest_66 ?_
        refine m_aload_n C d_X7_copiesTest_67 0 rfl ?_
        refine m_get C d_X7_copiesTest_68 fd_RX7_45 (v := .ref (q 12)) rfl ?_
        refine m_bipush C d_X7_copiesTest_71 (v := (nI 6)) rfl ?_
        refine m_iload_n C d_X7_copiesTest_73 1 rfl ?_
        refine mn_imul C d_X7_copiesTest_74 ?_
        refine m_iconst C d_X7_copiesTest_75 (v := (nI 2)) rfl ?_
        refine m_iload_n C d_X7_copiesTest_76 3 rfl ?_
        refine mn_imul C d_X7_copiesTest_77 ?_
        refine mn_iadd C d_X7_copiesTest_78 ?_
        refine m_iconst C d_X7_copiesTest_79 (v := (nI 1)) rfl ?_
        refine mn_iadd C d_X7_copiesTest_80 ?_
        refine m_lld C d_X7_copiesTest_81 (k := 12) (by decide) rfl (by show _ < 1008; omega) (by decide) ?_
        refine m_st (st' := [.long (lN (mN S 12 (6 * a + 2 * k + 1))), .int (nI (((6 * t) + (2 * k)) + 1)), .ref (q 12)]) (by rw [mN_uN, mN_uI, cpL_rN2 (by omega)]) ?_
        refine m_lst C d_X7_copiesTest_82 (k := 12) (v := mN S 12 (6 * a + 2 * k + 1)) (by decide) rfl (by show _ < 1008; omega) (by decide) ?_
        refine mn_iinc C d_X7_copiesTest_83 (lv' := [(3, .int (nI (k + 1))), (0, .ref (q 0)), (1, .int (nI a)), (2, .int (nI t))]) 3 rfl (nI_inc _ rfl) (by decide) rfl ?_
        refine m_goto C d_X7_copiesTest_86 (tgt := 2) rfl ?_
        refine m_eq (S' := cpL S a t (k + 1)) (cpL_step (by omega)) ?_
        refine m_lv (lv' := [(0, .ref (q 0)), (1, .int (nI a)), (2, .int (nI t)), (3, .int (nI (k + 1)))]) [1, 2, 3, 0] rfl ?_
        exact ih_2 (k + 1) (by omega) (by omega)
  refine m_eq (S' := cpL S a t 0) (cpL_0 S a t) ?_
  refine m_lv (lv' := [(0, .ref (q 0)), (1, .int (nI a)), (2, .int (nI t)), (3, .int (nI 0))]) [1, 2, 3, 0] rfl ?_
  exact loop_2 _ 0 (by omega) (Nat.lt_succ_self _)
theorem puW_step {S : mS} {p k : Nat} : uB (puW S p k) 10 (256 * p + k) (decide (k = 1)) = puW S p (k + 1) := by
  unfold puW
  rw [sB_step]
  intro z
  by_cases c : z = 256 * p + k
  · rw [if_pos c, if_pos (by omega)]
    exact decide_eq_decide.mpr (by omega)
  · rw [if_neg c]
    by_cases d : 256 * p ≤ z ∧ z < 256 * p + k
    · rw [if_pos d, if_pos (by omega)]
    · rw [if_neg d, if_neg (by omega)]
theorem puW_0 {S : mS} {p : Nat} : uB (uN S 8 p 1) 9 p true = puW S p 0 := by
  unfold puW
  apply sB_init
  intro z
  rw [if_neg (by omega)]; rfl
theorem puV_0 {S : mS} {p : Nat} : puW S p 256 = puV S p 0 := by
  unfold puV
  rw [← sI_init (S := puW S p 256)]
  · apply sN_init
    intro z
    rw [if_neg (by omega)]; rfl
  · intro z
    rw [if_neg (by omega)]; rfl
theorem puV_step {S : mS} {p k : Nat} : uN (uN (uI (puV S p k) 11 (3 * (8 * p) + k) (-1)) 12 (6 * (8 * p) + 2 * k) 0) 12 (6 * (8 * p) + 2 * k + 1) 0 = puV S p (k + 1) := by
  unfold puV
  rw [uI_sN, sI_step (g := fun x => if 24 * p ≤ x ∧ x < 24 * p + (k + 1) then -1 else mI S 11 x)]
  · rw [sN_step (g := fun x => if 48 * p ≤ x ∧ x < 48 * p + 2 * k + 1 then 0 else mN S 12 x)]
    · rw [sN_step]
      intro z
      by_cases c : z = 6 * (8 * p) + 2 * k + 1
      · rw [if_pos c, if_pos (by omega)]
      · rw [if_neg c]
        by_cases d : 48 * p ≤ z ∧ z < 48 * p + 2 * k + 1
        · rw [if_pos d, if_pos (by omega)]
        · rw [if_neg d, if_neg (by omega)]
    · intro z
      by_cases c : z = 6 * (8 * p) + 2 * k
      · rw [if_pos c, if_pos (by omega)]
      · rw [if_neg c]
        by_cases d : 48 * p ≤ z ∧ z < 48 * p + 2 * k
        · rw [if_pos d, if_pos (by omega)]
        · rw [if_neg d, if_neg (by omega)]
  · intro z
    by_cases c : z = 3 * (8 * p) + k
    · rw [if_pos c, if_pos (by omega)]
    · rw [if_neg c]
      by_cases d : 24 * p ≤ z ∧ z < 24 * p + k
      · rw [if_pos d, if_pos (by omega)]
      · rw [if_neg d, if_neg (by omega)]

def dl_X7_puts : List (Nat × Instr × Nat) := [(0, .bipush 12, 2), (2, .aload_n 0, 1), (3, .getfield 98, 3), (6, .iadd, 1), (7, .istore_n 1, 1), (8, .aload_n 0, 1), (9, .getfield 33, 3), (12, .iload_n 1, 1), (13, .iconst 1, 1), (14, .iastore, 1), (15, .aload_n 0, 1), (16, .getfield 36, 3), (19, .iload_n 1, 1), (20, .iconst 1, 1), (21, .bastore, 1), (22, .iconst 0, 1), (23, .istore_n 2, 1), (24, .iload_n 2, 1), (25, .sipush 256, 3), (28, .if_icmp .ge 31, 3), (31, .aload_n 0, 1), (32, .getfield 39, 3), (35, .sipush 256, 3), (38, .iload_n 1, 1), (39, .imul, 1), (40, .iload_n 2, 1), (41, .iadd, 1), (42, .iload_n 2, 1), (43, .iconst 1, 1), (44, .if_icmp .ne 7, 3), (47, .iconst 1, 1), (48, .goto 4, 3), (51, .iconst 0, 1), (52, .bastore, 1), (53, .iinc 2 1, 3), (56, .goto (-32), 3), (59, .bipush 8, 2), (61, .iload_n 1, 1), (62, .imul, 1), (63, .istore_n 2, 1), (64, .iconst 0, 1), (65, .istore_n 3, 1), (66, .iload_n 3, 1), (67, .iconst 3, 1), (68, .if_icmp .ge 50, 3), (71, .aload_n 0, 1), (72, .getfield 42, 3), (75, .iconst 3, 1), (76, .iload_n 2, 1), (77, .imul, 1), (78, .iload_n 3, 1), (79, .iadd, 1), (80, .iconst (-1), 1), (81, .iastore, 1), (82, .aload_n 0, 1), (83, .getfield 45, 3), (86, .bipush 6, 2), (88, .iload_n 2, 1), (89, .imul, 1), (90, .iconst 2, 1), (91, .iload_n 3, 1), (92, .imul, 1), (93, .iadd, 1), (94, .lconst 0, 1), (95, .lastore, 1), (96, .aload_n 0, 1), (97, .getfield 45, 3), (100, .bipush 6, 2), (102, .iload_n 2, 1), (103, .imul, 1), (104, .iconst 2, 1), (105, .iload_n 3, 1), (106, .imul, 1), (107, .iadd, 1), (108, .iconst 1, 1), (109, .iadd, 1), (110, .lconst 0, 1), (111, .lastore, 1), (112, .iinc 3 1, 3), (115, .goto (-49), 3), (118, .aload_n 0, 1), (119, .getfield 48, 3), (122, .iload_n 2, 1), (123, .iconst 0, 1), (124, .iastore, 1), (125, .aload_n 0, 1), (126, .getfield 51, 3), (129, .iload_n 2, 1), (130, .iconst 0, 1), (131, .iastore, 1), (132, .aload_n 0, 1), (133, .dup, 1), (134, .getfield 98, 3), (137, .iconst 1, 1), (138, .iadd, 1), (139, .putfield 98, 3), (142, .iload_n 2, 1), (143, .ireturn, 1)]
theorem dc_X7_puts : dnL cX7_puts dl_X7_puts = true := by decide +kernel
theorem d_X7_puts_0 : dn cX7_puts 0 (.bipush 12) 2 2 := dnAt dc_X7_puts 0 rfl rfl
theorem d_X7_puts_2 : dn cX7_puts 2 (.aload_n 0) 1 3 := dnAt dc_X7_puts 1 rfl rfl
theorem d_X7_puts_3 : dn cX7_puts 3 (.getfield 98) 3 6 := dnAt dc_X7_puts 2 rfl rfl
theorem d_X7_puts_6 : dn cX7_puts 6 (.iadd) 1 7 := dnAt dc_X7_puts 3 rfl rfl
theorem d_X7_puts_7 : dn cX7_puts 7 (.istore_n 1) 1 8 := dnAt dc_X7_puts 4 rfl rfl
theorem d_X7_puts_8 : dn cX7_puts 8 (.aload_n 0) 1 9 := dnAt dc_X7_puts 5 rfl rfl
theorem d_X7_puts_9 : dn cX7_puts 9 (.getfield 33) 3 12 := dnAt dc_X7_puts 6 rfl rfl
theorem d_X7_puts_12 : dn cX7_puts 12 (.iload_n 1) 1 13 := dnAt dc_X7_puts 7 rfl rfl
theorem d_X7_puts_13 : dn cX7_puts 13 (.iconst 1) 1 14 := dnAt dc_X7_puts 8 rfl rfl
theorem d_X7_puts_14 : dn cX7_puts 14 (.iastore) 1 15 := dnAt dc_X7_puts 9 rfl rfl
theorem d_X7_puts_15 : dn cX7_puts 15 (.aload_n 0) 1 16 := dnAt dc_X7_puts 10 rfl rfl
theorem d_X7_puts_16 : dn cX7_puts 16 (.getfield 36) 3 19 := dnAt dc_X7_puts 11 rfl rfl
theorem d_X7_puts_19 : dn cX7_puts 19 (.iload_n 1) 1 20 := dnAt dc_X7_puts 12 rfl rfl
theorem d_X7_puts_20 : dn cX7_puts 20 (.iconst 1) 1 21 := dnAt dc_X7_puts 13 rfl rfl
theorem d_X7_puts_21 : dn cX7_puts 21 (.bastore) 1 22 := dnAt dc_X7_puts 14 rfl rfl
theorem d_X7_puts_22 : dn cX7_puts 22 (.iconst 0) 1 23 := dnAt dc_X7_puts 15 rfl rfl
theorem d_X7_puts_23 : dn cX7_puts 23 (.istore_n 2) 1 24 := dnAt dc_X7_puts 16 rfl rfl
theorem d_X7_puts_24 : dn cX7_puts 24 (.iload_n 2) 1 25 := dnAt dc_X7_puts 17 rfl rfl
theorem d_X7_puts_25 : dn cX7_puts 25 (.sipush 256) 3 28 := dnAt dc_X7_puts 18 rfl rfl
theorem d_X7_puts_28 : dn cX7_puts 28 (.if_icmp .ge 31) 3 31 := dnAt dc_X7_puts 19 rfl rfl
theorem d_X7_puts_31 : dn cX7_puts 31 (.aload_n 0) 1 32 := dnAt dc_X7_puts 20 rfl rfl
theorem d_X7_puts_32 : dn cX7_puts 32 (.getfield 39) 3 35 := dnAt dc_X7_puts 21 rfl rfl
theorem d_X7_puts_35 : dn cX7_puts 35 (.sipush 256) 3 38 := dnAt dc_X7_puts 22 rfl rfl
theorem d_X7_puts_38 : dn cX7_puts 38 (.iload_n 1) 1 39 := dnAt dc_X7_puts 23 rfl rfl
theorem d_X7_puts_39 : dn cX7_puts 39 (.imul) 1 40 := dnAt dc_X7_puts 24 rfl rfl
theorem d_X7_puts_40 : dn cX7_puts 40 (.iload_n 2) 1 41 := dnAt dc_X7_puts 25 rfl rfl
theorem d_X7_puts_41 : dn cX7_puts 41 (.iadd) 1 42 := dnAt dc_X7_puts 26 rfl rfl
theorem d_X7_puts_42 : dn cX7_puts 42 (.iload_n 2) 1 43 := dnAt dc_X7_puts 27 rfl rfl
theorem d_X7_puts_43 : dn cX7_puts 43 (.iconst 1) 1 44 := dnAt dc_X7_puts 28 rfl rfl
theorem d_X7_puts_44 : dn cX7_puts 44 (.if_icmp .ne 7) 3 47 := dnAt dc_X7_puts 29 rfl rfl
theorem d_X7_puts_47 : dn cX7_puts 47 (.iconst 1) 1 48 := dnAt dc_X7_puts 30 rfl rfl
theorem d_X7_puts_48 : dn cX7_puts 48 (.goto 4) 3 51 := dnAt dc_X7_puts 31 rfl rfl
theorem d_X7_puts_51 : dn cX7_puts 51 (.iconst 0) 1 52 := dnAt dc_X7_puts 32 rfl rfl
theorem d_X7_puts_52 : dn cX7_puts 52 (.bastore) 1 53 := dnAt dc_X7_puts 33 rfl rfl
theorem d_X7_puts_53 : dn cX7_puts 53 (.iinc 2 1) 3 56 := dnAt dc_X7_puts 34 rfl rfl
theorem d_X7_puts_56 : dn cX7_puts 56 (.goto (-32)) 3 59 := dnAt dc_X7_puts 35 rfl rfl
theorem d_X7_puts_59 : dn cX7_puts 59 (.bipush 8) 2 61 := dnAt dc_X7_puts 36 rfl rfl
theorem d_X7_puts_61 : dn cX7_puts 61 (.iload_n 1) 1 62 := dnAt dc_X7_puts 37 rfl rfl
theorem d_X7_puts_62 : dn cX7_puts 62 (.imul) 1 63 := dnAt dc_X7_puts 38 rfl rfl
theorem d_X7_puts_63 : dn cX7_puts 63 (.istore_n 2) 1 64 := dnAt dc_X7_puts 39 rfl rfl
theorem d_X7_puts_64 : dn cX7_puts 64 (.iconst 0) 1 65 := dnAt dc_X7_puts 40 rfl rfl
theorem d_X7_puts_65 : dn cX7_puts 65 (.istore_n 3) 1 66 := dnAt dc_X7_puts 41 rfl rfl
theorem d_X7_puts_66 : dn cX7_puts 66 (.iload_n 3) 1 67 := dnAt dc_X7_puts 42 rfl rfl
theorem d_X7_puts_67 : dn cX7_puts 67 (.iconst 3) 1 68 := dnAt dc_X7_puts 43 rfl rfl
theorem d_X7_puts_68 : dn cX7_puts 68 (.if_icmp .ge 50) 3 71 := dnAt dc_X7_puts 44 rfl rfl
theorem d_X7_puts_71 : dn cX7_puts 71 (.aload_n 0) 1 72 := dnAt dc_X7_puts 45 rfl rfl
theorem d_X7_puts_72 : dn cX7_puts 72 (.getfield 42) 3 75 := dnAt dc_X7_puts 46 rfl rfl
theorem d_X7_puts_75 : dn cX7_puts 75 (.iconst 3) 1 76 := dnAt dc_X7_puts 47 rfl rfl
theorem d_X7_puts_76 : dn cX7_puts 76 (.iload_n 2) 1 77 := dnAt dc_X7_puts 48 rfl rfl
theorem d_X7_puts_77 : dn cX7_puts 77 (.imul) 1 78 := dnAt dc_X7_puts 49 rfl rfl
theorem d_X7_puts_78 : dn cX7_puts 78 (.iload_n 3) 1 79 := dnAt dc_X7_puts 50 rfl rfl
theorem d_X7_puts_79 : dn cX7_puts 79 (.iadd) 1 80 := dnAt dc_X7_puts 51 rfl rfl
theorem d_X7_puts_80 : dn cX7_puts 80 (.iconst (-1)) 1 81 := dnAt dc_X7_puts 52 rfl rfl
theorem d_X7_puts_81 : dn cX7_puts 81 (.iastore) 1 82 := dnAt dc_X7_puts 53 rfl rfl
theorem d_X7_puts_82 : dn cX7_puts 82 (.aload_n 0) 1 83 := dnAt dc_X7_puts 54 rfl rfl
theorem d_X7_puts_83 : dn cX7_puts 83 (.getfield 45) 3 86 := dnAt dc_X7_puts 55 rfl rfl
theorem d_X7_puts_86 : dn cX7_puts 86 (.bipush 6) 2 88 := dnAt dc_X7_puts 56 rfl rfl
theorem d_X7_puts_88 : dn cX7_puts 88 (.iload_n 2) 1 89 := dnAt dc_X7_puts 57 rfl rfl
theorem d_X7_puts_89 : dn cX7_puts 89 (.imul) 1 90 := dnAt dc_X7_puts 58 rfl rfl
theorem d_X7_puts_90 : dn cX7_puts 90 (.iconst 2) 1 91 := dnAt dc_X7_puts 59 rfl rfl
theorem d_X7_puts_91 : dn cX7_puts 91 (.iload_n 3) 1 92 := dnAt dc_X7_puts 60 rfl rfl
theorem d_X7_puts_92 : dn cX7_puts 92 (.imul) 1 93 := dnAt dc_X7_puts 61 rfl rfl
theorem d_X7_puts_93 : dn cX7_puts 93 (.iadd) 1 94 := dnAt dc_X7_puts 62 rfl rfl
theorem d_X7_puts_94 : dn cX7_puts 94 (.lconst 0) 1 95 := dnAt dc_X7_puts 63 rfl rfl
theorem d_X7_puts_95 : dn cX7_puts 95 (.lastore) 1 96 := dnAt dc_X7_puts 64 rfl rfl
theorem d_X7_puts_96 : dn cX7_puts 96 (.aload_n 0) 1 97 := dnAt dc_X7_puts 65 rfl rfl
theorem d_X7_puts_97 : dn cX7_puts 97 (.getfield 45) 3 100 := dnAt dc_X7_puts 66 rfl rfl
theorem d_X7_puts_100 : dn cX7_puts 100 (.bipush 6) 2 102 := dnAt dc_X7_puts 67 rfl rfl
theorem d_X7_puts_102 : dn cX7_puts 102 (.iload_n 2) 1 103 := dnAt dc_X7_puts 68 rfl rfl
theorem d_X7_puts_103 : dn cX7_puts 103 (.imul) 1 104 := dnAt dc_X7_puts 69 rfl rfl
theorem d_X7_puts_104 : dn cX7_puts 104 (.iconst 2) 1 105 := dnAt dc_X7_puts 70 rfl rfl
theorem d_X7_puts_105 : dn cX7_puts 105 (.iload_n 3) 1 106 := dnAt dc_X7_puts 71 rfl rfl
theorem d_X7_puts_106 : dn cX7_puts 106 (.imul) 1 107 := dnAt dc_X7_puts 72 rfl rfl
theorem d_X7_puts_107 : dn cX7_puts 107 (.iadd) 1 108 := dnAt dc_X7_puts 73 rfl rfl
theorem d_X7_puts_108 : dn cX7_puts 108 (.iconst 1) 1 109 := dnAt dc_X7_puts 74 rfl rfl
theorem d_X7_puts_109 : dn cX7_puts 109 (.iadd) 1 110 := dnAt dc_X7_puts 75 rfl rfl
theorem d_X7_puts_110 : dn cX7_puts 110 (.lconst 0) 1 111 := dnAt dc_X7_puts 76 rfl rfl
theorem d_X7_puts_111 : dn cX7_puts 111 (.lastore) 1 112 := dnAt dc_X7_puts 77 rfl rfl
theorem d_X7_puts_112 : dn cX7_puts 112 (.iinc 3 1) 3 115 := dnAt dc_X7_puts 78 rfl rfl
theorem d_X7_puts_115 : dn cX7_puts 115 (.goto (-49)) 3 118 := dnAt dc_X7_puts 79 rfl rfl
theorem d_X7_puts_118 : dn cX7_puts 118 (.aload_n 0) 1 119 := dnAt dc_X7_puts 80 rfl rfl
theorem d_X7_puts_119 : dn cX7_puts 119 (.getfield 48) 3 122 := dnAt dc_X7_puts 81 rfl rfl
theorem d_X7_puts_122 : dn cX7_puts 122 (.iload_n 2) 1 123 := dnAt dc_X7_puts 82 rfl rfl
theorem d_X7_puts_123 : dn cX7_puts 123 (.iconst 0) 1 124 := dnAt dc_X7_puts 83 rfl rfl
theorem d_X7_puts_124 : dn cX7_puts 124 (.iastore) 1 125 := dnAt dc_X7_puts 84 rfl rfl
theorem d_X7_puts_125 : dn cX7_puts 125 (.aload_n 0) 1 126 := dnAt dc_X7_puts 85 rfl rfl
theorem d_X7_puts_126 : dn cX7_puts 126 (.getfield 51) 3 129 := dnAt dc_X7_puts 86 rfl rfl
theorem d_X7_puts_129 : dn cX7_puts 129 (.iload_n 2) 1 130 := dnAt dc_X7_puts 87 rfl rfl
theorem d_X7_puts_130 : dn cX7_puts 130 (.iconst 0) 1 131 := dnAt dc_X7_puts 88 rfl rfl
theorem d_X7_puts_131 : dn cX7_puts 131 (.iastore) 1 132 := dnAt dc_X7_puts 89 rfl rfl
theorem d_X7_puts_132 : dn cX7_puts 132 (.aload_n 0) 1 133 := dnAt dc_X7_puts 90 rfl rfl
theorem d_X7_puts_133 : dn cX7_puts 133 (.dup) 1 134 := dnAt dc_X7_puts 91 rfl rfl
theorem d_X7_puts_134 : dn cX7_puts 134 (.getfield 98) 3 137 := dnAt dc_X7_puts 92 rfl rfl
theorem d_X7_puts_137 : dn cX7_puts 137 (.iconst 1) 1 138 := dnAt dc_X7_puts 93 rfl rfl
theorem d_X7_puts_138 : dn cX7_puts 138 (.iadd) 1 139 := dnAt dc_X7_puts 94 rfl rfl
theorem d_X7_puts_139 : dn cX7_puts 139 (.putfield 98) 3 142 := dnAt dc_X7_puts 95 rfl rfl
theorem d_X7_puts_142 : dn cX7_puts 142 (.iload_n 2) 1 143 := dnAt dc_X7_puts 96 rfl rfl
theorem d_X7_puts_143 : dn cX7_puts 143 (.ireturn) 1 144 := dnAt dc_X7_puts 97 rfl rfl
set_option maxHeartbeats 4000000 in
set_option maxRecDepth 100000 in
theorem m_puts (S : mS) (hp : mK S 16 ≤ 8) : mC yX7_puts cX7_puts 4 (Option.some Jvm.ClassFile.FieldType.int) { frames := 0, cells := 0, slots := 0, locals := 0 } [] S (fun v9 T9 => v9 = (some (.int (nI (8 * (12 + mK S 16))))) ∧ T9 = tPuts S) := by
  refine mC.of (by decide) (Nat.le_of_ble_eq_true rfl) ?_
  intro G x q h0 C A TY
  show VM G x q h0 S 0 [(0, .ref (q 0))] []
  refine m_bipush C d_X7_puts_0 (v := (nI 12)) rfl ?_
  refine m_aload_n C d_X7_puts_2 0 rfl ?_
  refine m_get C d_X7_puts_3 fd_RX7_98 (v := .int (nI (mK S 16))) rfl ?_
  refine mn_iadd C d_X7_puts_6 ?_
  refine m_istore_n C d_X7_puts_7 (lv' := [(1, .int (nI (12 + (mK S 16)))), (0, .ref (q 0))]) (by decide) rfl ?_
  refine m_aload_n C d_X7_puts_8 1 rfl ?_
  refine m_get C d_X7_puts_9 fd_RX7_33 (v := .ref (q 8)) rfl ?_
  refine m_iload_n C d_X7_puts_12 0 rfl ?_
  refine m_iconst C d_X7_puts_13 (v := (nI 1)) rfl ?_
  refine m_ast C d_X7_puts_14 (k := 8) (v := 1) (by decide) rfl (by show _ < 21; omega) (by decide) ?_
  refine m_aload_n C d_X7_puts_15 1 rfl ?_
  refine m_get C d_X7_puts_16 fd_RX7_36 (v := .ref (q 9)) rfl ?_
  refine m_iload_n C d_X7_puts_19 0 rfl ?_
  refine m_iconst C d_X7_puts_20 (v := (bI true)) rfl ?_
  refine m_zst C d_X7_puts_21 (k := 9) (v := true) (by decide) rfl (by show _ < 21; omega) (by decide) ?_
  refine m_iconst C d_X7_puts_22 (v := (nI 0)) rfl ?_
  refine m_istore_n C d_X7_puts_23 (lv' := [(2, .int (nI 0)), (1, .int (nI (12 + (mK S 16)))), (0, .ref (q 0))]) (by decide) rfl ?_
  have loop_24 : ∀ (fuel : Nat) (k : Nat), (k ≤ 256) → (257 - k) < fuel → VM G x q h0 (puW S (12 + mK S 16) k) 24 [(0, .ref (q 0)), (1, .int (nI (12 + mK S 16))), (2, .int (nI k))] [] := by
    intro fuel
    induction fuel with
    | zero => intro k hk hf9; exact absurd hf9 (Nat.not_lt_zero _)
    | succ fuel ih_24 =>
      intro k hk hf9
      refine m_iload_n C d_X7_puts_24 2 rfl ?_
      refine m_sipush C d_X7_puts_25 (v := (nI 256)) rfl ?_
      refine mn_icmp_ge C d_X7_puts_28 (tgt := 59) rfl (by omega) (by omega) (fun c_28 => ?_) (fun c_28 => ?_)
      · skip
        obtain rfl : k = 256 := by omega
        refine m_bipush C d_X7_puts_59 (v := (nI 8)) rfl ?_
        refine m_iload_n C d_X7_puts_61 1 rfl ?_
        refine mn_imul C d_X7_puts_62 ?_
        refine m_istore_n C d_X7_puts_63 (lv' := [(2, .int (nI (8 * (12 + mK S 16)))), (0, .ref (q 0)), (1, .int (nI (12 + mK S 16)))]) (by decide) rfl ?_
        refine m_iconst C d_X7_puts_64 (v := (nI 0)) rfl ?_
        refine m_istore_n C d_X7_puts_65 (lv' := [(3, .int (nI 0)), (2, .int (nI (8 * (12 + mK S 16)))), (0, .ref (q 0)), (1, .int (nI (12 + mK S 16)))]) (by decide) rfl ?_
        have loop_66 : ∀ (fuel : Nat) (k : Nat), (k ≤ 3) → (4 - k) < fuel → VM G x q h0 (puV S (12 + mK S 16) k) 66 [(0, .ref (q 0)), (1, .int (nI (12 + mK S 16))), (2, .int (nI (8 * (12 + mK S 16)))), (3, .int (nI k))] [] := by
          intro fuel
          induction fuel with
          | zero => intro k hk2 hf9; exact absurd hf9 (Nat.not_lt_zero _)
          | succ fuel ih_66 =>
            intro k hk2 hf9
            refine m_iload_n C d_X7_puts_66 3 rfl ?_
            refine m_iconst C d_X7_puts_67 (v := (nI 3)) rfl ?_
            refine mn_icmp_ge C d_X7_puts_68 (tgt := 118) rfl (by omega) (by omega) (fun c_68 => ?_) (fun c_68 => ?_)
            · skip
              obtain rfl : k = 3 := by omega
              refine m_aload_n C d_X7_puts_118 0 rfl ?_
              refine m_get C d_X7_puts_119 fd_RX7_48 (v := .ref (q 13)) rfl ?_
              refine m_iload_n C d_X7_puts_122 2 rfl ?_
              refine m_iconst C d_X7_puts_123 (v := (nI 0)) rfl ?_
              refine m_ast C d_X7_puts_124 (k := 13) (v := 0) (by decide) rfl (by show _ < 168; omega) (by decide) ?_
              refine m_aload_n C d_X7_puts_125 0 rfl ?_
              refine m_get C d_X7_puts_126 fd_RX7_51 (v := .ref (q 14)) rfl ?_
              refine m_iload_n C d_X7_puts_129 2 rfl ?_
              refine m_iconst C d_X7_puts_130 (v := (nI 0)) rfl ?_
              refine m_ast C d_X7_puts_131 (k := 14) (v := 0) (by decide) rfl (by show _ < 168; omega) (by decide) ?_
              refine m_aload_n C d_X7_puts_132 0 rfl ?_
              refine m_dup C d_X7_puts_133 rfl ?_
              refine m_get C d_X7_puts_134 fd_RX7_98 (v := .int (nI (mK (uN (uN (puV S (12 + mK S 16) 3) 13 (8 * (12 + mK S 16)) 0) 14 (8 * (12 + mK S 16)) 0) 16))) rfl ?_
              refine m_st (st' := [.int (nI (mK S 16)), .ref (q 0)]) rfl ?_
              refine m_iconst C d_X7_puts_137 (v := (nI 1)) rfl ?_
              refine mn_iadd C d_X7_puts_138 ?_
              refine m_putK C d_X7_puts_139 pf_RX7_98 (by decide) (fun _ _ => rfl) ?_
              refine m_iload_n C d_X7_puts_142 2 rfl ?_
              exact m_iret C A TY d_X7_puts_143 rfl (⟨rfl, rfl⟩)
            · skip
              refine m_aload_n C d_X7_puts_71 0 rfl ?_
              refine m_get C d_X7_puts_72 fd_RX7_42 (v := .ref (q 11)) rfl ?_
              refine m_iconst C d_X7_puts_75 (v := (nI 3)) rfl ?_
              refine m_iload_n C d_X7_puts_76 2 rfl ?_
              refine mn_imul C d_X7_puts_77 ?_
              refine m_iload_n C d_X7_puts_78 3 rfl ?_
              refine mn_iadd C d_X7_puts_79 ?_
              refine m_iconst C d_X7_puts_80 (v := ((-1))) rfl ?_
              refine m_astI C d_X7_puts_81 (k := 11) (v := (-1)) (by decide) rfl (by show _ < 504; omega) (by decide) ?_
              refine m_aload_n C d_X7_puts_82 0 rfl ?_
              refine m_get C d_X7_puts_83 fd_RX7_45 (v := .ref (q 12)) rfl ?_
              refine m_bipush C d_X7_puts_86 (v := (nI 6)) rfl ?_
              refine m_iload_n C d_X7_puts_88 2 rfl ?_
              refine mn_imul C d_X7_puts_89 ?_
              refine m_iconst C d_X7_puts_90 (v := (nI 2)) rfl ?_
              refine m_iload_n C d_X7_puts_91 3 rfl ?_
              refine mn_imul C d_X7_puts_92 ?_
              refine mn_iadd C d_X7_puts_93 ?_
              refine m_lconst C d_X7_puts_94 (v := (lN 0)) rfl ?_
              refine m_lst C d_X7_puts_95 (k := 12) (v := 0) (by decide) rfl (by show _ < 1008; omega) (by decide) ?_
              refine m_aload_n C d_X7_puts_96 0 rfl ?_
              refine m_get C d_X7_puts_97 fd_RX7_45 (v := .ref (q 12)) rfl ?_
              refine m_bipush C d_X7_puts_100 (v := (nI 6)) rfl ?_
              refine m_iload_n C d_X7_puts_102 2 rfl ?_
              refine mn_imul C d_X7_puts_103 ?_
              refine m_iconst C d_X7_puts_104 (v := (nI 2)) rfl ?_
              refine m_iload_n C d_X7_puts_105 3 rfl ?_
              refine mn_imul C d_X7_puts_106 ?_
              refine mn_iadd C d_X7_puts_107 ?_
              refine m_iconst C d_X7_puts_108 (v := (nI 1)) rfl ?_
              refine mn_iadd C d_X7_puts_109 ?_
              refine m_lconst C d_X7_puts_110 (v := (lN 0)) rfl ?_
              refine m_lst C d_X7_puts_111 (k := 12) (v := 0) (by decide) rfl (by show _ < 1008; omega) (by decide) ?_
              refine mn_iinc C d_X7_puts_112 (lv' := [(3, .int (nI (k + 1))), (0, .ref (q 0)), (1, .int (nI (12 + mK S 16))), (2, .int (nI (8 * (12 + mK S 16))))]) 3 rfl (nI_inc _ rfl) (by decide) rfl ?_
              refine m_goto C d_X7_puts_115 (tgt := 66) rfl ?_
              refine m_eq (S' := puV S (12 + mK S 16) (k + 1)) (puV_step) ?_
              refine m_lv (lv' := [(0, .ref (q 0)), (1, .int (nI (12 + mK S 16))), (2, .int (nI (8 * (12 + mK S 16)))), (3, .int (nI (k + 1)))]) [1, 2, 3, 0] rfl ?_
              exact ih_66 (k + 1) (by omega) (by omega)
        refine m_eq (S' := puV S (12 + mK S 16) 0) (puV_0) ?_
        refine m_lv (lv' := [(0, .ref (q 0)), (1, .int (nI (12 + mK S 16))), (2, .int (nI (8 * (12 + mK S 16)))), (3, .int (nI 0))]) [2, 3, 1, 0] rfl ?_
        exact loop_66 _ 0 (by omega) (Nat.lt_succ_self _)
      · skip
        refine m_aload_n C d_X7_puts_31 0 rfl ?_
        refine m_get C d_X7_puts_32 fd_RX7_39 (v := .ref (q 10)) rfl ?_
        refine m_sipush C d_X7_puts_35 (v := (nI 256)) rfl ?_
        refine m_iload_n C d_X7_puts_38 1 rfl ?_
        refine mn_imul C d_X7_puts_39 ?_
        refine m_iload_n C d_X7_puts_40 2 rfl ?_
        refine mn_iadd C d_X7_puts_41 ?_
        have join_52 : VM G x q h0 (puW S (12 + mK S 16) k) 52 [(0, .ref (q 0)), (1, .int (nI (12 + mK S 16))), (2, .int (nI k))] [.int (bI (decide (k = 1))), .int (nI (256 * (12 + mK S 16) + k)), .ref (q 10)] := by
          refine m_zst C d_X7_puts_52 (k := 10) (v := decide (k = 1)) (by decide) rfl (by show _ < 5376; omega) (by decide) ?_
          refine mn_iinc C d_X7_puts_53 (lv' := [(2, .int (nI (k + 1))), (0, .ref (q 0)), (1, .int (nI (12 + mK S 16)))]) 2 rfl (nI_inc _ rfl) (by decide) rfl ?_
          refine m_goto C d_X7_puts_56 (tgt := 24) rfl ?_
          refine m_eq (S' := puW S (12 + mK S 16) (k + 1)) (puW_step) ?_
          refine m_lv (lv' := [(0, .ref (q 0)), (1, .int (nI (12 + mK S 16))), (2, .int (nI (k + 1)))]) [1, 2, 0] rfl ?_
          exact ih_24 (k + 1) (by omega) (by omega)
        refine m_iload_n C d_X7_puts_42 2 rfl ?_
        refine m_iconst C d_X7_puts_43 (v := (nI 1)) rfl ?_
        refine mn_icmp_ne C d_X7_puts_44 (tgt := 51) rfl (by omega) (by omega) (fun c_44 => ?_) (fun c_44 => ?_)
        · skip
          refine m_iconst C d_X7_puts_51 (v := (bI false)) rfl ?_
          refine m_st (st' := [.int (bI (decide (k = 1))), .int (nI (256 * (12 + mK S 16) + k)), .ref (q 10)]) (by first | rw [decide_eq_true c_44] | rw [decide_eq_false c_44]) ?_
          exact join_52  
        · skip
          refine m_iconst C d_X7_puts_47 (v := (bI true)) rfl ?_
          refine m_goto C d_X7_puts_48 (tgt := 52) rfl ?_
          refine m_st (st' := [.int (bI (decide (k = 1))), .int (nI (256 * (12 + mK S 16) + k)), .ref (q 10)]) (by first | rw [decide_eq_true c_44] | rw [decide_eq_false c_44]) ?_
          exact join_52  
  refine m_eq (S' := puW S (12 + mK S 16) 0) (puW_0) ?_
  refine m_lv (lv' := [(0, .ref (q 0)), (1, .int (nI (12 + (mK S 16)))), (2, .int (nI 0))]) [2, 1, 0] rfl ?_
  refine m_lve (lv' := [(0, .ref (q 0)), (1, .int (nI (12 + mK S 16))), (2, .int (nI 0))]) (rfl) ?_
  exact loop_24 _ 0 (by omega) (Nat.lt_succ_self _)
