/-- the tests' rows read through a map of tests -/
def tmap (S : mS) (g : Nat → Nat) : mS := (S.1, (fun k x => if k = 12 then mN S 12 (6 * g (x / 6) + x % 6) else if k = 13 then mN S 13 (g x) else if k = 14 then mN S 14 (g x) else S.2.1 k x), S.2.2.1, fun k x => if k = 11 then mI S 11 (3 * g (x / 3) + x % 3) else S.2.2.2 k x)
theorem mK_tmap (S : mS) (g : Nat → Nat) (j : Nat) : mK (tmap S g) j = mK S j := rfl
theorem mB_tmap (S : mS) (g : Nat → Nat) (j b : Nat) : mB (tmap S g) j b = mB S j b := rfl
theorem mN_tmap (S : mS) (g : Nat → Nat) (j x : Nat) : mN (tmap S g) j x = if j = 12 then mN S 12 (6 * g (x / 6) + x % 6) else if j = 13 then mN S 13 (g x) else if j = 14 then mN S 14 (g x) else mN S j x := rfl
theorem mI_tmap (S : mS) (g : Nat → Nat) (j x : Nat) : mI (tmap S g) j x = if j = 11 then mI S 11 (3 * g (x / 3) + x % 3) else mI S j x := rfl
theorem tmap_tmap (S : mS) (g g' : Nat → Nat) : tmap (tmap S g) g' = tmap S (fun t => g (g' t)) := by
  apply mS_ext
  · intro k; rfl
  · intro k x
    rw [mN_tmap (tmap S g) g' k x, mN_tmap S (fun t => g (g' t)) k x]
    by_cases h1 : k = 12
    · rw [if_pos h1, if_pos h1, mN_tmap, if_pos rfl, show (6 * g' (x / 6) + x % 6) / 6 = g' (x / 6) by omega, show (6 * g' (x / 6) + x % 6) % 6 = x % 6 by omega]
    · rw [if_neg h1, if_neg h1]
      by_cases h2 : k = 13
      · rw [if_pos h2, if_pos h2, mN_tmap, if_neg (by decide), if_pos rfl]
      · rw [if_neg h2, if_neg h2]
        by_cases h3 : k = 14
        · rw [if_pos h3, if_pos h3, mN_tmap, if_neg (by decide), if_neg (by decide), if_pos rfl]
        · rw [if_neg h3, if_neg h3, mN_tmap, if_neg h1, if_neg h2, if_neg h3]
  · intro k x; rfl
  · intro k x
    rw [mI_tmap (tmap S g) g' k x, mI_tmap S (fun t => g (g' t)) k x]
    by_cases h1 : k = 11
    · rw [if_pos h1, if_pos h1, mI_tmap, if_pos rfl, show (3 * g' (x / 3) + x % 3) / 3 = g' (x / 3) by omega, show (3 * g' (x / 3) + x % 3) % 3 = x % 3 by omega]
    · rw [if_neg h1, if_neg h1, mI_tmap, if_neg h1]
theorem tmap_congr {S : mS} {g g' : Nat → Nat} (h : ∀ t, g t = g' t) : tmap S g = tmap S g' := by rw [funext h]
theorem tmap_id (S : mS) {g : Nat → Nat} (h : ∀ t, g t = t) : S = tmap S g := by
  apply mS_ext
  · intro k; rfl
  · intro k x
    rw [mN_tmap, h, h, Nat.div_add_mod]
    split
    · rename_i e; rw [e]
    · split
      · rename_i e; rw [e]
      · split
        · rename_i e; rw [e]
        · rfl
  · intro k x; rfl
  · intro k x
    rw [mI_tmap, h, Nat.div_add_mod]
    split
    · rename_i e; rw [e]
    · rfl
def cpL (S : mS) (a t k : Nat) : mS := sN (sI S 11 (fun x => if 3 * t ≤ x ∧ x < 3 * t + k then mI S 11 (3 * a + (x - 3 * t)) else mI S 11 x)) 12 (fun x => if 6 * t ≤ x ∧ x < 6 * t + 2 * k then mN S 12 (6 * a + (x - 6 * t)) else mN S 12 x)
def cpG (a t : Nat) : Nat → Nat := fun z => if z = t then a else z
theorem cpL_0 (S : mS) (a t : Nat) : S = cpL S a t 0 := by
  unfold cpL
  apply mS_ext
  · intro k; rfl
  · intro k x
    rw [mN_sN]
    split
    · rename_i e; rw [if_neg (by omega), e]
    · rfl
  · intro k x; rfl
  · intro k x
    rw [mI_sN, mI_sI]
    split
    · rename_i e; rw [if_neg (by omega), e]
    · rfl
theorem cpL_end (S : mS) (a t : Nat) : uN (uN (cpL S a t 3) 13 t (mN S 13 a)) 14 t (mN S 14 a) = tmap S (cpG a t) := by
  apply mS_ext <;> intros <;> simp only [cpL, cpG, mK_uK, mN_uK, mB_uK, mI_uK, mK_uN, mN_uN, mB_uN, mI_uN, mK_uB, mN_uB, mB_uB, mI_uB, mK_uI, mN_uI, mB_uI, mI_uI, mK_sN, mN_sN, mB_sN, mI_sN, mK_sB, mN_sB, mB_sB, mI_sB, mK_sI, mN_sI, mB_sI, mI_sI, mK_tmap, mN_tmap, mB_tmap, mI_tmap] <;> grind
def cTest (S : mS) (attr value : Int32) : Nat := if (inR attr 0 2 && inR value 0 99) = true then (if mTests S = 8 then 2 else 0) else 1
def cAny (S : mS) : Nat := if mTests S = 8 then 1 else 0
def cSame (S : mS) (attr label : Int32) : Nat := if (inR attr 0 2 && inR label 0 2) = true then (if mTests S = 8 then 2 else 0) else 1
def canL (S : mS) : Bool := decide (0 < mK S 16) && mB S 9 (12 + mK S 16 - 1)
def cLabel (S : mS) (label : Int32) : Nat := if inR label 0 2 = true then (if canL S = true then 0 else 2) else 1
def canB (S : mS) : Bool := decide (1 < mK S 16) && (mB S 9 (12 + mK S 16 - 1) && mB S 9 (12 + mK S 16 - 2))
def cBoth (S : mS) : Nat := if canB S = true then 0 else 1
def cTwo (S : mS) : Nat := if mK S 16 < 2 then 1 else 0
def cKeep (S : mS) : Nat := if mK S 16 = 1 ∧ mK S 15 ≠ 12 then 0 else 1
def puW (S : mS) (p k : Nat) : mS := sB (uB (uN S 8 p 1) 9 p true) 10 (fun z => if 256 * p ≤ z ∧ z < 256 * p + k then decide (z - 256 * p = 1) else mB S 10 z)
def puV (S : mS) (p k : Nat) : mS := sN (sI (puW S p 256) 11 (fun x => if 24 * p ≤ x ∧ x < 24 * p + k then -1 else mI S 11 x)) 12 (fun x => if 48 * p ≤ x ∧ x < 48 * p + 2 * k then 0 else mN S 12 x)
def tPuts (S : mS) : mS := uK (uN (uN (puV S (12 + mK S 16) 3) 13 (8 * (12 + mK S 16)) 0) 14 (8 * (12 + mK S 16)) 0) 16 (mK S 16 + 1)
def tTest (S : mS) (attr value : Int32) (o : Bool) : mS :=
  if cTest S attr value = 0 then
    if o = true then uN (tPuts (uK S 0 0)) 12 (6 * (8 * (12 + mK S 16)) + 2 * tn attr + tn value / 50) (2 ^ (tn value % 50))
    else uI (tPuts (uK S 0 0)) 11 (3 * (8 * (12 + mK S 16)) + tn attr) value
  else uK S 0 (cTest S attr value)
def rPut (S : mS) (c : Nat) : Nat := if c = 0 then mK S 16 + 1 else 0
def tAny (S : mS) : mS := if cAny S = 0 then tPuts (uK S 0 0) else uK S 0 1
def tSame (S : mS) (attr label : Int32) : mS := if cSame S attr label = 0 then uN (tPuts (uK S 0 0)) 14 (8 * (12 + mK S 16)) (2 ^ (3 * tn label + tn attr)) else uK S 0 (cSame S attr label)
def tLabel (S : mS) (label : Int32) : mS := if cLabel S label = 0 then uN (uK S 0 0) 13 (8 * (12 + mK S 16 - 1)) (mN S 13 (8 * (12 + mK S 16 - 1)) ||| 2 ^ tn label) else uK S 0 (cLabel S label)
def vJoin (v w : Int32) : Int32 := if v = -1 then w else if w = -1 ∨ w = v then v else -2
def boL (S : mS) (a o k : Nat) : mS := sN (sI S 11 (fun x => if 3 * a ≤ x ∧ x < 3 * a + k then vJoin (mI S 11 x) (mI S 11 (3 * o + (x - 3 * a))) else mI S 11 x)) 12 (fun x => if 6 * a ≤ x ∧ x < 6 * a + 2 * k then mN S 12 x ||| mN S 12 (6 * o + (x - 6 * a)) else mN S 12 x)
def boE (S : mS) (a o : Nat) : mS := uN (uN (boL S a o 3) 13 a (mN S 13 a ||| mN S 13 o)) 14 a (mN S 14 a ||| mN S 14 o)
def tBoth (S : mS) : mS := if cBoth S = 0 then uK (boE (uK S 0 0) (8 * (12 + mK S 16 - 2)) (8 * (12 + mK S 16 - 1))) 16 (mK S 16 - 1) else uK S 0 1
def laG (b a k : Nat) : Nat → Nat := fun t => if b ≤ t ∧ t < b + k then a + (t - b) else t
theorem laG_succ (S : mS) {b a k : Nat} (h : a + k < b ∨ b ≤ a ∨ k = 0) : tmap (tmap S (laG b a k)) (cpG (a + k) (b + k)) = tmap S (laG b a (k + 1)) := by
  rw [tmap_tmap]
  apply tmap_congr
  intro t
  simp only [laG, cpG]
  grind
def tLays (S : mS) : mS := tmap S (laG (8 * (12 + mK S 16 - 2) + mN S 8 (12 + mK S 16 - 2)) (8 * (12 + mK S 16 - 2 + 1)) (mN S 8 (12 + mK S 16 - 2 + 1)))
def beL (S : mS) (p k : Nat) : mS := sB S 10 (fun z => if 256 * p ≤ z ∧ z < 256 * p + k then mB S 17 (z - 256 * p) else mB S 10 z)
def tBec (S : mS) (p m : Nat) : mS := uB (uN (beL S p 256) 8 p m) 9 p false
def cpP (S : mS) (a t k : Nat) : mS := sB (uB (uN S 8 t (mN S 8 a)) 9 t (mB S 9 a)) 10 (fun z => if 256 * t ≤ z ∧ z < 256 * t + k then mB S 10 (256 * a + (z - 256 * t)) else mB S 10 z)
def tPart (S : mS) (a t : Nat) : mS := tmap (cpP S a t 256) (laG (8 * t) (8 * a) 8)
def tKeep (S : mS) : mS := if cKeep S = 0 then uK (uK (tPart (uK S 0 0) 12 (mK S 15)) 16 0) 15 (mK S 15 + 1) else uK S 0 1
def rKeep (S : mS) : Nat := if cKeep S = 0 then mK S 15 else 0
/-- a row set place by place -/
theorem sB_step {S : mS} {k i : Nat} {f g : Nat → Bool} {v : Bool} (h : ∀ z, (if z = i then v else f z) = g z) : uB (sB S k f) k i v = sB S k g := by
  apply mS_ext
  · intro j; rfl
  · intro j z; rfl
  · intro j z
    rw [mB_uB, mB_sB, mB_sB, ← h]
    by_cases e : j = k
    · by_cases e2 : z = i
      · rw [if_pos ⟨e, e2⟩, if_pos e, if_pos e2]
      · rw [if_neg (fun q => e2 q.2), if_pos e, if_pos e, if_neg e2]
    · rw [if_neg (fun q => e q.1), if_neg e, if_neg e]
  · intro j z; rfl
theorem sB_init {S : mS} {k : Nat} {g : Nat → Bool} (h : ∀ z, mB S k z = g z) : S = sB S k g := by
  apply mS_ext
  · intro j; rfl
  · intro j z; rfl
  · intro j z
    rw [mB_sB, ← h]
    by_cases e : j = k
    · rw [if_pos e, e]
    · rw [if_neg e]
  · intro j z; rfl
theorem sN_step {S : mS} {k i : Nat} {f g : Nat → Nat} {v : Nat} (h : ∀ z, (if z = i then v else f z) = g z) : uN (sN S k f) k i v = sN S k g := by
  apply mS_ext
  · intro j; rfl
  · intro j z
    rw [mN_uN, mN_sN, mN_sN, ← h]
    by_cases e : j = k
    · by_cases e2 : z = i
      · rw [if_pos ⟨e, e2⟩, if_pos e, if_pos e2]
      · rw [if_neg (fun q => e2 q.2), if_pos e, if_pos e, if_neg e2]
    · rw [if_neg (fun q => e q.1), if_neg e, if_neg e]
  · intro j z; rfl
  · intro j z; rfl
theorem sN_init {S : mS} {k : Nat} {g : Nat → Nat} (h : ∀ z, mN S k z = g z) : S = sN S k g := by
  apply mS_ext
  · intro j; rfl
  · intro j z
    rw [mN_sN, ← h]
    by_cases e : j = k
    · rw [if_pos e, e]
    · rw [if_neg e]
  · intro j z; rfl
  · intro j z; rfl
theorem sI_step {S : mS} {k i : Nat} {f g : Nat → Int32} {v : Int32} (h : ∀ z, (if z = i then v else f z) = g z) : uI (sI S k f) k i v = sI S k g := by
  apply mS_ext
  · intro j; rfl
  · intro j z; rfl
  · intro j z; rfl
  · intro j z
    rw [mI_uI, mI_sI, mI_sI, ← h]
    by_cases e : j = k
    · by_cases e2 : z = i
      · rw [if_pos ⟨e, e2⟩, if_pos e, if_pos e2]
      · rw [if_neg (fun q => e2 q.2), if_pos e, if_pos e, if_neg e2]
    · rw [if_neg (fun q => e q.1), if_neg e, if_neg e]
theorem sI_init {S : mS} {k : Nat} {g : Nat → Int32} (h : ∀ z, mI S k z = g z) : S = sI S k g := by
  apply mS_ext
  · intro j; rfl
  · intro j z; rfl
  · intro j z; rfl
  · intro j z
    rw [mI_sI, ← h]
    by_cases e : j = k
    · rw [if_pos e, e]
    · rw [if_neg e]
theorem uN_sI {S : mS} {j i v k : Nat} {f : Nat → Int32} : uN (sI S k f) j i v = sI (uN S j i v) k f := rfl
theorem uI_sN {S : mS} {j i k : Nat} {v : Int32} {f : Nat → Nat} : uI (sN S k f) j i v = sN (uI S j i v) k f := rfl
theorem mInv_pair {S : mS} (I : mInv S) (h : 2 ≤ mK S 16) : mN S 8 (12 + mK S 16 - 2) + mN S 8 (12 + mK S 16 - 2 + 1) ≤ 8 := by
  have h1 : mTests S ≤ 8 := I.2.2.2.2.2.2.2.2.2.2.2.1
  obtain ⟨z, hz⟩ : ∃ z, mK S 16 = z + 1 + 1 := ⟨mK S 16 - 2, by omega⟩
  rw [mTests, hz, sumTo, sumTo] at h1
  rw [hz, show 12 + (z + 1 + 1) - 2 = 12 + z by omega]
  have e : 12 + (z + 1) = 12 + z + 1 := by omega
  rw [e] at h1
  omega

theorem cpL_rI {S : mS} {a t k : Nat} (hk : k < 3) : mI (cpL S a t k) 11 (3 * a + k) = mI S 11 (3 * a + k) := by
  unfold cpL
  rw [mI_sN, mI_sI, if_pos rfl]
  split
  · congr 1; omega
  · rfl
theorem cpL_rN {S : mS} {a t k : Nat} (hk : k < 3) : mN (cpL S a t k) 12 (6 * a + 2 * k) = mN S 12 (6 * a + 2 * k) := by
  unfold cpL
  rw [mN_sN, if_pos rfl]
  split
  · congr 1; omega
  · rfl
theorem cpL_rN2 {S : mS} {a t k : Nat} (hk : k < 3) : (if 12 = 12 ∧ 6 * a + 2 * k + 1 = 6 * t + 2 * k then mN S 12 (6 * a + 2 * k) else mN (cpL S a t k) 12 (6 * a + 2 * k + 1)) = mN S 12 (6 * a + 2 * k + 1) := by
  rw [if_neg (by omega)]
  unfold cpL
  rw [mN_sN, if_pos rfl]
  split
  · congr 1; omega
  · rfl
theorem cpL_step {S : mS} {a t k : Nat} (hk : k < 3) : uN (uN (uI (cpL S a t k) 11 (3 * t + k) (mI S 11 (3 * a + k))) 12 (6 * t + 2 * k) (mN S 12 (6 * a + 2 * k))) 12 (6 * t + 2 * k + 1) (mN S 12 (6 * a + 2 * k + 1)) = cpL S a t (k + 1) := by
  unfold cpL
  rw [uI_sN, sI_step (g := fun x => if 3 * t ≤ x ∧ x < 3 * t + (k + 1) then mI S 11 (3 * a + (x - 3 * t)) else mI S 11 x)]
  · rw [sN_step (g := fun x => if 6 * t ≤ x ∧ x < 6 * t + 2 * k + 1 then mN S 12 (6 * a + (x - 6 * t)) else mN S 12 x)]
    · rw [sN_step]
      intro z
      by_cases c : z = 6 * t + 2 * k + 1
      · rw [if_pos c, if_pos (by omega)]; congr 1; omega
      · rw [if_neg c]
        by_cases d : 6 * t ≤ z ∧ z < 6 * t + 2 * k + 1
        · rw [if_pos d, if_pos (by omega)]
        · rw [if_neg d, if_neg (by omega)]
    · intro z
      by_cases c : z = 6 * t + 2 * k
      · rw [if_pos c, if_pos (by omega)]; congr 1; omega
      · rw [if_neg c]
        by_cases d : 6 * t ≤ z ∧ z < 6 * t + 2 * k
        · rw [if_pos d, if_pos (by omega)]
        · rw [if_neg d, if_neg (by omega)]
  · intro z
    by_cases c : z = 3 * t + k
    · rw [if_pos c, if_pos (by omega)]; congr 1; omega
    · rw [if_neg c]
      by_cases d : 3 * t ≤ z ∧ z < 3 * t + k
      · rw [if_pos d, if_pos (by omega)]
      · rw [if_neg d, if_neg (by omega)]

theorem puW_step {S : mS} {p k : Nat} : uB (puW S p k) 10 (256 * p + k) (decide (k = 1)) = puW S p (k + 1) := by
  unfold puW
  rw [sB_step]
  intro z
  by_cases c : z = 256 * p + k
  · rw [if_pos c, if_pos (by omega)]
    exact decide_eq_decide.mpr (by omega)
  · rw [if_neg c]
    by_cases d : 256 * p ≤ z ∧ z < 256 * p + k
    · rw [if_pos d, if_pos (by omega)]
    · rw [if_neg d, if_neg (by omega)]
theorem puW_0 {S : mS} {p : Nat} : uB (uN S 8 p 1) 9 p true = puW S p 0 := by
  unfold puW
  apply sB_init
  intro z
  rw [if_neg (by omega)]; rfl
theorem puV_0 {S : mS} {p : Nat} : puW S p 256 = puV S p 0 := by
  unfold puV
  rw [← sI_init (S := puW S p 256)]
  · apply sN_init
    intro z
    rw [if_neg (by omega)]; rfl
  · intro z
    rw [if_neg (by omega)]; rfl
theorem puV_step {S : mS} {p k : Nat} : uN (uN (uI (puV S p k) 11 (3 * (8 * p) + k) (-1)) 12 (6 * (8 * p) + 2 * k) 0) 12 (6 * (8 * p) + 2 * k + 1) 0 = puV S p (k + 1) := by
  unfold puV
  rw [uI_sN, sI_step (g := fun x => if 24 * p ≤ x ∧ x < 24 * p + (k + 1) then -1 else mI S 11 x)]
  · rw [sN_step (g := fun x => if 48 * p ≤ x ∧ x < 48 * p + 2 * k + 1 then 0 else mN S 12 x)]
    · rw [sN_step]
      intro z
      by_cases c : z = 6 * (8 * p) + 2 * k + 1
      · rw [if_pos c, if_pos (by omega)]
      · rw [if_neg c]
        by_cases d : 48 * p ≤ z ∧ z < 48 * p + 2 * k + 1
        · rw [if_pos d, if_pos (by omega)]
        · rw [if_neg d, if_neg (by omega)]
    · intro z
      by_cases c : z = 6 * (8 * p) + 2 * k
      · rw [if_pos c, if_pos (by omega)]
      · rw [if_neg c]
        by_cases d : 48 * p ≤ z ∧ z < 48 * p + 2 * k
        · rw [if_pos d, if_pos (by omega)]
        · rw [if_neg d, if_neg (by omega)]
  · intro z
    by_cases c : z = 3 * (8 * p) + k
    · rw [if_pos c, if_pos (by omega)]
    · rw [if_neg c]
      by_cases d : 24 * p ≤ z ∧ z < 24 * p + k
      · rw [if_pos d, if_pos (by omega)]
      · rw [if_neg d, if_neg (by omega)]

