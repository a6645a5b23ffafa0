/-! the new class: its world -/
def cz0 : mS := mrg z0 mz
def ixN (k i : Nat) : Nat := match k, i with | 0, 0 => 34 | 1, 0 => 33 | 2, 0 => 32 | 3, 0 => 31 | 4, 0 => 30 | 5, 0 => 29 | 6, 0 => 26 | 7, 0 => 28 | 7, 1 => 27 | 10, 0 => 25 | 11, 0 => 24 | 12, 0 => 23 | 13, 0 => 22 | 14, 0 => 21 | 10, 1 => 20 | 11, 1 => 19 | 12, 1 => 18 | 13, 1 => 17 | 14, 1 => 16 | 20, 0 => 15 | 21, 0 => 14 | 20, 1 => 13 | 21, 1 => 12 | 20, 2 => 11 | 21, 2 => 10 | 20, 3 => 9 | 21, 3 => 8 | 20, 4 => 7 | 21, 4 => 6 | 20, 5 => 5 | 21, 5 => 4 | 20, 6 => 3 | 21, 6 => 2 | 20, 7 => 1 | 21, 7 => 0 | _, _ => 34
def adN (q : Nat → Nat) (k i : Nat) : Nat := q (ixN k i)
theorem sg_z {row len stride i : Nat} (h : ∀ j, mN cz0 row j = 0) : (fun j => nI (sg cz0 row len stride i j)) = fun _ => 0 := by
  funext j; unfold sg; rw [h]; split <;> rfl
theorem sgL_z {row len stride i : Nat} (h : ∀ j, mN cz0 row j = 0) : (fun j => lN (sg cz0 row len stride i j)) = fun _ => 0 := by
  funext j; unfold sg; rw [h]; split <;> rfl
theorem cz_N (k i : Nat) : mN cz0 k i = 0 := by
  show (if k < 23 then (0 : Nat) else 0) = 0
  split <;> rfl
theorem cz_B (k i : Nat) : mB cz0 k i = false := by
  show (if k < 23 then false else false) = false
  split <;> rfl
theorem cz_K (k : Nat) : mK cz0 k = 0 := by
  show (if k < 23 then (0 : Nat) else 0) = 0
  split <;> rfl
theorem cz_I {i : Nat} (h : i < 8) : mI cz0 20 i = -1 := by
  show mI (sI mz 20 (fun z => if z < 8 then -1 else 0)) 20 i = -1
  rw [mI_sI, if_pos rfl, if_pos h]
def ixR (z : Nat) : Nat × Nat := match z with | 34 => (0, 0) | 33 => (1, 0) | 32 => (2, 0) | 31 => (3, 0) | 30 => (4, 0) | 29 => (5, 0) | 26 => (6, 0) | 28 => (7, 0) | 27 => (7, 1) | 25 => (10, 0) | 24 => (11, 0) | 23 => (12, 0) | 22 => (13, 0) | 21 => (14, 0) | 20 => (10, 1) | 19 => (11, 1) | 18 => (12, 1) | 17 => (13, 1) | 16 => (14, 1) | 15 => (20, 0) | 14 => (21, 0) | 13 => (20, 1) | 12 => (21, 1) | 11 => (20, 2) | 10 => (21, 2) | 9 => (20, 3) | 8 => (21, 3) | 7 => (20, 4) | 6 => (21, 4) | 5 => (20, 5) | 4 => (21, 5) | 3 => (20, 6) | 2 => (21, 6) | 1 => (20, 7) | 0 => (21, 7) | _ => (99, 99)
theorem ad_row2 (q : Nat → Nat) : (va_up (va_up (fun _ => none) 0 (some (q 25))) 1 (some (q 20)) : Nat → Option Nat) = fun j => if j < 2 then some (adN q 10 j) else none := by
  funext j
  rcases Nat.lt_or_ge j 2 with h | h
  · rw [if_pos h]
    have hh : j = 0 ∨ j = 1 := by omega
    rcases hh with rfl | rfl <;> rfl
  · rw [if_neg (by omega)]
    unfold va_up
    simp only [if_neg (show ¬ j = 0 by omega), if_neg (show ¬ j = 1 by omega)]
theorem ad_row8 (q : Nat → Nat) : (va_up (va_up (va_up (va_up (va_up (va_up (va_up (va_up (fun _ => none) 0 (some (q 15))) 1 (some (q 13))) 2 (some (q 11))) 3 (some (q 9))) 4 (some (q 7))) 5 (some (q 5))) 6 (some (q 3))) 7 (some (q 1)) : Nat → Option Nat) = fun j => if j < 8 then some (adN q 20 j) else none := by
  funext j
  rcases Nat.lt_or_ge j 8 with h | h
  · rw [if_pos h]
    have hh : j = 0 ∨ j = 1 ∨ j = 2 ∨ j = 3 ∨ j = 4 ∨ j = 5 ∨ j = 6 ∨ j = 7 := by omega
    rcases hh with rfl | rfl | rfl | rfl | rfl | rfl | rfl | rfl <;> rfl
  · rw [if_neg (by omega)]
    unfold va_up
    simp only [if_neg (show ¬ j = 0 by omega), if_neg (show ¬ j = 1 by omega), if_neg (show ¬ j = 2 by omega), if_neg (show ¬ j = 3 by omega), if_neg (show ¬ j = 4 by omega), if_neg (show ¬ j = 5 by omega), if_neg (show ¬ j = 6 by omega), if_neg (show ¬ j = 7 by omega)]
theorem cn_0 (G : eG) (q : Nat → Nat) {i : Nat} (h : i < 1) : (cnL G q)[ixN 0 i]? = some (adN q 0 i, ce G (adN q) cz0 0 i) := by
  have hh : i = 0 := by omega
  subst hh
  · rfl
theorem cn_1 (G : eG) (q : Nat → Nat) {i : Nat} (h : i < 1) : (cnL G q)[ixN 1 i]? = some (adN q 1 i, ce G (adN q) cz0 1 i) := by
  have hh : i = 0 := by omega
  subst hh
  · exact congrArg (fun f => some (q 33, aR G 5 2 f)) (ad_row2 q)
theorem cn_2 (G : eG) (q : Nat → Nat) {i : Nat} (h : i < 1) : (cnL G q)[ixN 2 i]? = some (adN q 2 i, ce G (adN q) cz0 2 i) := by
  have hh : i = 0 := by omega
  subst hh
  · rfl
theorem cn_3 (G : eG) (q : Nat → Nat) {i : Nat} (h : i < 1) : (cnL G q)[ixN 3 i]? = some (adN q 3 i, ce G (adN q) cz0 3 i) := by
  have hh : i = 0 := by omega
  subst hh
  · rfl
theorem cn_4 (G : eG) (q : Nat → Nat) {i : Nat} (h : i < 1) : (cnL G q)[ixN 4 i]? = some (adN q 4 i, ce G (adN q) cz0 4 i) := by
  have hh : i = 0 := by omega
  subst hh
  · exact congrArg (fun f => some (q 30, aR G 4 8 f)) (ad_row8 q)
theorem cn_5 (G : eG) (q : Nat → Nat) {i : Nat} (h : i < 1) : (cnL G q)[ixN 5 i]? = some (adN q 5 i, ce G (adN q) cz0 5 i) := by
  have hh : i = 0 := by omega
  subst hh
  · rfl
theorem cn_6 (G : eG) (q : Nat → Nat) {i : Nat} (h : i < 1) : (cnL G q)[ixN 6 i]? = some (adN q 6 i, ce G (adN q) cz0 6 i) := by
  have hh : i = 0 := by omega
  subst hh
  · exact (congrArg (fun f => some (q 26, aI G 100 f)) (sg_z (row := 52) (len := 100) (stride := 100) (i := 0) (cz_N 52))).symm
theorem cn_7 (G : eG) (q : Nat → Nat) {i : Nat} (h : i < 2) : (cnL G q)[ixN 7 i]? = some (adN q 7 i, ce G (adN q) cz0 7 i) := by
  have hh : i = 0 ∨ i = 1 := by omega
  rcases hh with rfl | rfl
  · exact (congrArg (fun f => some (q 28, aI G 70 f)) (sg_z (row := 50) (len := 70) (stride := 70) (i := 0) (cz_N 50))).symm
  · exact (congrArg (fun f => some (q 27, aI G 70 f)) (sg_z (row := 50) (len := 70) (stride := 70) (i := 1) (cz_N 50))).symm
theorem cn_10 (G : eG) (q : Nat → Nat) {i : Nat} (h : i < 2) : (cnL G q)[ixN 10 i]? = some (adN q 10 i, ce G (adN q) cz0 10 i) := by
  have hh : i = 0 ∨ i = 1 := by omega
  rcases hh with rfl | rfl
  · rfl
  · rfl
theorem cn_11 (G : eG) (q : Nat → Nat) {i : Nat} (h : i < 2) : (cnL G q)[ixN 11 i]? = some (adN q 11 i, ce G (adN q) cz0 11 i) := by
  have hh : i = 0 ∨ i = 1 := by omega
  rcases hh with rfl | rfl
  · exact (congrArg (fun f => some (q 24, aI G 120 f)) (sg_z (row := 2) (len := 120) (stride := 120) (i := 0) (cz_N 2))).symm
  · exact (congrArg (fun f => some (q 19, aI G 120 f)) (sg_z (row := 2) (len := 120) (stride := 120) (i := 1) (cz_N 2))).symm
theorem cn_12 (G : eG) (q : Nat → Nat) {i : Nat} (h : i < 2) : (cnL G q)[ixN 12 i]? = some (adN q 12 i, ce G (adN q) cz0 12 i) := by
  have hh : i = 0 ∨ i = 1 := by omega
  rcases hh with rfl | rfl
  · exact (congrArg (fun f => some (q 23, aI G 40 f)) (sg_z (row := 3) (len := 40) (stride := 40) (i := 0) (cz_N 3))).symm
  · exact (congrArg (fun f => some (q 18, aI G 40 f)) (sg_z (row := 3) (len := 40) (stride := 40) (i := 1) (cz_N 3))).symm
theorem cn_13 (G : eG) (q : Nat → Nat) {i : Nat} (h : i < 2) : (cnL G q)[ixN 13 i]? = some (adN q 13 i, ce G (adN q) cz0 13 i) := by
  have hh : i = 0 ∨ i = 1 := by omega
  rcases hh with rfl | rfl
  · exact (congrArg (fun f => some (q 22, aI G 40 f)) (sg_z (row := 4) (len := 40) (stride := 40) (i := 0) (cz_N 4))).symm
  · exact (congrArg (fun f => some (q 17, aI G 40 f)) (sg_z (row := 4) (len := 40) (stride := 40) (i := 1) (cz_N 4))).symm
theorem cn_14 (G : eG) (q : Nat → Nat) {i : Nat} (h : i < 2) : (cnL G q)[ixN 14 i]? = some (adN q 14 i, ce G (adN q) cz0 14 i) := by
  have hh : i = 0 ∨ i = 1 := by omega
  rcases hh with rfl | rfl
  · exact (congrArg (fun f => some (q 21, aJ G 40 f)) (sgL_z (row := 53) (len := 40) (stride := 40) (i := 0) (cz_N 53))).symm
  · exact (congrArg (fun f => some (q 16, aJ G 40 f)) (sgL_z (row := 53) (len := 40) (stride := 40) (i := 1) (cz_N 53))).symm
theorem cn_20 (G : eG) (q : Nat → Nat) {i : Nat} (h : i < 8) : (cnL G q)[ixN 20 i]? = some (adN q 20 i, ce G (adN q) cz0 20 i) := by
  have hh : i = 0 ∨ i = 1 ∨ i = 2 ∨ i = 3 ∨ i = 4 ∨ i = 5 ∨ i = 6 ∨ i = 7 := by omega
  rcases hh with rfl | rfl | rfl | rfl | rfl | rfl | rfl | rfl
  · rfl
  · rfl
  · rfl
  · rfl
  · rfl
  · rfl
  · rfl
  · rfl
theorem cn_21 (G : eG) (q : Nat → Nat) {i : Nat} (h : i < 8) : (cnL G q)[ixN 21 i]? = some (adN q 21 i, ce G (adN q) cz0 21 i) := by
  have hh : i = 0 ∨ i = 1 ∨ i = 2 ∨ i = 3 ∨ i = 4 ∨ i = 5 ∨ i = 6 ∨ i = 7 := by omega
  rcases hh with rfl | rfl | rfl | rfl | rfl | rfl | rfl | rfl
  · exact (congrArg (fun f => some (q 14, aI G 40 f)) (sg_z (row := 21) (len := 40) (stride := 40) (i := 0) (cz_N 21))).symm
  · exact (congrArg (fun f => some (q 12, aI G 40 f)) (sg_z (row := 21) (len := 40) (stride := 40) (i := 1) (cz_N 21))).symm
  · exact (congrArg (fun f => some (q 10, aI G 40 f)) (sg_z (row := 21) (len := 40) (stride := 40) (i := 2) (cz_N 21))).symm
  · exact (congrArg (fun f => some (q 8, aI G 40 f)) (sg_z (row := 21) (len := 40) (stride := 40) (i := 3) (cz_N 21))).symm
  · exact (congrArg (fun f => some (q 6, aI G 40 f)) (sg_z (row := 21) (len := 40) (stride := 40) (i := 4) (cz_N 21))).symm
  · exact (congrArg (fun f => some (q 4, aI G 40 f)) (sg_z (row := 21) (len := 40) (stride := 40) (i := 5) (cz_N 21))).symm
  · exact (congrArg (fun f => some (q 2, aI G 40 f)) (sg_z (row := 21) (len := 40) (stride := 40) (i := 6) (cz_N 21))).symm
  · exact (congrArg (fun f => some (q 0, aI G 40 f)) (sg_z (row := 21) (len := 40) (stride := 40) (i := 7) (cz_N 21))).symm
theorem cn_at (G : eG) (q : Nat → Nat) {k i : Nat} (h : cOk k i = true) : (cnL G q)[ixN k i]? = some (adN q k i, ce G (adN q) cz0 k i) := by
  rcases cOk_cases h with ⟨rfl, h⟩ | ⟨rfl, h⟩ | ⟨rfl, h⟩ | ⟨rfl, h⟩ | ⟨rfl, h⟩ | ⟨rfl, h⟩ | ⟨rfl, h⟩ | ⟨rfl, h⟩ | ⟨rfl, h⟩ | ⟨rfl, h⟩ | ⟨rfl, h⟩ | ⟨rfl, h⟩ | ⟨rfl, h⟩ | ⟨rfl, h⟩ | ⟨rfl, h⟩
  · exact cn_0 G q (by omega)
  · exact cn_1 G q (by omega)
  · exact cn_2 G q (by omega)
  · exact cn_3 G q (by omega)
  · exact cn_4 G q (by omega)
  · exact cn_5 G q (by omega)
  · exact cn_6 G q (by omega)
  · exact cn_7 G q (by omega)
  · exact cn_10 G q (by omega)
  · exact cn_11 G q (by omega)
  · exact cn_12 G q (by omega)
  · exact cn_13 G q (by omega)
  · exact cn_14 G q (by omega)
  · exact cn_20 G q (by omega)
  · exact cn_21 G q (by omega)
theorem ixN_inj {k i k' i' : Nat} (h : cOk k i = true) (h' : cOk k' i' = true) (e : ixN k i = ixN k' i') : k = k' ∧ i = i' := by
  have hk : k < 22 := by rcases cOk_cases h with h | h | h | h | h | h | h | h | h | h | h | h | h | h | h <;> omega
  have hi : i < 8 := by rcases cOk_cases h with h | h | h | h | h | h | h | h | h | h | h | h | h | h | h <;> omega
  have hk' : k' < 22 := by rcases cOk_cases h' with h | h | h | h | h | h | h | h | h | h | h | h | h | h | h <;> omega
  have hi' : i' < 8 := by rcases cOk_cases h' with h | h | h | h | h | h | h | h | h | h | h | h | h | h | h <;> omega
  have all : ∀ k : Fin 22, ∀ i : Fin 8, cOk k i = true → ixR (ixN k i) = ((k : Nat), (i : Nat)) := by decide +kernel
  have a := all ⟨k, hk⟩ ⟨i, hi⟩ h
  have b := all ⟨k', hk'⟩ ⟨i', hi'⟩ h'
  have c : ((k, i) : Nat × Nat) = (k', i') := a.symm.trans ((congrArg ixR e).trans b)
  exact ⟨congrArg Prod.fst c, congrArg Prod.snd c⟩
theorem cn_co {G : eG} {q : Nat → Nat} {h0 h : hp} (w : nwl h0 (cnL G q)) (c : cel (cnL G q) h) : co G (adN q) cz0 h := by
  have all : ∀ k i, ∃ e, h (adN q k i) = some e := fun k i => by
    have hl : ixN k i < (cnL G q).length := by
      show ixN k i < 35
      unfold ixN; split <;> decide
    have hq : ((cnL G q)[ixN k i]?) = some ((cnL G q)[ixN k i]'hl) := List.getElem?_eq_getElem hl
    have hf : ((cnL G q)[ixN k i]'hl).1 = q (ixN k i) := by
      have al : ∀ z : Fin 35, ∀ hz : z.val < (cnL G q).length, ((cnL G q)[z.val]'hz).1 = q z.val := fun z hz => by
        obtain ⟨z, hz'⟩ := z
        match z, hz' with
        | 0, _ => rfl
        | 1, _ => rfl
        | 2, _ => rfl
        | 3, _ => rfl
        | 4, _ => rfl
        | 5, _ => rfl
        | 6, _ => rfl
        | 7, _ => rfl
        | 8, _ => rfl
        | 9, _ => rfl
        | 10, _ => rfl
        | 11, _ => rfl
        | 12, _ => rfl
        | 13, _ => rfl
        | 14, _ => rfl
        | 15, _ => rfl
        | 16, _ => rfl
        | 17, _ => rfl
        | 18, _ => rfl
        | 19, _ => rfl
        | 20, _ => rfl
        | 21, _ => rfl
        | 22, _ => rfl
        | 23, _ => rfl
        | 24, _ => rfl
        | 25, _ => rfl
        | 26, _ => rfl
        | 27, _ => rfl
        | 28, _ => rfl
        | 29, _ => rfl
        | 30, _ => rfl
        | 31, _ => rfl
        | 32, _ => rfl
        | 33, _ => rfl
        | 34, _ => rfl
        | n + 35, h => exact absurd h (by omega)
      exact al ⟨ixN k i, hl⟩ hl
    have := c _ _ hq
    rw [hf] at this
    exact ⟨_, this⟩
  exact ⟨fun k i o => c _ _ (cn_at G q o), fun k i k' i' o o' e => ixN_inj o o' (w.2 _ _ _ _ (cn_at G q o) (cn_at G q o') e), all⟩
