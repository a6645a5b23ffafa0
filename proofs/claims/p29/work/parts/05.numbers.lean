/-! numbers: rows that keep an int as nI of a natural number, a boolean as bI of a Bool -/
def bI (b : Bool) : Int32 := if b then 1 else 0
theorem bI_eq0 (b : Bool) : bI b = 0 ↔ b = false := by cases b <;> decide
theorem bI_ne0 (b : Bool) : ¬ bI b = 0 ↔ b = true := by cases b <;> decide
theorem bI_nar (b : Bool) : narrow .boolean (.int (bI b)) = .int (bI b) := by cases b <;> rfl
theorem bI_n (b : Bool) : bI b = nI b.toNat := by cases b <;> rfl
theorem nI_inj {a b : Nat} (ha : a < 2147483648) (hb : b < 2147483648) (h : nI a = nI b) : a = b := (nI_eq ha hb).mp h
theorem nI_shl (a : Nat) {b : Nat} (hb : b < 32) : nI a <<< (nI b &&& 31) = nI (a * 2 ^ b) := by
  have hs : ((nI b &&& 31).toBitVec.smod 32).toNat = b := by
    have : ∀ c, c < 32 → ((nI c &&& 31).toBitVec.smod 32).toNat = c := by decide +kernel
    exact this b hb
  apply Int32.toBitVec_inj.mp
  apply BitVec.eq_of_toNat_eq
  rw [pk_shl _ _ b hs]
  show (BitVec.ofNat 32 a).toNat * 2 ^ b % 2 ^ 32 = (BitVec.ofNat 32 (a * 2 ^ b)).toNat
  rw [BitVec.toNat_ofNat, BitVec.toNat_ofNat, Nat.mod_mul_mod]
theorem nI_shr {a b : Nat} (ha : a < 2147483648) (hb : b < 32) : nI a >>> (nI b &&& 31) = nI (a / 2 ^ b) := by
  have hs : ((nI b &&& 31).toBitVec.smod 32).toNat = b := by
    have : ∀ c, c < 32 → ((nI c &&& 31).toBitVec.smod 32).toNat = c := by decide +kernel
    exact this b hb
  rw [← Nat.shiftRight_eq_div_pow]
  apply Int32.toInt_inj.mp
  rw [pk_shr _ _ b hs, nI_toInt ha, nI_toInt (Nat.lt_of_le_of_lt (Nat.shiftRight_le a b) ha)]
  rfl
theorem nI_ushr {a b : Nat} (ha : a < 4294967296) (hb : b < 32) : ((nI a).toUInt32 >>> ((nI b).toUInt32 &&& Int32.toUInt32 31)).toInt32 = nI (a / 2 ^ b) := by
  have hs : (((nI b).toUInt32 &&& Int32.toUInt32 31).toBitVec % 32).toNat = b := by
    have : ∀ c, c < 32 → (((nI c).toUInt32 &&& Int32.toUInt32 31).toBitVec % 32).toNat = c := by decide +kernel
    exact this b hb
  exact pk_ushrN ha _ b hs
theorem nI_and (a b : Nat) : nI a &&& nI b = nI (a &&& b) := by
  apply Int32.toBitVec_inj.mp
  show BitVec.ofNat 32 a &&& BitVec.ofNat 32 b = BitVec.ofNat 32 (a &&& b)
  rw [BitVec.ofNat_and]
theorem nI_or (a b : Nat) : nI a ||| nI b = nI (a ||| b) := by
  apply Int32.toBitVec_inj.mp
  show BitVec.ofNat 32 a ||| BitVec.ofNat 32 b = BitVec.ofNat 32 (a ||| b)
  rw [BitVec.ofNat_or]
theorem lN_sh64 : ∀ c, c < 64 → ((nI c).toInt64 &&& 63) = lN c := by decide +kernel
theorem lN_shu64 : ∀ c, c < 64 → ((nI c).toInt64.toUInt64 &&& Int64.toUInt64 63) = UInt64.ofNat c := by decide +kernel
theorem lN_smod : ∀ c, c < 64 → (lN c).toBitVec.smod 64 = BitVec.ofNat 64 c := by decide +kernel
theorem lN_shl (a : Nat) {b : Nat} (hb : b < 64) : lN a <<< ((nI b).toInt64 &&& 63) = lN (a * 2 ^ b) := by
  rw [lN_sh64 b hb]
  apply Int64.toBitVec_inj.mp
  show (BitVec.ofNat 64 a) <<< ((lN b).toBitVec.smod 64) = BitVec.ofNat 64 (a * 2 ^ b)
  rw [lN_smod b hb]
  apply BitVec.eq_of_toNat_eq
  rw [BitVec.shiftLeft_eq', BitVec.toNat_shiftLeft, BitVec.toNat_ofNat, BitVec.toNat_ofNat, BitVec.toNat_ofNat, Nat.mod_eq_of_lt (show b < 2 ^ 64 by omega), Nat.shiftLeft_eq, Nat.mod_mul_mod]
theorem lN_shr {a b : Nat} (ha : a < 9223372036854775808) (hb : b < 64) : lN a >>> ((nI b).toInt64 &&& 63) = lN (a / 2 ^ b) := by
  rw [lN_sh64 b hb]
  apply Int64.toBitVec_inj.mp
  show (BitVec.ofNat 64 a).sshiftRight' ((lN b).toBitVec.smod 64) = BitVec.ofNat 64 (a / 2 ^ b)
  rw [lN_smod b hb]
  apply BitVec.eq_of_toInt_eq
  rw [BitVec.sshiftRight_eq', BitVec.toInt_sshiftRight, BitVec.toNat_ofNat, Nat.mod_eq_of_lt (show b < 2 ^ 64 by omega)]
  have h1 : (BitVec.ofNat 64 a).toInt = (a : Int) := pk_lT ha
  have h2 : (BitVec.ofNat 64 (a / 2 ^ b)).toInt = ((a / 2 ^ b : Nat) : Int) := pk_lT (Nat.lt_of_le_of_lt (Nat.div_le_self _ _) ha)
  rw [h1, h2, ← Nat.shiftRight_eq_div_pow]
  rfl
theorem lN_ushr {a b : Nat} (ha : a < 18446744073709551616) (hb : b < 64) : ((lN a).toUInt64 >>> ((nI b).toInt64.toUInt64 &&& Int64.toUInt64 63)).toInt64 = lN (a / 2 ^ b) := by
  rw [lN_shu64 b hb]
  apply Int64.toBitVec_inj.mp
  apply BitVec.eq_of_toNat_eq
  have hmod : ∀ c, c < 64 → ((UInt64.ofNat c).toBitVec % 64#64).toNat = c := by decide +kernel
  show ((BitVec.ofNat 64 a) >>> ((UInt64.ofNat b).toBitVec % 64#64)).toNat = (BitVec.ofNat 64 (a / 2 ^ b)).toNat
  rw [BitVec.ushiftRight_eq', BitVec.toNat_ushiftRight, hmod b hb, BitVec.toNat_ofNat, BitVec.toNat_ofNat, Nat.mod_eq_of_lt ha, Nat.mod_eq_of_lt (Nat.lt_of_le_of_lt (Nat.div_le_self _ _) ha), Nat.shiftRight_eq_div_pow]
theorem lN_and (a b : Nat) : lN a &&& lN b = lN (a &&& b) := by
  apply Int64.toBitVec_inj.mp
  show BitVec.ofNat 64 a &&& BitVec.ofNat 64 b = BitVec.ofNat 64 (a &&& b)
  rw [BitVec.ofNat_and]
theorem lN_or (a b : Nat) : lN a ||| lN b = lN (a ||| b) := by
  apply Int64.toBitVec_inj.mp
  show BitVec.ofNat 64 a ||| BitVec.ofNat 64 b = BitVec.ofNat 64 (a ||| b)
  rw [BitVec.ofNat_or]
theorem lN_cmp {a b : Nat} (ha : a < 9223372036854775808) (hb : b < 9223372036854775808) : lg_cmp (lN a) (lN b) = (if a = b then 0 else if a < b then -1 else 1) := by
  have h1 : (lN a).toInt = (a : Int) := pk_lT ha
  have h2 : (lN b).toInt = (b : Int) := pk_lT hb
  have e1 : lN b < lN a ↔ b < a := by rw [Int64.lt_iff_toInt_lt, h1, h2]; omega
  have e2 : lN a = lN b ↔ a = b := by rw [← Int64.toInt_inj, h1, h2]; omega
  unfold lg_cmp
  by_cases c1 : b < a
  · rw [if_pos (e1.mpr c1), if_neg (by omega), if_neg (by omega)]
  · by_cases c2 : a = b
    · rw [if_neg (fun q => c1 (e1.mp q)), if_pos (e2.mpr c2), if_pos c2]
    · rw [if_neg (fun q => c1 (e1.mp q)), if_neg (fun q => c2 (e2.mp q)), if_neg c2, if_pos (by omega)]
/-- an int in a range, as a number -/
def inR (v : Int32) (a b : Nat) : Bool := decide (nI a ≤ v) && decide (v ≤ nI b)
def tn (v : Int32) : Nat := v.toNatClampNeg
theorem tn_nI {n : Nat} (h : n < 2147483648) : tn (nI n) = n := nI_clamp h
theorem inR_of {v : Int32} {a b : Nat} (h : inR v a b = true) (ha : a < 2147483648) (hb : b < 2147483648) : v = nI (tn v) ∧ a ≤ tn v ∧ tn v ≤ b := by
  simp only [inR, Bool.and_eq_true, decide_eq_true_eq] at h
  obtain ⟨h1, h2⟩ := h
  have h0 : ¬ v < 0 := by
    intro z
    have q1 := Int32.lt_iff_toInt_lt.mp z
    have q2 := Int32.le_iff_toInt_le.mp h1
    rw [nI_toInt ha] at q2
    have q3 : (0 : Int32).toInt = 0 := rfl
    omega
  obtain ⟨j, hj, rfl⟩ := nI_of h0
  rw [tn_nI hj]
  exact ⟨rfl, (nI_leI ha hj).mp h1, (nI_leI hj hb).mp h2⟩
theorem nI_inc (a : Nat) {k : Nat} {z : Int} (h : Int32.ofInt z = nI k) : nI a + Int32.ofInt z = nI (a + k) := by rw [h, nI_add]
theorem nI_dec {a k : Nat} {z : Int} (hk : k ≤ a) (h : nI k + Int32.ofInt z = 0) : nI a + Int32.ofInt z = nI (a - k) := by
  have e : a = (a - k) + k := by omega
  rw [e, ← nI_add, Int32.add_assoc, h, Int32.add_zero, Nat.add_sub_cancel]
def inI (v a b : Int32) : Bool := decide (a ≤ v) && decide (v ≤ b)
theorem inI_T {v a b : Int32} (h1 : ¬ v < a) (h2 : ¬ b < v) : inI v a b = true := by
  simp only [inI, Bool.and_eq_true, decide_eq_true_eq]
  rw [Int32.lt_iff_toInt_lt] at h1 h2
  exact ⟨Int32.le_iff_toInt_le.mpr (by omega), Int32.le_iff_toInt_le.mpr (by omega)⟩
theorem inI_F {v a b : Int32} (h : v < a ∨ b < v) : inI v a b = false := by
  cases hc : inI v a b with
  | false => rfl
  | true =>
    simp only [inI, Bool.and_eq_true, decide_eq_true_eq, Int32.le_iff_toInt_le] at hc
    rcases h with h | h <;> rw [Int32.lt_iff_toInt_lt] at h <;> omega

section NROWS
variable {G : eG} {x : CX} {n1 n2 : Nat} {h : hp} {pc nx : Nat} {lv : List (Nat × Value)} {st : List Value} {own : String} {cc : ByteArray} {rm : Room} {nL : Nat}
theorem rn_iadd (C : cxOk G own cc rm nL x) {a b : Nat} (d : dn cc pc .iadd 1 nx) (kk : VV G x n1 n2 h nx lv (.int (nI (a + b)) :: st)) : VV G x n1 n2 h pc lv (.int (nI b) :: .int (nI a) :: st) := r_iadd C d (by rw [nI_add]; exact kk)
theorem rn_isub (C : cxOk G own cc rm nL x) {a b : Nat} (d : dn cc pc .isub 1 nx) (hle : b ≤ a) (kk : VV G x n1 n2 h nx lv (.int (nI (a - b)) :: st)) : VV G x n1 n2 h pc lv (.int (nI b) :: .int (nI a) :: st) := r_isub C d (by rw [pk_sub hle]; exact kk)
theorem rn_imul (C : cxOk G own cc rm nL x) {a b : Nat} (d : dn cc pc .imul 1 nx) (kk : VV G x n1 n2 h nx lv (.int (nI (a * b)) :: st)) : VV G x n1 n2 h pc lv (.int (nI b) :: .int (nI a) :: st) := r_imul C d (by rw [pk_mul]; exact kk)
theorem rn_idiv (C : cxOk G own cc rm nL x) {a b : Nat} (d : dn cc pc .idiv 1 nx) (ha : a < 2147483648) (hz : 0 < b) (hb : b < 2147483648) (kk : VV G x n1 n2 h nx lv (.int (nI (a / b)) :: st)) : VV G x n1 n2 h pc lv (.int (nI b) :: .int (nI a) :: st) := r_idiv C d (nI_ne0 hz hb) (by rw [pk_div ha hz hb]; exact kk)
theorem rn_irem (C : cxOk G own cc rm nL x) {a b : Nat} (d : dn cc pc .irem 1 nx) (ha : a < 2147483648) (hz : 0 < b) (hb : b < 2147483648) (kk : VV G x n1 n2 h nx lv (.int (nI (a % b)) :: st)) : VV G x n1 n2 h pc lv (.int (nI b) :: .int (nI a) :: st) := r_irem C d (nI_ne0 hz hb) (by rw [pk_rem ha hz hb]; exact kk)
theorem rn_iand (C : cxOk G own cc rm nL x) {a b : Nat} (d : dn cc pc .iand 1 nx) (kk : VV G x n1 n2 h nx lv (.int (nI (a &&& b)) :: st)) : VV G x n1 n2 h pc lv (.int (nI b) :: .int (nI a) :: st) := r_iand C d (by rw [nI_and]; exact kk)
theorem rn_ior (C : cxOk G own cc rm nL x) {a b : Nat} (d : dn cc pc .ior 1 nx) (kk : VV G x n1 n2 h nx lv (.int (nI (a ||| b)) :: st)) : VV G x n1 n2 h pc lv (.int (nI b) :: .int (nI a) :: st) := r_ior C d (by rw [nI_or]; exact kk)
theorem rn_ishl (C : cxOk G own cc rm nL x) {a b : Nat} (d : dn cc pc .ishl 1 nx) (hb : b < 32) (kk : VV G x n1 n2 h nx lv (.int (nI (a * 2 ^ b)) :: st)) : VV G x n1 n2 h pc lv (.int (nI b) :: .int (nI a) :: st) := r_ishl C d (by rw [nI_shl a hb]; exact kk)
theorem rn_ishr (C : cxOk G own cc rm nL x) {a b : Nat} (d : dn cc pc .ishr 1 nx) (ha : a < 2147483648) (hb : b < 32) (kk : VV G x n1 n2 h nx lv (.int (nI (a / 2 ^ b)) :: st)) : VV G x n1 n2 h pc lv (.int (nI b) :: .int (nI a) :: st) := r_ishr C d (by rw [nI_shr ha hb]; exact kk)
theorem rn_iushr (C : cxOk G own cc rm nL x) {a b : Nat} (d : dn cc pc .iushr 1 nx) (ha : a < 4294967296) (hb : b < 32) (kk : VV G x n1 n2 h nx lv (.int (nI (a / 2 ^ b)) :: st)) : VV G x n1 n2 h pc lv (.int (nI b) :: .int (nI a) :: st) := r_iushr C d (by rw [nI_ushr ha hb]; exact kk)
theorem rn_iinc (C : cxOk G own cc rm nL x) {i a b : Nat} {k : Int} {lv' : List (Nat × Value)} (d : dn cc pc (.iinc i k) 3 nx) (j : Nat) (hk : lv[j]? = some (i, .int (nI a))) (hv : nI a + Int32.ofInt k = nI b) (hn : i < nL) (hl2 : (i, Value.int (nI b)) :: lv.filter (fun q => !(q.1 == i) && !(q.1 + 1 == i && q.2.category == 2)) = lv') (kk : VV G x n1 n2 h nx lv' (st)) : VV G x n1 n2 h pc lv (st) := r_iinc C d j hk hv hn hl2 kk
theorem rn_icmp_eq (C : cxOk G own cc rm nL x) {off : Int} {tgt a b : Nat} (d : dn cc pc (.if_icmp .eq off) 3 nx) (ht : (pc : Int) + off = (tgt : Int)) (ha : a < 2147483648) (hb : b < 2147483648) (kt : a = b → VV G x n1 n2 h tgt lv (st)) (kf : ¬ a = b → VV G x n1 n2 h nx lv (st)) : VV G x n1 n2 h pc lv (.int (nI b) :: .int (nI a) :: st) := r_icmp_eq C d ht (fun c => kt ((nI_eq ha hb).mp c)) (fun c => kf (fun q => c ((nI_eq ha hb).mpr q)))
theorem rn_icmp_ne (C : cxOk G own cc rm nL x) {off : Int} {tgt a b : Nat} (d : dn cc pc (.if_icmp .ne off) 3 nx) (ht : (pc : Int) + off = (tgt : Int)) (ha : a < 2147483648) (hb : b < 2147483648) (kt : ¬ a = b → VV G x n1 n2 h tgt lv (st)) (kf : a = b → VV G x n1 n2 h nx lv (st)) : VV G x n1 n2 h pc lv (.int (nI b) :: .int (nI a) :: st) := r_icmp_ne C d ht (fun c => kt (fun q => c ((nI_eq ha hb).mpr q))) (fun c => kf ((nI_eq ha hb).mp (Classical.not_not.mp c)))
theorem rn_icmp_lt (C : cxOk G own cc rm nL x) {off : Int} {tgt a b : Nat} (d : dn cc pc (.if_icmp .lt off) 3 nx) (ht : (pc : Int) + off = (tgt : Int)) (ha : a < 2147483648) (hb : b < 2147483648) (kt : a < b → VV G x n1 n2 h tgt lv (st)) (kf : b ≤ a → VV G x n1 n2 h nx lv (st)) : VV G x n1 n2 h pc lv (.int (nI b) :: .int (nI a) :: st) := r_icmp_lt C d ht (fun c => kt ((nI_ltI ha hb).mp c)) (fun c => kf (Nat.le_of_not_lt fun q => c ((nI_ltI ha hb).mpr q)))
theorem rn_icmp_ge (C : cxOk G own cc rm nL x) {off : Int} {tgt a b : Nat} (d : dn cc pc (.if_icmp .ge off) 3 nx) (ht : (pc : Int) + off = (tgt : Int)) (ha : a < 2147483648) (hb : b < 2147483648) (kt : b ≤ a → VV G x n1 n2 h tgt lv (st)) (kf : a < b → VV G x n1 n2 h nx lv (st)) : VV G x n1 n2 h pc lv (.int (nI b) :: .int (nI a) :: st) := r_icmp_ge C d ht (fun c => kt ((nI_leI hb ha).mp c)) (fun c => kf (Nat.lt_of_not_le fun q => c ((nI_leI hb ha).mpr q)))
theorem rn_icmp_gt (C : cxOk G own cc rm nL x) {off : Int} {tgt a b : Nat} (d : dn cc pc (.if_icmp .gt off) 3 nx) (ht : (pc : Int) + off = (tgt : Int)) (ha : a < 2147483648) (hb : b < 2147483648) (kt : b < a → VV G x n1 n2 h tgt lv (st)) (kf : a ≤ b → VV G x n1 n2 h nx lv (st)) : VV G x n1 n2 h pc lv (.int (nI b) :: .int (nI a) :: st) := r_icmp_gt C d ht (fun c => kt ((nI_ltI hb ha).mp c)) (fun c => kf (Nat.le_of_not_lt fun q => c ((nI_ltI hb ha).mpr q)))
theorem rn_icmp_le (C : cxOk G own cc rm nL x) {off : Int} {tgt a b : Nat} (d : dn cc pc (.if_icmp .le off) 3 nx) (ht : (pc : Int) + off = (tgt : Int)) (ha : a < 2147483648) (hb : b < 2147483648) (kt : a ≤ b → VV G x n1 n2 h tgt lv (st)) (kf : b < a → VV G x n1 n2 h nx lv (st)) : VV G x n1 n2 h pc lv (.int (nI b) :: .int (nI a) :: st) := r_icmp_le C d ht (fun c => kt ((nI_leI ha hb).mp c)) (fun c => kf (Nat.lt_of_not_le fun q => c ((nI_leI ha hb).mpr q)))
theorem rn_if_eq (C : cxOk G own cc rm nL x) {off : Int} {tgt a : Nat} (d : dn cc pc (.ifCond .eq off) 3 nx) (ht : (pc : Int) + off = (tgt : Int)) (ha : a < 2147483648) (kt : a = 0 → VV G x n1 n2 h tgt lv (st)) (kf : 0 < a → VV G x n1 n2 h nx lv (st)) : VV G x n1 n2 h pc lv (.int (nI a) :: st) := r_if_eq C d ht (fun c => kt (nI_inj ha (by decide : (0:Nat) < 2147483648) c)) (fun c => kf (Nat.pos_of_ne_zero fun q => c (by rw [q]; rfl)))
theorem rn_if_ne (C : cxOk G own cc rm nL x) {off : Int} {tgt a : Nat} (d : dn cc pc (.ifCond .ne off) 3 nx) (ht : (pc : Int) + off = (tgt : Int)) (ha : a < 2147483648) (kt : 0 < a → VV G x n1 n2 h tgt lv (st)) (kf : a = 0 → VV G x n1 n2 h nx lv (st)) : VV G x n1 n2 h pc lv (.int (nI a) :: st) := r_if_ne C d ht (fun c => kt (Nat.pos_of_ne_zero fun q => c (by rw [q]; rfl))) (fun c => kf (nI_inj ha (by decide : (0:Nat) < 2147483648) (Classical.not_not.mp c)))
theorem rn_if_lt (C : cxOk G own cc rm nL x) {off : Int} {tgt a : Nat} (d : dn cc pc (.ifCond .lt off) 3 nx) (ht : (pc : Int) + off = (tgt : Int)) (ha : a < 2147483648) (kt : False → VV G x n1 n2 h tgt lv (st)) (kf : True → VV G x n1 n2 h nx lv (st)) : VV G x n1 n2 h pc lv (.int (nI a) :: st) := r_if_lt C d ht (fun c => kt ((nI_pos ha c))) (fun c => kf (trivial))
theorem rn_if_ge (C : cxOk G own cc rm nL x) {off : Int} {tgt a : Nat} (d : dn cc pc (.ifCond .ge off) 3 nx) (ht : (pc : Int) + off = (tgt : Int)) (ha : a < 2147483648) (kt : True → VV G x n1 n2 h tgt lv (st)) (kf : False → VV G x n1 n2 h nx lv (st)) : VV G x n1 n2 h pc lv (.int (nI a) :: st) := r_if_ge C d ht (fun c => kt (trivial)) (fun c => kf ((c (nI_pos' ha))))
theorem rn_if_gt (C : cxOk G own cc rm nL x) {off : Int} {tgt a : Nat} (d : dn cc pc (.ifCond .gt off) 3 nx) (ht : (pc : Int) + off = (tgt : Int)) (ha : a < 2147483648) (kt : 0 < a → VV G x n1 n2 h tgt lv (st)) (kf : a = 0 → VV G x n1 n2 h nx lv (st)) : VV G x n1 n2 h pc lv (.int (nI a) :: st) := r_if_gt C d ht (fun c => kt ((nI_ltI (by decide : (0:Nat) < 2147483648) ha).mp c)) (fun c => kf (Nat.eq_zero_of_not_pos fun q => c ((nI_ltI (by decide : (0:Nat) < 2147483648) ha).mpr q)))
theorem rn_if_le (C : cxOk G own cc rm nL x) {off : Int} {tgt a : Nat} (d : dn cc pc (.ifCond .le off) 3 nx) (ht : (pc : Int) + off = (tgt : Int)) (ha : a < 2147483648) (kt : a = 0 → VV G x n1 n2 h tgt lv (st)) (kf : 0 < a → VV G x n1 n2 h nx lv (st)) : VV G x n1 n2 h pc lv (.int (nI a) :: st) := r_if_le C d ht (fun c => kt (Nat.le_zero.mp ((nI_leI ha (by decide : (0:Nat) < 2147483648)).mp c))) (fun c => kf (Nat.pos_of_ne_zero fun q => c (by rw [q]; exact Int32.le_refl _)))
theorem rb_if_eq (C : cxOk G own cc rm nL x) {off : Int} {tgt : Nat} {b : Bool} (d : dn cc pc (.ifCond .eq off) 3 nx) (ht : (pc : Int) + off = (tgt : Int)) (kt : b = false → VV G x n1 n2 h tgt lv (st)) (kf : b = true → VV G x n1 n2 h nx lv (st)) : VV G x n1 n2 h pc lv (.int (bI b) :: st) := r_if_eq C d ht (fun c => kt ((bI_eq0 b).mp c)) (fun c => kf ((bI_ne0 b).mp c))
theorem rb_if_ne (C : cxOk G own cc rm nL x) {off : Int} {tgt : Nat} {b : Bool} (d : dn cc pc (.ifCond .ne off) 3 nx) (ht : (pc : Int) + off = (tgt : Int)) (kt : b = true → VV G x n1 n2 h tgt lv (st)) (kf : b = false → VV G x n1 n2 h nx lv (st)) : VV G x n1 n2 h pc lv (.int (bI b) :: st) := r_if_ne C d ht (fun c => kt ((bI_ne0 b).mp c)) (fun c => kf ((bI_eq0 b).mp (Classical.not_not.mp c)))
theorem rn_i2l (C : cxOk G own cc rm nL x) {a : Nat} (d : dn cc pc .i2l 1 nx) (ha : a < 2147483648) (kk : VV G x n1 n2 h nx lv (.long (lN a) :: st)) : VV G x n1 n2 h pc lv (.int (nI a) :: st) := r_i2l C d (by rw [nI_l ha]; exact kk)
theorem rn_l2i (C : cxOk G own cc rm nL x) {a : Nat} (d : dn cc pc .l2i 1 nx) (kk : VV G x n1 n2 h nx lv (.int (nI a) :: st)) : VV G x n1 n2 h pc lv (.long (lN a) :: st) := r_l2i C d (by rw [lN_i]; exact kk)
theorem rn_lshl (C : cxOk G own cc rm nL x) {a b : Nat} (d : dn cc pc .lshl 1 nx) (hb : b < 64) (kk : VV G x n1 n2 h nx lv (.long (lN (a * 2 ^ b)) :: st)) : VV G x n1 n2 h pc lv (.int (nI b) :: .long (lN a) :: st) := r_lshl C d (by rw [lN_shl a hb]; exact kk)
theorem rn_lshr (C : cxOk G own cc rm nL x) {a b : Nat} (d : dn cc pc .lshr 1 nx) (ha : a < 9223372036854775808) (hb : b < 64) (kk : VV G x n1 n2 h nx lv (.long (lN (a / 2 ^ b)) :: st)) : VV G x n1 n2 h pc lv (.int (nI b) :: .long (lN a) :: st) := r_lshr C d (by rw [lN_shr ha hb]; exact kk)
theorem rn_lushr (C : cxOk G own cc rm nL x) {a b : Nat} (d : dn cc pc .lushr 1 nx) (ha : a < 18446744073709551616) (hb : b < 64) (kk : VV G x n1 n2 h nx lv (.long (lN (a / 2 ^ b)) :: st)) : VV G x n1 n2 h pc lv (.int (nI b) :: .long (lN a) :: st) := r_lushr C d (by rw [lN_ushr ha hb]; exact kk)
theorem rn_land (C : cxOk G own cc rm nL x) {a b : Nat} (d : dn cc pc .land 1 nx) (kk : VV G x n1 n2 h nx lv (.long (lN (a &&& b)) :: st)) : VV G x n1 n2 h pc lv (.long (lN b) :: .long (lN a) :: st) := r_land C d (by rw [lN_and]; exact kk)
theorem rn_lor (C : cxOk G own cc rm nL x) {a b : Nat} (d : dn cc pc .lor 1 nx) (kk : VV G x n1 n2 h nx lv (.long (lN (a ||| b)) :: st)) : VV G x n1 n2 h pc lv (.long (lN b) :: .long (lN a) :: st) := r_lor C d (by rw [lN_or]; exact kk)
theorem rn_lcmp (C : cxOk G own cc rm nL x) {a b : Nat} (d : dn cc pc .lcmp 1 nx) (ha : a < 9223372036854775808) (hb : b < 9223372036854775808) (kk : VV G x n1 n2 h nx lv (.int (lg_cmp (lN a) (lN b)) :: st)) : VV G x n1 n2 h pc lv (.long (lN b) :: .long (lN a) :: st) := r_lcmp C d kk
theorem r_st {st' : List Value} (e : st = st') (kk : VV G x n1 n2 h pc lv st') : VV G x n1 n2 h pc lv st := e ▸ kk
theorem r_lve {lv' : List (Nat × Value)} (e : lv = lv') (kk : VV G x n1 n2 h pc lv' st) : VV G x n1 n2 h pc lv st := e ▸ kk
theorem r_eqh {h' : hp} (e : h = h') (kk : VV G x n1 n2 h' pc lv st) : VV G x n1 n2 h pc lv st := e ▸ kk
end NROWS
