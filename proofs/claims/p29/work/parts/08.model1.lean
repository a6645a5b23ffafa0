theorem cw_0 : ∀ w ∈ u_ws RX0 TX0 7, w ∈ TB := fun w hw => List.mem_filter.mpr ⟨(show ∀ w ∈ u_ws RX0 TX0 7, w ∈ lw_tbl from by decide +kernel) w hw, (show ∀ w ∈ u_ws RX0 TX0 7, goodWord w = true from by decide +kernel) w hw⟩
theorem cw_1 : ∀ w ∈ u_ws RX1 TX1 3, w ∈ TB := fun w hw => List.mem_filter.mpr ⟨(show ∀ w ∈ u_ws RX1 TX1 3, w ∈ lw_tbl from by decide +kernel) w hw, (show ∀ w ∈ u_ws RX1 TX1 3, goodWord w = true from by decide +kernel) w hw⟩
theorem cw_2 : ∀ w ∈ u_ws RX3 TX3 7, w ∈ TB := fun w hw => List.mem_filter.mpr ⟨(show ∀ w ∈ u_ws RX3 TX3 7, w ∈ lw_tbl from by decide +kernel) w hw, (show ∀ w ∈ u_ws RX3 TX3 7, goodWord w = true from by decide +kernel) w hw⟩
theorem cw_3 : ∀ w ∈ u_ws RX4 TX4 3, w ∈ TB := fun w hw => List.mem_filter.mpr ⟨(show ∀ w ∈ u_ws RX4 TX4 3, w ∈ lw_tbl from by decide +kernel) w hw, (show ∀ w ∈ u_ws RX4 TX4 3, goodWord w = true from by decide +kernel) w hw⟩
theorem cw_4 : ∀ w ∈ u_ws RX5 TX5 3, w ∈ TB := fun w hw => List.mem_filter.mpr ⟨(show ∀ w ∈ u_ws RX5 TX5 3, w ∈ lw_tbl from by decide +kernel) w hw, (show ∀ w ∈ u_ws RX5 TX5 3, goodWord w = true from by decide +kernel) w hw⟩
theorem cw_5 : ∀ w ∈ u_ws RX6 TX6 9, w ∈ TB := fun w hw => List.mem_filter.mpr ⟨(show ∀ w ∈ u_ws RX6 TX6 9, w ∈ lw_tbl from by decide +kernel) w hw, (show ∀ w ∈ u_ws RX6 TX6 9, goodWord w = true from by decide +kernel) w hw⟩
def mVal (S : mS) (s p a : Nat) : Nat := mN S 2 (3 * (40 * s + p) + a)
def sumTo (f : Nat → Nat) : Nat → Nat
  | 0 => 0
  | k + 1 => sumTo f k + f k
theorem sumTo_le {f : Nat → Nat} {c : Nat} : ∀ {k : Nat}, (∀ j, j < k → f j ≤ c) → sumTo f k ≤ k * c
  | 0, _ => Nat.zero_le _
  | k + 1, h => by
    have h1 := sumTo_le (k := k) (fun j hj => h j (Nat.lt_succ_of_lt hj))
    have h2 := h k (Nat.lt_succ_self k)
    rw [sumTo, Nat.succ_mul]
    omega
def mTests (S : mS) : Nat := sumTo (fun k => mN S 8 (12 + k)) (mK S 16)
def bits8 (v : Nat) : Nat := sumTo (fun k => v / 2 ^ (k + 1) % 2) 8
theorem and1 (x : Nat) : x &&& 1 = x % 2 := Nat.and_one_is_mod x
def mSize (S : mS) (r : Nat) : Nat := sumTo (fun k => bits8 (mN S 21 (40 * r + k))) 40

