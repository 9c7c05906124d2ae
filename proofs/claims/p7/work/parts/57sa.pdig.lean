/-! The letters of a word out of its number. -/
theorem pz_N_dig {B : Nat} (hB : 0 < B) {d : Nat → Nat} : ∀ (k j : Nat), (∀ i, i < k → d i < B) → pz_N B d k / B ^ j % B = if j < k then d (k - 1 - j) else 0
  | 0, j, _ => by
    show 0 / B ^ j % B = _
    rw [Nat.zero_div, Nat.zero_mod, if_neg (Nat.not_lt_zero j)]
  | k + 1, 0, h => by
    show (pz_N B d k * B + d k) / B ^ 0 % B = _
    rw [Nat.pow_zero, Nat.div_one, Nat.mul_comm, Nat.mul_add_mod, Nat.mod_eq_of_lt (h k (Nat.lt_succ_self k)), if_pos (Nat.succ_pos k)]
    rfl
  | k + 1, j + 1, h => by
    show (pz_N B d k * B + d k) / B ^ (j + 1) % B = _
    rw [Nat.pow_succ, Nat.mul_comm (B ^ j) B, ← Nat.div_div_eq_div_mul, show (pz_N B d k * B + d k) / B = pz_N B d k by
      rw [Nat.mul_comm, Nat.mul_add_div hB, Nat.div_eq_of_lt (h k (Nat.lt_succ_self k)), Nat.add_zero]]
    rw [pz_N_dig hB k j (fun i hi => h i (by omega))]
    by_cases z : j < k
    · rw [if_pos z, if_pos (by omega), show k + 1 - 1 - (j + 1) = k - 1 - j by omega]
    · rw [if_neg z, if_neg (by omega)]
/-- a number of k digits, the first of them no 0 -/
theorem pz_N_ge {B : Nat} {d : Nat → Nat} : ∀ (k : Nat), (0 < d 0) → B ^ k ≤ pz_N B d (k + 1)
  | 0, h => by
    show B ^ 0 ≤ 0 * B + d 0
    rw [Nat.pow_zero]
    omega
  | k + 1, h => by
    have ih := pz_N_ge (B := B) (d := d) k h
    show B ^ k * B ≤ pz_N B d (k + 1) * B + d (k + 1)
    have := Nat.mul_le_mul_right B ih
    omega
