/-! A word as the class holds it: a byte for each letter. (compiled clean in light rounds of p17) -/
theorem pz_or8 (x d : Nat) (hd : d < 256) : (BitVec.ofNat 64 x <<< 8) ||| BitVec.ofNat 64 d = BitVec.ofNat 64 (x * 256 + d) := by
  have h0 : (BitVec.ofNat 64 x <<< 8) &&& BitVec.ofNat 64 d = 0#64 := by
    ext i hi
    rw [BitVec.getElem_and, BitVec.getElem_shiftLeft]
    by_cases h8 : i < 8
    · simp [h8]
    · have hf : (BitVec.ofNat 64 d)[i] = false := by
        rw [BitVec.getElem_eq_testBit_toNat, BitVec.toNat_ofNat, Nat.mod_eq_of_lt (by omega)]
        exact Nat.testBit_lt_two_pow (Nat.lt_of_lt_of_le (show d < 2 ^ 8 from hd) (Nat.pow_le_pow_right Nat.zero_lt_two (show 8 ≤ i by omega)))
      simp [hf]
  rw [← BitVec.add_eq_or_of_and_eq_zero _ _ h0]
  apply BitVec.eq_of_toNat_eq
  rw [BitVec.toNat_add, BitVec.toNat_shiftLeft, BitVec.toNat_ofNat, BitVec.toNat_ofNat, BitVec.toNat_ofNat, Nat.shiftLeft_eq]
  omega
theorem pz_n8_N {F : Nat → Int32} {a : Nat} : ∀ {k : Nat}, (∀ i, i < k → 0 ≤ (F (a + i)).toInt ∧ (F (a + i)).toInt < 256) → (pz_n8 F a k).toBitVec = BitVec.ofNat 64 (pz_N 256 (fun i => (F (a + i)).toInt.toNat) k)
  | 0, _ => rfl
  | k + 1, h => by
    have ih := pz_n8_N (k := k) (fun i hi => h i (by omega))
    have hk := h k (Nat.lt_succ_self k)
    show ((pz_n8 F a k <<< ((8 : Int32).toInt64 &&& 63)) ||| (F (a + k)).toInt64).toBitVec = BitVec.ofNat 64 (pz_N 256 (fun i => (F (a + i)).toInt.toNat) k * 256 + (F (a + k)).toInt.toNat)
    rw [← pz_or8 _ _ (by omega), ← ih, Int64.toBitVec_or]
    have e1 : (pz_n8 F a k <<< ((8 : Int32).toInt64 &&& 63)).toBitVec = (pz_n8 F a k).toBitVec <<< 8 := by
      rw [show ((8 : Int32).toInt64 &&& 63) = (8 : Int64) by decide]
      rfl
    have e2 : ((F (a + k)).toInt64).toBitVec = BitVec.ofNat 64 (F (a + k)).toInt.toNat := by
      apply BitVec.eq_of_toInt_eq
      rw [show ((F (a + k)).toInt64).toBitVec.toInt = (F (a + k)).toInt64.toInt from rfl, Int32.toInt_toInt64]
      have e3 : (BitVec.ofNat 64 (F (a + k)).toInt.toNat).toNat = (F (a + k)).toInt.toNat := by
        rw [BitVec.toNat_ofNat, Nat.mod_eq_of_lt (by omega)]
      rw [BitVec.toInt_eq_toNat_of_lt (by rw [e3]; omega), e3]
      omega
    rw [e1, e2]
/-- digits below 128: the number is no negative one -/
theorem pz_N_half {d : Nat → Nat} : ∀ {k : Nat}, (∀ i, i < k → d i < 128) → 2 * pz_N 256 d k < 256 ^ k ∨ k = 0
  | 0, _ => Or.inr rfl
  | k + 1, h => by
    have hk := h k (Nat.lt_succ_self k)
    refine Or.inl ?_
    show 2 * (pz_N 256 d k * 256 + d k) < 256 ^ k * 256
    rcases pz_N_half (k := k) (fun i hi => h i (by omega)) with z | z
    · omega
    · subst z
      show 2 * (0 * 256 + d 0) < 1 * 256
      omega
