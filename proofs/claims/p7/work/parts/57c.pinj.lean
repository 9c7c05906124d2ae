/-! Two words have the same number in bytes just if they have the same number in base 27. (compiled clean in light rounds of p17) -/
theorem pz_n8_inj {F G : Nat → Int32} {a b k j : Nat} (hk : k ≤ 8) (hj : j ≤ 8) (hF : ∀ i, i < k → pz_l (F (a + i))) (hG : ∀ i, i < j → pz_l (G (b + i))) : pz_n8 F a k = pz_n8 G b j ↔ k = j ∧ ∀ i, i < k → F (a + i) = G (b + i) := by
  constructor
  · intro h
    have e1 := pz_n8_N (F := F) (a := a) (k := k) (fun i hi => by have z := hF i hi; omega)
    have e2 := pz_n8_N (F := G) (a := b) (k := j) (fun i hi => by have z := hG i hi; omega)
    rw [h, e2] at e1
    have b1 : pz_N 256 (fun i => (F (a + i)).toInt.toNat) k < 2 ^ 64 := Nat.lt_of_lt_of_le (pz_N_lt (B := 256) (fun i hi => by have z := hF i hi; omega)) (show 256 ^ k ≤ 256 ^ 8 from Nat.pow_le_pow_right (by decide) hk)
    have b2 : pz_N 256 (fun i => (G (b + i)).toInt.toNat) j < 2 ^ 64 := Nat.lt_of_lt_of_le (pz_N_lt (B := 256) (fun i hi => by have z := hG i hi; omega)) (show 256 ^ j ≤ 256 ^ 8 from Nat.pow_le_pow_right (by decide) hj)
    have e3 := congrArg BitVec.toNat e1
    rw [BitVec.toNat_ofNat, BitVec.toNat_ofNat, Nat.mod_eq_of_lt b1, Nat.mod_eq_of_lt b2] at e3
    obtain ⟨z1, z2⟩ := pz_N_inj (B := 256) k (fun i hi => by have z := hF i hi; exact ⟨show 0 < (F (a + i)).toInt.toNat by omega, show (F (a + i)).toInt.toNat < 256 by omega⟩) (fun i hi => by have z := hG i hi; exact ⟨show 0 < (G (b + i)).toInt.toNat by omega, show (G (b + i)).toInt.toNat < 256 by omega⟩) e3.symm
    refine ⟨z1, fun i hi => zx_eq.mpr ?_⟩
    have z := z2 i hi
    have y1 := hF i hi
    have y2 := hG i (by omega)
    have z3 : (F (a + i)).toInt.toNat = (G (b + i)).toInt.toNat := z
    omega
  · rintro ⟨rfl, h⟩
    apply Int64.toBitVec_inj.mp
    rw [pz_n8_N (fun i hi => by have z := hF i hi; omega), pz_n8_N (fun i hi => by have z := hG i hi; omega)]
    exact congrArg _ (pz_N_eq (fun i hi => by show (F (a + i)).toInt.toNat = (G (b + i)).toInt.toNat; rw [h i hi]))
