/-! A word as the reference holds it: base 27. (compiled clean in light rounds of p17) -/
theorem pz_n27_N {F : Nat → Int32} {a : Nat} : ∀ {k : Nat}, k ≤ 8 → (∀ i, i < k → pz_l (F (a + i))) → (pz_n27 F a k).toInt = ((pz_N 27 (fun i => ((F (a + i)).toInt - 96).toNat) k : Nat) : Int)
  | 0, _, _ => rfl
  | k + 1, hk, h => by
    have ih := pz_n27_N (k := k) (by omega) (fun i hi => h i (by omega))
    have hl := h k (Nat.lt_succ_self k)
    have hb : pz_N 27 (fun i => ((F (a + i)).toInt - 96).toNat) k < 27 ^ 8 := Nat.lt_of_lt_of_le (pz_N_lt (B := 27) (fun i hi => by have z := h i (by omega); show ((F (a + i)).toInt - 96).toNat < 27; omega)) (Nat.pow_le_pow_right (by decide) (by omega))
    have hb2 : (27 : Nat) ^ 8 = 282429536481 := by decide
    rw [hb2] at hb
    have e : pz_n27 F a (k + 1) = 27 * pz_n27 F a k + (F (a + k)).toInt64 - 96 := if_pos (show k < 8 by omega)
    have h27 : (27 : Int64).toInt = 27 := rfl
    have h96 : (96 : Int64).toInt = 96 := rfl
    have m1 : (27 * pz_n27 F a k).toInt = 27 * (pz_n27 F a k).toInt := by
      rw [zy_mul (by rw [h27]; omega) (by rw [h27]; omega), h27]
    have m2 : (27 * pz_n27 F a k + (F (a + k)).toInt64).toInt = 27 * (pz_n27 F a k).toInt + (F (a + k)).toInt := by
      rw [zy_add (by rw [m1, Int32.toInt_toInt64]; omega) (by rw [m1, Int32.toInt_toInt64]; omega), m1, Int32.toInt_toInt64]
    have m3 : (27 * pz_n27 F a k + (F (a + k)).toInt64 - 96).toInt = 27 * (pz_n27 F a k).toInt + (F (a + k)).toInt - 96 := by
      rw [zy_sub (by rw [m2, h96]; omega) (by rw [m2, h96]; omega), m2, h96]
    rw [e, m3, ih]
    show 27 * ((pz_N 27 (fun i => ((F (a + i)).toInt - 96).toNat) k : Nat) : Int) + (F (a + k)).toInt - 96 = ((pz_N 27 (fun i => ((F (a + i)).toInt - 96).toNat) k * 27 + ((F (a + k)).toInt - 96).toNat : Nat) : Int)
    omega
theorem pz_n27_inj {F G : Nat → Int32} {a b k j : Nat} (hk : k ≤ 8) (hj : j ≤ 8) (hF : ∀ i, i < k → pz_l (F (a + i))) (hG : ∀ i, i < j → pz_l (G (b + i))) : pz_n27 F a k = pz_n27 G b j ↔ k = j ∧ ∀ i, i < k → F (a + i) = G (b + i) := by
  constructor
  · intro h
    have e1 := pz_n27_N hk hF
    rw [h, pz_n27_N hj hG] at e1
    obtain ⟨z1, z2⟩ := pz_N_inj (B := 27) k (fun i hi => by have z := hF i hi; exact ⟨show 0 < ((F (a + i)).toInt - 96).toNat by omega, show ((F (a + i)).toInt - 96).toNat < 27 by omega⟩) (fun i hi => by have z := hG i hi; exact ⟨show 0 < ((G (b + i)).toInt - 96).toNat by omega, show ((G (b + i)).toInt - 96).toNat < 27 by omega⟩) (Int.ofNat.inj e1.symm)
    refine ⟨z1, fun i hi => zx_eq.mpr ?_⟩
    have z : ((F (a + i)).toInt - 96).toNat = ((G (b + i)).toInt - 96).toNat := z2 i hi
    have y1 := hF i hi
    have y2 := hG i (by omega)
    omega
  · rintro ⟨rfl, h⟩
    apply Int64.toInt_inj.mp
    rw [pz_n27_N hk hF, pz_n27_N hj hG]
    exact congrArg _ (pz_N_eq (fun i hi => by show ((F (a + i)).toInt - 96).toNat = ((G (b + i)).toInt - 96).toNat; rw [h i hi]))
/-- the class's name and the reference's tell the same words apart -/
theorem pz_same {F G : Nat → Int32} {a b k j : Nat} (hk : k ≤ 8) (hj : j ≤ 8) (hF : ∀ i, i < k → pz_l (F (a + i))) (hG : ∀ i, i < j → pz_l (G (b + i))) : pz_n8 F a k = pz_n8 G b j ↔ pz_n27 F a k = pz_n27 G b j := (pz_n8_inj hk hj hF hG).trans (pz_n27_inj hk hj hF hG).symm
