/-! The three key words. (compiled clean in light rounds of p17) -/
def pz_kS : Nat → Int32 := fun i => match i with
  | 0 => 115
  | 1 => 121
  | 2 => 115
  | 3 => 116
  | 4 => 101
  | _ => 109
theorem pz_keyS {F : Nat → Int32} {a k : Nat} (hk : k ≤ 8) (hF : ∀ i, i < k → pz_l (F (a + i))) : pz_n8 F a k = 126965465245037 ↔ pz_n27 F a k = 286303963 := by
  have z := pz_same (G := pz_kS) (b := 0) (j := 6) hk (by decide) hF (fun i hi => by
    rcases (show i = 0 ∨ i = 1 ∨ i = 2 ∨ i = 3 ∨ i = 4 ∨ i = 5 by omega) with rfl | rfl | rfl | rfl | rfl | rfl <;> decide)
  rw [show pz_n8 pz_kS 0 6 = 126965465245037 by decide, show pz_n27 pz_kS 0 6 = 286303963 by decide] at z
  exact z
def pz_kT : Nat → Int32 := fun i => match i with
  | 0 => 116
  | 1 => 111
  | 2 => 116
  | 3 => 97
  | _ => 108
theorem pz_keyT {F : Nat → Int32} {a k : Nat} (hk : k ≤ 8) (hF : ∀ i, i < k → pz_l (F (a + i))) : pz_n8 F a k = 500086104428 ↔ pz_n27 F a k = 10938684 := by
  have z := pz_same (G := pz_kT) (b := 0) (j := 5) hk (by decide) hF (fun i hi => by
    rcases (show i = 0 ∨ i = 1 ∨ i = 2 ∨ i = 3 ∨ i = 4 by omega) with rfl | rfl | rfl | rfl | rfl <;> decide)
  rw [show pz_n8 pz_kT 0 5 = 500086104428 by decide, show pz_n27 pz_kT 0 5 = 10938684 by decide] at z
  exact z
def pz_kG : Nat → Int32 := fun i => match i with
  | 0 => 103
  | 1 => 114
  | 2 => 97
  | 3 => 110
  | _ => 100
theorem pz_keyG {F : Nat → Int32} {a k : Nat} (hk : k ≤ 8) (hF : ∀ i, i < k → pz_l (F (a + i))) : pz_n8 F a k = 444300619364 ↔ pz_n27 F a k = 4075492 := by
  have z := pz_same (G := pz_kG) (b := 0) (j := 5) hk (by decide) hF (fun i hi => by
    rcases (show i = 0 ∨ i = 1 ∨ i = 2 ∨ i = 3 ∨ i = 4 by omega) with rfl | rfl | rfl | rfl | rfl <;> decide)
  rw [show pz_n8 pz_kG 0 5 = 444300619364 by decide, show pz_n27 pz_kG 0 5 = 4075492 by decide] at z
  exact z
