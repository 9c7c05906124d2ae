/-! Both answers of systems are read off the same run. -/
theorem lc_sy {R : Option Nat × PU} {r1 r2 : Int32} (h1 : (∃ p : Nat, R.1 = some p ∧ r1.toInt = -1 - (p : Int)) ∨ R.1 = none ∧ r1.toInt = ((R.2.1 : Nat) : Int)) (h2 : (∃ p : Nat, R.1 = some p ∧ r2.toInt = -1 - (p : Int)) ∨ R.1 = none ∧ r2.toInt = ((R.2.1 : Nat) : Int)) : r1.toInt = r2.toInt := by
  rcases h1 with ⟨p, z1, z2⟩ | ⟨z1, z2⟩
  · rcases h2 with ⟨p2, z3, z4⟩ | ⟨z3, z4⟩
    · rw [z1] at z3
      injection z3 with z3
      subst z3
      omega
    · rw [z1] at z3
      exact absurd z3 (by intro z; injection z)
  · rcases h2 with ⟨p2, z3, z4⟩ | ⟨z3, z4⟩
    · rw [z1] at z3
      exact absurd z3 (by intro z; injection z)
    · omega
