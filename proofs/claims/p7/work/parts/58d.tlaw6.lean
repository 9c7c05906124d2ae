/-! What always holds in p6's law: p17's, and the Units in use say what the reference's rows 0 to 2 say. -/
def lc_dz (q : Sg) (uu su : Nat) : Prop := ¬ uu = su ∧ ∀ k, k < 6 → ¬ q.2.2.1 uu k = q.2.2.1 su k
theorem lc_dz.sw {q : Sg} {uu su : Nat} (h : lc_dz q uu su) : lc_dz q su uu := ⟨fun e => h.1 e.symm, fun k hk e => h.2 k hk e.symm⟩
theorem lc_dz.eq {q q2 : Sg} {uu su : Nat} (h : lc_dz q uu su) (h1 : q2.2.2.1 uu = q.2.2.1 uu) (h2 : q2.2.2.1 su = q.2.2.1 su) : lc_dz q2 uu su := ⟨h.1, fun k hk => by rw [h1, h2]; exact h.2 k hk⟩
def lc_uq (q : Sg) (a0 uu m17 m18 m19 : Nat) : Prop := lc_u (q.1 uu 6) (q.1 a0 20) (q.2.2.2.1 (q.2.2.1 uu 1)) (q.2.2.2.1 m18) (q.2.2.2.1 (q.2.2.1 uu 3)) (q.2.2.2.1 m19) (q.2.2.2.1 (q.2.2.1 uu 4)) (q.2.2.2.2 (q.2.2.1 uu 2)) (q.2.2.2.2 m17)
def lc_I6 (h : Sh) (L : List Nat) (x0 a0 t0 tb fa : Nat) (mm : Nat → Nat) (q : Sg) : Prop := lc_I7 h L x0 a0 t0 tb fa mm q ∧ ∃ uu su : Nat, q.2.2.1 x0 11 = uu ∧ q.2.2.1 x0 12 = su ∧ lc_dz q uu su ∧ lc_uq q a0 uu (mm 17) (mm 18) (mm 19)
/-- both answers of systems are read off the same run; then the Units in use -/
theorem lc_sy6 {F : Nat → Int32} {R : Option Nat × PU} {r1 r2 : Int32} {A1 A2 B1 B2 : Prop} (h1 : A1 ∧ (∃ p : Nat, R.1 = some p ∧ r1.toInt = -1 - (p : Int)) ∨ A2 ∧ R.1 = none ∧ r1.toInt = ((R.2.1 : Nat) : Int)) (h2 : (∃ p : Nat, R.1 = some p ∧ r2.toInt = -1 - (p : Int)) ∧ B1 ∨ R.1 = none ∧ r2.toInt = ((R.2.1 : Nat) : Int) ∧ B2) : r1.toInt = r2.toInt ∧ (A1 ∧ B1 ∨ A2 ∧ B2) := by
  rcases h1 with ⟨a1, p, z1, z2⟩ | ⟨a2, z1, z2⟩
  · rcases h2 with ⟨⟨p2, z3, z4⟩, b1⟩ | ⟨z3, z4, b2⟩
    · rw [z1] at z3
      injection z3 with z3
      subst z3
      exact ⟨by omega, Or.inl ⟨a1, b1⟩⟩
    · rw [z1] at z3
      exact absurd z3 (by intro z; injection z)
  · rcases h2 with ⟨⟨p2, z3, z4⟩, b1⟩ | ⟨z3, z4, b2⟩
    · rw [z1] at z3
      exact absurd z3 (by intro z; injection z)
    · exact ⟨by omega, Or.inr ⟨a2, b2⟩⟩
