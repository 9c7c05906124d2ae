def mv_f (g F : Nat → Int32) : Prop := ∀ s k : Nat, s < 6 → 1 ≤ k → (k : Int) < (g s).toInt → 2 ≤ (F (5 * s + k)).toInt ∧ (F (5 * s + k)).toInt ≤ 60
theorem mv_F.f {u f : Nat} {q : Sg} {g F : Nat → Int32} (h : mv_F u f q) (h1 : q.2.2.2.1 u = g) (h2 : q.2.2.2.1 f = F) : mv_f g F := by
  subst h1 h2
  exact h
theorem mv_f.F {u f : Nat} {q : Sg} {g F : Nat → Int32} (h : mv_f g F) (h1 : q.2.2.2.1 u = g) (h2 : q.2.2.2.1 f = F) : mv_F u f q := by
  subst h1 h2
  exact h
theorem mv_f.up {g F : Nat → Int32} {s : Nat} {v : Int32} (h : mv_f g F) (hv : ∀ k : Nat, 1 ≤ k → (k : Int) < v.toInt → 2 ≤ (F (5 * s + k)).toInt ∧ (F (5 * s + k)).toInt ≤ 60) : mv_f (upd g s v) F := by
  intro s2 k hs h1 h2
  unfold upd at h2
  split at h2
  · rename_i e
    rw [e]
    exact hv k h1 h2
  · exact h s2 k hs h1 h2
theorem mv_f.upF {g F : Nat → Int32} {i : Nat} {v : Int32} (h : mv_f g F) (hi : ∀ s k : Nat, s < 6 → 1 ≤ k → (k : Int) < (g s).toInt → 5 * s + k ≠ i) : mv_f g (upd F i v) := by
  intro s2 k hs h1 h2
  unfold upd
  rw [if_neg (hi s2 k hs h1 h2)]
  exact h s2 k hs h1 h2
def mv_p (g F : Nat → Int32) (s0 u : Nat) : Prop := ∀ s k : Nat, s < 6 → 1 ≤ k → (k : Int) < (g s).toInt → (s ≠ s0 ∨ k < u) → 2 ≤ (F (5 * s + k)).toInt ∧ (F (5 * s + k)).toInt ≤ 60
theorem mv_f.p {g F : Nat → Int32} {s : Nat} {v : Int32} (h : mv_f g F) : mv_p (upd g s v) F s 0 := by
  intro s2 k hs h1 h2 h3
  unfold upd at h2
  split at h2
  · omega
  · exact h s2 k hs h1 h2
theorem mv_p.st {g F : Nat → Int32} {s u : Nat} {v : Int32} (h : mv_p g F s u) (hs : s < 3) (hu : u < 5) (hg : ∀ j, (g j).toInt ≤ 5) (he : g s = g (3 + s)) (hv : v = F (5 * (3 + s) + u)) : mv_p g (upd F (5 * s + u) v) s (u + 1) := by
  intro s2 k hs2 h1 h2 h3
  have hk := hg s2
  unfold upd
  split
  · rename_i e
    have e1 : s2 = s := by omega
    have e2 : k = u := by omega
    subst e1 e2
    rw [hv]
    exact h (3 + s2) k (by omega) h1 (by rw [← he]; exact h2) (Or.inl (by omega))
  · rename_i e
    exact h s2 k hs2 h1 h2 (by omega)
theorem mv_p.f {g F : Nat → Int32} {s u : Nat} (h : mv_p g F s u) (hu : 5 ≤ u) (hg : ∀ j, (g j).toInt ≤ 5) : mv_f g F := fun s2 k hs h1 h2 => h s2 k hs h1 h2 (Or.inr (by have := hg s2; omega))
theorem zy_cmp (x y : Int64) : x.toInt < y.toInt ∧ (lg_cmp x y).toInt = -1 ∨ x.toInt = y.toInt ∧ (lg_cmp x y).toInt = 0 ∨ y.toInt < x.toInt ∧ (lg_cmp x y).toInt = 1 := by
  unfold lg_cmp
  by_cases h1 : y < x
  · have := Int64.lt_iff_toInt_lt.mp h1
    simp [h1]
    omega
  · have h1' : ¬ y.toInt < x.toInt := fun z => h1 (Int64.lt_iff_toInt_lt.mpr z)
    by_cases h2 : x = y
    · subst h2
      simp
    · have h3 : x.toInt ≠ y.toInt := fun z => h2 (Int64.toInt_inj.mp z)
      simp [h1, h2]
      omega
theorem zy_div {x : Int64} (h : 0 ≤ x.toInt) : (x / 27).toInt = x.toInt / 27 := by
  have hb := zy_bd x
  have h27 : (27 : Int64).toInt = 27 := rfl
  rw [Int64.toInt_div, h27, Int.tdiv_eq_ediv_of_nonneg h, Int.bmod_eq_of_le (by omega) (by omega)]
theorem zy_m27 {x : Int64} (h : 0 ≤ x.toInt) (h2 : x.toInt ≤ 1000000000000) : (x * 27).toInt = x.toInt * 27 := by
  have h27 : (27 : Int64).toInt = 27 := rfl
  rw [zy_mul (by rw [h27]; omega) (by rw [h27]; omega), h27]
theorem zx_u1 {g : Nat → Int32} {i : Nat} {v : Int32} : upd g i v i = v := if_pos rfl
theorem zx_u2 {g : Nat → Int32} {i j : Nat} {v : Int32} (h : j ≠ i) : upd g i v j = g j := if_neg h
theorem mv_f.inc {g F : Nat → Int32} {s : Nat} {v : Int32} (h : mv_f g F) (hs : s < 6) (hv : v.toInt = (g s).toInt + 1) (h0 : 0 ≤ (g s).toInt) (hn : (g s).toInt = 0 ∨ 2 ≤ (F (5 * s + (g s).toInt.toNat)).toInt ∧ (F (5 * s + (g s).toInt.toNat)).toInt ≤ 60) : mv_f (upd g s v) F := h.up (fun k h1 h2 => by
  by_cases e9 : (k : Int) < (g s).toInt
  · exact h s k hs h1 e9
  · have e8 : (g s).toInt.toNat = k := by omega
    rw [e8] at hn
    rcases hn with z9 | z9
    · omega
    · exact z9)
theorem mv_f.new {g F : Nat → Int32} {s0 i : Nat} {v : Int32} (h : mv_f g F) (hg : ∀ j, (g j).toInt ≤ 5) (h0 : 0 ≤ (g s0).toInt) (h4 : (g s0).toInt ≤ 4) (hi : (i : Int) = 5 * (s0 : Int) + (g s0).toInt) : mv_f g (upd F i v) := h.upF (fun s k _ h1 h2 e9 => by
  have := hg s
  have e1 : s = s0 := by omega
  subst e1
  omega)
