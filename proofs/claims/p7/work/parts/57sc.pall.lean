/-! All UNITS of a VALUE, from the greatest on: u of them are left, r is what is left of it. -/
def pw_all (W : Nat → Nat) (X : Nat → List Nat) : Nat → Nat → List Nat → List Nat
  | 0, _, l => l
  | u + 1, r, l => pw_all W X u (r % W u) (if 0 < r / W u then pw_amt (r / W u) (X u) l else l)
def pw_I (P : List Nat → Prop) (W : Nat → Nat) (X : Nat → List Nat) (T : List Nat) (u r : Nat) : Prop := ∃ l : List Nat, P l ∧ (pw_a1 l).length + 12 * u ≤ 60 ∧ pw_all W X u r l = T ∧ (0 < u → r / W (u - 1) ≤ 99)
section PI
variable {P Q : List Nat → Prop} {W : Nat → Nat} {X : Nat → List Nat} {T l : List Nat} {u r : Nat}
theorem pw_99 (h1 : 1 ≤ W u) (h2 : 1 ≤ u → W u ≤ 60 * W (u - 1)) (hu : 0 < u) : r % W u / W (u - 1) ≤ 99 := by
  have z := Nat.mod_lt r (show W u > 0 from h1)
  have y := h2 hu
  have x : r % W u / W (u - 1) < 60 := Nat.div_lt_of_lt_mul (by rw [Nat.mul_comm]; omega)
  omega
theorem pw_I.z (h : pw_I P W X T (u + 1) r) (h0 : r / W u = 0) (h1 : 1 ≤ W u) (h2 : 1 ≤ u → W u ≤ 60 * W (u - 1)) : pw_I P W X T u (r % W u) := by
  obtain ⟨l, c1, c2, c3, -⟩ := h
  have c4 : pw_all W X u (r % W u) (if 0 < r / W u then pw_amt (r / W u) (X u) l else l) = T := c3
  rw [if_neg (by omega)] at c4
  exact ⟨l, c1, by omega, c4, pw_99 h1 h2⟩
theorem pw_I.s (c2 : (pw_a1 l).length + 12 * (u + 1) ≤ 60) (c3 : pw_all W X (u + 1) r l = T) (hQ : Q (pw_amt (r / W u) (X u) l)) (h0 : 0 < r / W u) (hX : (X u).length ≤ 8) (h1 : 1 ≤ W u) (h2 : 1 ≤ u → W u ≤ 60 * W (u - 1)) : pw_I Q W X T u (r % W u) := by
  have c4 : pw_all W X u (r % W u) (if 0 < r / W u then pw_amt (r / W u) (X u) l else l) = T := c3
  rw [if_pos h0] at c4
  have z := pw_amt_len (t := r / W u) (l := l) hX
  exact ⟨_, hQ, by omega, c4, pw_99 h1 h2⟩
theorem pw_I.b (h0 : P []) (h5 : u ≤ 5) (hT : pw_all W X u r [] = T) (h9 : 0 < u → r / W (u - 1) ≤ 99) : pw_I P W X T u r := ⟨[], h0, by show 0 + 12 * u ≤ 60; omega, hT, h9⟩
theorem pw_I.e (h : pw_I P W X T 0 r) : P T := by
  obtain ⟨l, c1, -, c3, -⟩ := h
  have c4 : l = T := c3
  rw [← c4]
  exact c1
end PI
/-- how often, and what is left -/
theorem pw_dm {r w t : Int32} {m : Nat} (h0 : 0 ≤ r.toInt) (hw : w.toInt = (m : Int)) (h1 : 1 ≤ m) (ht : t = r / w) : 0 ≤ t.toInt ∧ t.toInt.toNat = r.toInt.toNat / m := by
  have e : r.toInt / (m : Int) = ((r.toInt.toNat / m : Nat) : Int) := by rw [Int.natCast_ediv, Int.toNat_of_nonneg h0]
  rw [ht, zx_div h0 (by omega), hw, e]
  exact ⟨Int.natCast_nonneg _, Int.toNat_natCast _⟩
theorem pw_rm {r w t p r2 : Int32} {m : Nat} (h0 : 0 ≤ r.toInt) (hw : w.toInt = (m : Int)) (h1 : 1 ≤ m) (ht : t = r / w) (hp : p = t * w) (h2 : r2 = r - p) : 0 ≤ r2.toInt ∧ r2.toInt.toNat = r.toInt.toNat % m := by
  have b := zx_bd r
  have ht' : t.toInt = r.toInt / (m : Int) := by rw [ht, zx_div h0 (by omega), hw]
  have a1 : r.toInt / (m : Int) * (m : Int) ≤ r.toInt := Int.ediv_mul_le _ (by omega)
  have a2 : 0 ≤ r.toInt / (m : Int) * (m : Int) := Int.mul_nonneg (Int.ediv_nonneg h0 (by omega)) (by omega)
  have e : r.toInt % (m : Int) = r.toInt - r.toInt / (m : Int) * (m : Int) := by rw [Int.emod_def, Int.mul_comm (m : Int)]
  have hp0 : t.toInt * w.toInt = r.toInt / (m : Int) * (m : Int) := by rw [ht', hw]
  obtain ⟨z, ez⟩ : ∃ z, z = r.toInt / (m : Int) * (m : Int) := ⟨_, rfl⟩
  rw [← ez] at a1 a2 e hp0
  have hp' : p.toInt = z := by rw [hp, zx_mul (by rw [hp0]; omega) (by rw [hp0]; omega), hp0]
  have h2' : r2.toInt = r.toInt - z := by rw [h2, zx_sub (by rw [hp']; omega) (by rw [hp']; omega), hp']
  rw [h2', ← e]
  exact ⟨Int.emod_nonneg _ (by omega), Int.toNat_emod h0 (by omega)⟩
/-! Worths. -/
theorem pw_wo_eq {f g : Nat → Int32} {s : Nat} : ∀ {u : Nat}, (∀ j, 1 ≤ j → j ≤ u → g (5 * s + j) = f (5 * s + j)) → pu_wo g s u = pu_wo f s u
  | 0, _ => rfl
  | u + 1, h => by
    show g (5 * s + (u + 1)) * pu_wo g s u = f (5 * s + (u + 1)) * pu_wo f s u
    rw [h (u + 1) (by omega) (Nat.le_refl _), pw_wo_eq (fun j h1 hj => h j h1 (by omega))]
theorem pw_wo_b {f : Nat → Int32} {s : Nat} : ∀ {u : Nat}, u ≤ 4 → (∀ j, 1 ≤ j → j ≤ u → 2 ≤ (f (5 * s + j)).toInt ∧ (f (5 * s + j)).toInt ≤ 60) → 1 ≤ (pu_wo f s u).toInt ∧ (pu_wo f s u).toInt ≤ zx_p ((u : Int) + 1) ∧ (1 ≤ u → (pu_wo f s u).toInt ≤ 60 * (pu_wo f s (u - 1)).toInt)
  | 0, _, _ => ⟨by show (1 : Int) ≤ (1 : Int32).toInt; decide, by show (1 : Int32).toInt ≤ zx_p 1; decide, fun z => absurd z (by decide)⟩
  | u + 1, hu, h => by
    obtain ⟨i1, i2, -⟩ := pw_wo_b (u := u) (by omega) (fun j h1 hj => h j h1 (by omega))
    have hf := h (u + 1) (by omega) (Nat.le_refl _)
    have hp := zx_p_le ((u : Int) + 1 + 1)
    have hs := zx_p_s (n := (u : Int) + 1) (by omega) (by omega)
    have e : pu_wo f s (u + 1) = pu_wo f s u * f (5 * s + (u + 1)) := Int32.mul_comm _ _
    rw [e, show u + 1 - 1 = u from rfl, show ((u + 1 : Nat) : Int) + 1 = (u : Int) + 1 + 1 by omega]
    generalize pu_wo f s u = v at i1 i2 ⊢
    generalize f (5 * s + (u + 1)) = g at hf ⊢
    have m1 : v.toInt * g.toInt ≤ v.toInt * 60 := Int.mul_le_mul_of_nonneg_left hf.2 (by omega)
    have m2 : 1 * 1 ≤ v.toInt * g.toInt := Int.mul_le_mul i1 (by omega) (by omega) (by omega)
    rw [zx_mul (by omega) (by omega)]
    exact ⟨by omega, by omega, fun _ => by omega⟩
/-! What write must know of a SYSTEM, on both sides. -/
def pw_c (W : Nat → Nat) (X : Nat → List Nat) (c : Int32) (WO : Nat → Int32) (NM : Nat → Int64) (s : Nat) : Prop := (1 ≤ c.toInt ∧ c.toInt ≤ 5) ∧ ∀ u : Nat, (u : Int) < c.toInt → (WO (5 * s + u)).toInt = ((W u : Nat) : Int) ∧ 1 ≤ W u ∧ (1 ≤ u → W u ≤ 60 * W (u - 1)) ∧ pw_8 (NM (5 * s + u)) (X u)
def pw_r (W : Nat → Nat) (X : Nat → List Nat) (c : Int32) (FA : Nat → Int32) (UN : Nat → Int64) (s : Nat) : Prop := (1 ≤ c.toInt ∧ c.toInt ≤ 5) ∧ ∀ u : Nat, (u : Int) < c.toInt → (pu_wo FA s u).toInt = ((W u : Nat) : Int) ∧ 1 ≤ W u ∧ (1 ≤ u → W u ≤ 60 * W (u - 1)) ∧ pw_27 (UN (5 * s + u)) (X u)
/-- both OUTs are the same -/
theorem pw_CR {l : List Nat} {sz sz2 : Int32} {f g : Nat → Int32} (h : pw_C l sz f) (h2 : pw_R l sz2 g) : sz.toInt = sz2.toInt ∧ ty_T f g sz.toInt.toNat := by
  obtain ⟨a1, a2⟩ := h
  obtain ⟨b1, b2⟩ := h2
  refine ⟨by omega, fun j hj => zx_eq.mpr ?_⟩
  rw [a2 j (by omega), b2 j (by omega)]
