/-! TOKENS of a text: F its bytes, n how many, m how many may be read; no digit is broken. (compiled clean in light rounds of p17 as 77a.) -/
abbrev pz_l (c : Int32) : Prop := 97 ≤ c.toInt ∧ c.toInt ≤ 122
abbrev pz_d (c : Int32) : Prop := 48 ≤ c.toInt ∧ c.toInt ≤ 57
abbrev pz_b (c : Int32) : Prop := c.toInt = 32 ∨ c.toInt = 10
def pz_sk (F : Nat → Int32) (m : Nat) : Nat → Nat → Nat
  | 0, a => a
  | k + 1, a => if a < m ∧ pz_b (F a) then pz_sk F m k (a + 1) else a
/-- the first place from a on that is no blank, or m -/
def pz_skip (F : Nat → Int32) (m a : Nat) : Nat := pz_sk F m (m - a) a
def pz_wk (F : Nat → Int32) (n : Nat) : Nat → Nat → Nat
  | 0, a => a
  | k + 1, a => if a < n ∧ (pz_l (F a) ∨ pz_d (F a)) then pz_wk F n k (a + 1) else a
/-- where the letters and digits from a on end -/
def pz_end (F : Nat → Int32) (n a : Nat) : Nat := pz_wk F n (n - a) a
section PZ
variable {F : Nat → Int32} {m n a : Nat}
theorem pz_skip_s (h1 : a < m) (h2 : pz_b (F a)) : pz_skip F m a = pz_skip F m (a + 1) := by
  unfold pz_skip
  rw [show m - a = (m - (a + 1)) + 1 by omega]
  exact if_pos ⟨h1, h2⟩
theorem pz_skip_e (h : ¬ (a < m ∧ pz_b (F a))) : pz_skip F m a = a := by
  unfold pz_skip
  generalize m - a = k
  cases k with
  | zero => rfl
  | succ k => exact if_neg h
theorem pz_end_s (h1 : a < n) (h2 : pz_l (F a) ∨ pz_d (F a)) : pz_end F n a = pz_end F n (a + 1) := by
  unfold pz_end
  rw [show n - a = (n - (a + 1)) + 1 by omega]
  exact if_pos ⟨h1, h2⟩
theorem pz_end_e (h : ¬ (a < n ∧ (pz_l (F a) ∨ pz_d (F a)))) : pz_end F n a = a := by
  unfold pz_end
  generalize n - a = k
  cases k with
  | zero => rfl
  | succ k => exact if_neg h
end PZ
/-- the k places from a on are all letters, all digits -/
def pz_al (F : Nat → Int32) (a : Nat) : Nat → Prop
  | 0 => True
  | k + 1 => pz_al F a k ∧ pz_l (F (a + k))
def pz_ad (F : Nat → Int32) (a : Nat) : Nat → Prop
  | 0 => True
  | k + 1 => pz_ad F a k ∧ pz_d (F (a + k))
/-- a word as the class holds it, and as the reference does -/
def pz_n8 (F : Nat → Int32) (a : Nat) : Nat → Int64
  | 0 => 0
  | k + 1 => (pz_n8 F a k <<< ((8 : Int32).toInt64 &&& 63)) ||| (F (a + k)).toInt64
def pz_n27 (F : Nat → Int32) (a : Nat) : Nat → Int64
  | 0 => 0
  | k + 1 => if k < 8 then 27 * pz_n27 F a k + (F (a + k)).toInt64 - 96 else pz_n27 F a k
section PZ2
variable {F : Nat → Int32} {m n a k : Nat}
theorem pz_skip_b (F : Nat → Int32) (m : Nat) : ∀ (k a : Nat), a ≤ pz_sk F m k a ∧ (pz_sk F m k a ≤ m ∨ pz_sk F m k a = a)
  | 0, a => ⟨Nat.le_refl _, Or.inr rfl⟩
  | k + 1, a => by
    show a ≤ (if a < m ∧ pz_b (F a) then pz_sk F m k (a + 1) else a) ∧ ((if a < m ∧ pz_b (F a) then pz_sk F m k (a + 1) else a) ≤ m ∨ (if a < m ∧ pz_b (F a) then pz_sk F m k (a + 1) else a) = a)
    have ih := pz_skip_b F m k (a + 1)
    split
    · rename_i h
      omega
    · exact ⟨Nat.le_refl _, Or.inr rfl⟩
theorem pz_wk_b (F : Nat → Int32) (n : Nat) : ∀ (k a : Nat), a ≤ pz_wk F n k a ∧ (pz_wk F n k a ≤ n ∨ pz_wk F n k a = a)
  | 0, a => ⟨Nat.le_refl _, Or.inr rfl⟩
  | k + 1, a => by
    show a ≤ (if a < n ∧ (pz_l (F a) ∨ pz_d (F a)) then pz_wk F n k (a + 1) else a) ∧ ((if a < n ∧ (pz_l (F a) ∨ pz_d (F a)) then pz_wk F n k (a + 1) else a) ≤ n ∨ (if a < n ∧ (pz_l (F a) ∨ pz_d (F a)) then pz_wk F n k (a + 1) else a) = a)
    have ih := pz_wk_b F n k (a + 1)
    split
    · rename_i h
      omega
    · exact ⟨Nat.le_refl _, Or.inr rfl⟩
/-- what the reference leaves where the class leaves: the same word of the same bytes -/
def pz_N (B : Nat) (d : Nat → Nat) : Nat → Nat
  | 0 => 0
  | k + 1 => pz_N B d k * B + d k
theorem pz_N_lt {B : Nat} {d : Nat → Nat} (hd : ∀ i, i < k → d i < B) : pz_N B d k < B ^ k := by
  induction k with
  | zero => exact Nat.one_pos
  | succ k ih =>
    have h1 := ih (fun i hi => hd i (by omega))
    have h2 := hd k (Nat.lt_succ_self k)
    show pz_N B d k * B + d k < B ^ k * B
    calc pz_N B d k * B + d k < pz_N B d k * B + B := by omega
      _ = (pz_N B d k + 1) * B := by rw [Nat.add_mul, Nat.one_mul]
      _ ≤ B ^ k * B := Nat.mul_le_mul_right B h1
/-- digits that are never 0: the number tells length and digits -/
theorem pz_N_inj {B : Nat} : ∀ (k : Nat) {j : Nat} {d e : Nat → Nat}, (∀ i, i < k → 0 < d i ∧ d i < B) → (∀ i, i < j → 0 < e i ∧ e i < B) → pz_N B d k = pz_N B e j → k = j ∧ ∀ i, i < k → d i = e i
  | 0, 0, d, e, _, _, _ => ⟨rfl, fun i hi => absurd hi (Nat.not_lt_zero i)⟩
  | 0, j + 1, d, e, _, he, h => by
    have h1 := he j (Nat.lt_succ_self j)
    have h2 : 0 = pz_N B e j * B + e j := h
    omega
  | k + 1, 0, d, e, hd, _, h => by
    have h1 := hd k (Nat.lt_succ_self k)
    have h2 : pz_N B d k * B + d k = 0 := h
    omega
  | k + 1, j + 1, d, e, hd, he, h => by
    have h1 := hd k (Nat.lt_succ_self k)
    have h2 := he j (Nat.lt_succ_self j)
    have h3 : pz_N B d k * B + d k = pz_N B e j * B + e j := h
    have hB : 0 < B := by omega
    have h4 : d k = e j := by
      have z := congrArg (fun x => x % B) h3
      simp only [Nat.mul_comm _ B, Nat.mul_add_mod] at z
      rw [Nat.mod_eq_of_lt h1.2, Nat.mod_eq_of_lt h2.2] at z
      exact z
    have h5 : pz_N B d k = pz_N B e j := by
      have z : pz_N B d k * B = pz_N B e j * B := by omega
      exact Nat.eq_of_mul_eq_mul_right hB z
    obtain ⟨h6, h7⟩ := pz_N_inj k (fun i hi => hd i (by omega)) (fun i hi => he i (by omega)) h5
    subst h6
    exact ⟨rfl, fun i hi => by
      by_cases z : i = k
      · rw [z]; exact h4
      · exact h7 i (by omega)⟩
theorem pz_N_eq {B : Nat} {d e : Nat → Nat} : ∀ {k : Nat}, (∀ i, i < k → d i = e i) → pz_N B d k = pz_N B e k
  | 0, _ => rfl
  | k + 1, h => by
    show pz_N B d k * B + d k = pz_N B e k * B + e k
    rw [pz_N_eq (fun i hi => h i (by omega)), h k (Nat.lt_succ_self k)]
end PZ2
