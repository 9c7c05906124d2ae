/-! The reference: which of its int fields a method may change; what always holds of its rows. -/
def sx_kf (a : Nat) (S : List Nat) (q q' : Sg) : Prop := (∀ k, k ∉ S → q'.1 a k = q.1 a k) ∧ ∀ k, k ∉ S → q'.2.1 a k = q.2.1 a k
section KF
variable {a k : Nat} {S S2 : List Nat} {q q1 q2 : Sg} {v : Int32} {w : Int64}
theorem sx_kf.rf : sx_kf a S q q := ⟨fun _ _ => rfl, fun _ _ => rfl⟩
theorem sx_kf.tr (h1 : sx_kf a S q q1) (h2 : sx_kf a S q1 q2) : sx_kf a S q q2 := ⟨fun k hk => (h2.1 k hk).trans (h1.1 k hk), fun k hk => (h2.2 k hk).trans (h1.2 k hk)⟩
theorem sx_kf.mono (h1 : sx_kf a S q q1) (hs : ∀ k, k ∈ S → k ∈ S2) : sx_kf a S2 q q1 := ⟨fun k hk => h1.1 k (fun z => hk (hs k z)), fun k hk => h1.2 k (fun z => hk (hs k z))⟩
theorem sx_kf.pI (hk : k ∈ S) : sx_kf a S q (sg_pI q a k v) := ⟨fun j hj => if_neg (fun (z : a = a ∧ j = k) => hj (z.2 ▸ hk)), fun _ _ => rfl⟩
theorem sx_kf.pJ (hk : k ∈ S) : sx_kf a S q (sg_pJ q a k w) := ⟨fun _ _ => rfl, fun j hj => if_neg (fun (z : a = a ∧ j = k) => hj (z.2 ▸ hk))⟩
theorem sx_kf.eq (e : q1.1 = q.1) (e2 : q1.2.1 = q.2.1) : sx_kf a S q q1 := ⟨fun k _ => by rw [e], fun k _ => by rw [e2]⟩
end KF
theorem zx_nc (x : Int32) : x.toNatClampNeg = x.toInt.toNat := rfl
/-- kind NAME: a name of at most eight letters -/
def mv_N (a : Nat) (q : Sg) : Prop := (q.1 a 8).toInt = 2 → 0 ≤ (q.2.1 a 11).toInt ∧ (q.2.1 a 11).toInt < 282429536481
theorem mv_N.eq {a : Nat} {q q1 : Sg} (h1 : q1.1 a 8 = q.1 a 8) (h2 : q1.2.1 a 11 = q.2.1 a 11) (h : mv_N a q) : mv_N a q1 := by
  unfold mv_N
  rw [h1, h2]
  exact h
theorem mv_N.ne {a : Nat} {q : Sg} {v : Int32} (h1 : q.1 a 8 = v) (h2 : v.toInt ≠ 2) : mv_N a q := fun z => absurd z (by rw [h1]; exact h2)
/-- the factors of units that are there -/
def mv_F (u f : Nat) (q : Sg) : Prop := ∀ s k : Nat, s < 6 → 1 ≤ k → (k : Int) < (q.2.2.2.1 u s).toInt → 2 ≤ (q.2.2.2.1 f (5 * s + k)).toInt ∧ (q.2.2.2.1 f (5 * s + k)).toInt ≤ 60
theorem mv_F.eq {u f : Nat} {q q1 : Sg} (h1 : q1.2.2.2.1 u = q.2.2.2.1 u) (h2 : q1.2.2.2.1 f = q.2.2.2.1 f) (h : mv_F u f q) : mv_F u f q1 := by
  unfold mv_F
  rw [h1, h2]
  exact h
/-- the names of units -/
def mv_U (un : Nat) (q : Sg) : Prop := ∀ j : Nat, 0 ≤ (q.2.2.2.2 un j).toInt ∧ (q.2.2.2.2 un j).toInt < 282429536481
theorem mv_U.eq {un : Nat} {q q1 : Sg} (h1 : q1.2.2.2.2 un = q.2.2.2.2 un) (h : mv_U un q) : mv_U un q1 := by
  unfold mv_U
  rw [h1]
  exact h
theorem mv_U.up {un : Nat} {q1 : Sg} {g : Nat → Int64} {i : Nat} {v : Int64} (h1 : q1.2.2.2.2 un = vp_updL g i v) (hg : ∀ j : Nat, 0 ≤ (g j).toInt ∧ (g j).toInt < 282429536481) (hv : 0 ≤ v.toInt ∧ v.toInt < 282429536481) : mv_U un q1 := by
  intro j
  rw [h1]
  unfold vp_updL
  split
  · exact hv
  · exact hg j
/-- how many digits of a line, of a tablet's first lines, are broken off -/
def mv_d (v : Int32) : Nat := if v.toInt = 10 then 1 else 0
def mv_n (d1 d2 : Nat → Int32) (line : Nat) : Nat → Nat
  | 0 => 0
  | i + 1 => mv_n d1 d2 line i + mv_d (d1 (5 * line + i)) + mv_d (d2 (5 * line + i))
def mv_s (d1 d2 am : Nat → Int32) (t : Nat) : Nat → Nat
  | 0 => 0
  | k + 1 => mv_s d1 d2 am t k + mv_n d1 d2 (12 * t + k) (am (12 * t + k)).toInt.toNat
theorem mv_n_eq {d1 d2 e1 e2 : Nat → Int32} {line : Nat} : ∀ {n : Nat}, (∀ i, i < n → e1 (5 * line + i) = d1 (5 * line + i) ∧ e2 (5 * line + i) = d2 (5 * line + i)) → mv_n e1 e2 line n = mv_n d1 d2 line n
  | 0, _ => rfl
  | n + 1, h => by
    unfold mv_n
    rw [mv_n_eq (fun i hi => h i (by omega)), (h n (by omega)).1, (h n (by omega)).2]
theorem mv_s_eq {d1 d2 e1 e2 am an : Nat → Int32} {t : Nat} : ∀ {k : Nat}, (∀ j, j < k → an (12 * t + j) = am (12 * t + j) ∧ ∀ i : Nat, (i : Int) < (am (12 * t + j)).toInt → e1 (5 * (12 * t + j) + i) = d1 (5 * (12 * t + j) + i) ∧ e2 (5 * (12 * t + j) + i) = d2 (5 * (12 * t + j) + i)) → mv_s e1 e2 an t k = mv_s d1 d2 am t k
  | 0, _ => rfl
  | k + 1, h => by
    unfold mv_s
    rw [mv_s_eq (fun j hj => h j (by omega)), (h k (by omega)).1, mv_n_eq (fun i hi => (h k (by omega)).2 i (by omega))]
theorem mv_n_le {d1 d2 : Nat → Int32} {line : Nat} : ∀ {n m : Nat}, n ≤ m → mv_n d1 d2 line n ≤ mv_n d1 d2 line m
  | n, 0, h => by rw [Nat.le_zero.mp h]; exact Nat.le_refl _
  | n, m + 1, h => by
    by_cases e : n = m + 1
    · rw [e]; exact Nat.le_refl _
    · have := mv_n_le (d1 := d1) (d2 := d2) (line := line) (n := n) (m := m) (by omega)
      show _ ≤ mv_n d1 d2 line m + _ + _
      omega
theorem mv_s_le {d1 d2 am : Nat → Int32} {t : Nat} : ∀ {n m : Nat}, n ≤ m → mv_s d1 d2 am t n ≤ mv_s d1 d2 am t m
  | n, 0, h => by rw [Nat.le_zero.mp h]; exact Nat.le_refl _
  | n, m + 1, h => by
    by_cases e : n = m + 1
    · rw [e]; exact Nat.le_refl _
    · have := mv_s_le (d1 := d1) (d2 := d2) (am := am) (t := t) (n := n) (m := m) (by omega)
      show _ ≤ mv_s d1 d2 am t m + _
      omega
/-- of no tablet more than four digits are broken off -/
def mv_S (lm am d1 d2 : Nat) (q : Sg) : Prop := ∀ t : Nat, t < 9 → mv_s (q.2.2.2.1 d1) (q.2.2.2.1 d2) (q.2.2.2.1 am) t (q.2.2.2.1 lm t).toInt.toNat ≤ 4
theorem mv_S.eq {lm am d1 d2 : Nat} {q q1 : Sg} (h1 : q1.2.2.2.1 lm = q.2.2.2.1 lm) (h2 : q1.2.2.2.1 am = q.2.2.2.1 am) (h3 : q1.2.2.2.1 d1 = q.2.2.2.1 d1) (h4 : q1.2.2.2.1 d2 = q.2.2.2.1 d2) (h : mv_S lm am d1 d2 q) : mv_S lm am d1 d2 q1 := by
  unfold mv_S
  rw [h1, h2, h3, h4]
  exact h
/-- how many / stand in n letters from b on -/
def mv_c (le : Nat → Int32) (b : Nat) : Nat → Nat
  | 0 => 0
  | i + 1 => mv_c le b i + (if (le (b + i)).toInt = 47 then 1 else 0)
theorem mv_c_eq {le lf : Nat → Int32} {b : Nat} : ∀ {n : Nat}, (∀ i, i < n → lf (b + i) = le (b + i)) → mv_c lf b n = mv_c le b n
  | 0, _ => rfl
  | n + 1, h => by
    unfold mv_c
    rw [mv_c_eq (fun i hi => h i (by omega)), h n (by omega)]
theorem mv_c_le {le : Nat → Int32} {b : Nat} : ∀ {n m : Nat}, n ≤ m → mv_c le b n ≤ mv_c le b m
  | n, 0, h => by rw [Nat.le_zero.mp h]; exact Nat.le_refl _
  | n, m + 1, h => by
    by_cases e : n = m + 1
    · rw [e]; exact Nat.le_refl _
    · have := mv_c_le (le := le) (b := b) (n := n) (m := m) (by omega)
      show _ ≤ mv_c le b m + _
      omega
/-- the rows of fragments -/
def mv_L (le fl rm a : Nat) (q : Sg) : Prop := ∀ f : Nat, (f : Int) < (q.1 a 45).toInt → (q.2.2.2.1 rm f).toInt = 1 + (mv_c (q.2.2.2.1 le) (200 * f) (q.2.2.2.1 fl f).toInt.toNat : Nat)
theorem mv_L.eq {le fl rm a : Nat} {q q1 : Sg} (h1 : q1.2.2.2.1 le = q.2.2.2.1 le) (h2 : q1.2.2.2.1 fl = q.2.2.2.1 fl) (h3 : q1.2.2.2.1 rm = q.2.2.2.1 rm) (h4 : q1.1 a 45 = q.1 a 45) (h : mv_L le fl rm a q) : mv_L le fl rm a q1 := by
  unfold mv_L
  rw [h1, h2, h3, h4]
  exact h
/-- powers of 27, of 60 -/
def zx_q (n : Int) : Int := if n ≤ 0 then 1 else if n ≤ 1 then 27 else if n ≤ 2 then 729 else if n ≤ 3 then 19683 else if n ≤ 4 then 531441 else if n ≤ 5 then 14348907 else if n ≤ 6 then 387420489 else if n ≤ 7 then 10460353203 else 282429536481
def zx_p (n : Int) : Int := if n ≤ 1 then 1 else if n ≤ 2 then 60 else if n ≤ 3 then 3600 else if n ≤ 4 then 216000 else 12960000
theorem zx_q_s {n : Int} (h0 : 0 ≤ n) (h1 : n < 8) : zx_q (n + 1) = 27 * zx_q n := by
  unfold zx_q
  rcases (show n = 0 ∨ n = 1 ∨ n = 2 ∨ n = 3 ∨ n = 4 ∨ n = 5 ∨ n = 6 ∨ n = 7 by omega) with z | z | z | z | z | z | z | z <;> subst z <;> decide
theorem zx_q_8 {n : Int} (h0 : 8 ≤ n) : zx_q n = 282429536481 := by
  unfold zx_q
  rw [if_neg (by omega), if_neg (by omega), if_neg (by omega), if_neg (by omega), if_neg (by omega), if_neg (by omega), if_neg (by omega), if_neg (by omega)]
theorem zx_q_le (n : Int) : 1 ≤ zx_q n ∧ zx_q n ≤ 282429536481 := by
  unfold zx_q
  repeat' split
  all_goals omega
theorem zx_p_s {n : Int} (h0 : 1 ≤ n) (h1 : n ≤ 4) : zx_p (n + 1) = 60 * zx_p n := by
  unfold zx_p
  rcases (show n = 1 ∨ n = 2 ∨ n = 3 ∨ n = 4 by omega) with z | z | z | z <;> subst z <;> decide
theorem zx_p_le (n : Int) : 1 ≤ zx_p n ∧ zx_p n ≤ 12960000 := by
  unfold zx_p
  repeat' split
  all_goals omega
theorem zx_wor {v f : Int32} {n : Int} (h0 : 1 ≤ n) (h1 : n ≤ 4) (hv : 1 ≤ v.toInt ∧ v.toInt ≤ zx_p n) (hf : 2 ≤ f.toInt ∧ f.toInt ≤ 60) : 1 ≤ (v * f).toInt ∧ (v * f).toInt ≤ zx_p (n + 1) := by
  have hp := zx_p_le (n + 1)
  rw [zx_p_s h0 h1] at hp ⊢
  have h2 : v.toInt * f.toInt ≤ zx_p n * 60 := Int.mul_le_mul hv.2 hf.2 (by omega) (by have := zx_p_le n; omega)
  have h3 : 1 * 1 ≤ v.toInt * f.toInt := Int.mul_le_mul hv.1 (by omega) (by omega) (by omega)
  rw [zx_mul (by omega) (by omega)]
  omega
theorem zy_bd (x : Int64) : -9223372036854775808 ≤ x.toInt ∧ x.toInt < 9223372036854775808 := ⟨Int64.le_toInt x, Int64.toInt_lt x⟩
theorem zy_add {x y : Int64} (h1 : -9223372036854775808 ≤ x.toInt + y.toInt) (h2 : x.toInt + y.toInt < 9223372036854775808) : (x + y).toInt = x.toInt + y.toInt := by
  rw [Int64.toInt_add, Int.bmod_eq_of_le (by omega) (by omega)]
theorem zy_sub {x y : Int64} (h1 : -9223372036854775808 ≤ x.toInt - y.toInt) (h2 : x.toInt - y.toInt < 9223372036854775808) : (x - y).toInt = x.toInt - y.toInt := by
  rw [Int64.toInt_sub, Int.bmod_eq_of_le (by omega) (by omega)]
theorem zy_mul {x y : Int64} (h1 : -9223372036854775808 ≤ x.toInt * y.toInt) (h2 : x.toInt * y.toInt < 9223372036854775808) : (x * y).toInt = x.toInt * y.toInt := by
  rw [Int64.toInt_mul, Int.bmod_eq_of_le (by omega) (by omega)]
theorem zy_i (x : Int32) : x.toInt64.toInt = x.toInt := by simp
theorem zx_name {name : Int64} {d : Int32} {n : Int} (h0 : 0 ≤ n) (hn : 0 ≤ name.toInt ∧ name.toInt < zx_q n) (hd : 97 ≤ d.toInt ∧ d.toInt ≤ 122) (h8 : n < 8) : 0 ≤ (27 * name + d.toInt64 - 96).toInt ∧ (27 * name + d.toInt64 - 96).toInt < zx_q (n + 1) := by
  have hq := zx_q_le n
  have hi := zy_i d
  have h27 : (27 : Int64).toInt = 27 := rfl
  have h96 : (96 : Int64).toInt = 96 := rfl
  have e1 : (27 * name).toInt = 27 * name.toInt := by
    rw [zy_mul (by rw [h27]; omega) (by rw [h27]; omega), h27]
  have e2 : (27 * name + d.toInt64).toInt = 27 * name.toInt + d.toInt := by
    rw [zy_add (by rw [e1, hi]; omega) (by rw [e1, hi]; omega), e1, hi]
  have e3 : (27 * name + d.toInt64 - 96).toInt = 27 * name.toInt + d.toInt - 96 := by
    rw [zy_sub (by rw [e2, h96]; omega) (by rw [e2, h96]; omega), e2, h96]
  rw [e3, zx_q_s h0 h8]
  omega
