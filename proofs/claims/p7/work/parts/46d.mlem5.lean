theorem mv_cnt {d1 d2 am lm : Nat → Int32} {t k i ln : Nat} (hS : mv_SS d1 d2 am lm) (ht : t < 9) (hk : (k : Int) < (lm t).toInt) (hl : ln = 12 * t + k) (hi : (i : Int) < (am ln).toInt) : mv_s d1 d2 am t k + mv_n d1 d2 ln (i + 1) ≤ 4 := by
  subst hl
  have h1 := hS t ht
  have h2 := mv_s_le (d1 := d1) (d2 := d2) (am := am) (t := t) (n := k + 1) (m := (lm t).toInt.toNat) (by omega)
  have h3 := mv_n_le (d1 := d1) (d2 := d2) (line := 12 * t + k) (n := i + 1) (m := (am (12 * t + k)).toInt.toNat) (by omega)
  have h4 : mv_s d1 d2 am t (k + 1) = mv_s d1 d2 am t k + mv_n d1 d2 (12 * t + k) (am (12 * t + k)).toInt.toNat := rfl
  omega
theorem mv_d_c (v : Int32) : v.toInt = 10 ∧ mv_d v = 1 ∨ ¬ v.toInt = 10 ∧ mv_d v = 0 := by
  unfold mv_d
  split
  · omega
  · omega
theorem mv_s_s {d1 d2 am : Nat → Int32} {t k ln : Nat} {x : Nat} (hl : ln = 12 * t + k) (hx : x = (am ln).toInt.toNat) : mv_s d1 d2 am t (k + 1) = mv_s d1 d2 am t k + mv_n d1 d2 ln x := by
  subst hl hx
  rfl
theorem mv_n_s {d1 d2 : Nat → Int32} {ln i m : Nat} (hm : m = 5 * ln + i) : mv_n d1 d2 ln (i + 1) = mv_n d1 d2 ln i + mv_d (d1 m) + mv_d (d2 m) := by
  subst hm
  rfl
