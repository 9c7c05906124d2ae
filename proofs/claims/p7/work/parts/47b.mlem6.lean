def mv_l (le fl rm : Nat → Int32) (n : Int) : Prop := ∀ f : Nat, (f : Int) < n → (rm f).toInt = 1 + (mv_c le (200 * f) (fl f).toInt.toNat : Nat)
theorem mv_L.f {le fl rm a : Nat} {q : Sg} {gle gfl grm : Nat → Int32} {n : Int} (h : mv_L le fl rm a q) (h1 : q.2.2.2.1 le = gle) (h2 : q.2.2.2.1 fl = gfl) (h3 : q.2.2.2.1 rm = grm) (h4 : (q.1 a 45).toInt = n) : mv_l gle gfl grm n := by
  subst h1 h2 h3 h4
  exact h
theorem mv_l.L {le fl rm a : Nat} {q : Sg} {gle gfl grm : Nat → Int32} {n : Int} (h : mv_l gle gfl grm n) (h1 : q.2.2.2.1 le = gle) (h2 : q.2.2.2.1 fl = gfl) (h3 : q.2.2.2.1 rm = grm) (h4 : (q.1 a 45).toInt = n) : mv_L le fl rm a q := by
  subst h1 h2 h3 h4
  exact h
theorem mv_l.le {le fl rm : Nat → Int32} {n : Int} {i : Nat} {v : Int32} (h : mv_l le fl rm n) (hf : ∀ j, (fl j).toInt ≤ 200) (hi : 200 * n ≤ (i : Int)) : mv_l (upd le i v) fl rm n := by
  intro f hn
  rw [h f hn, mv_c_eq (fun j hj => zx_u2 (by have := hf f; omega))]
theorem mv_l.rm {le fl rm : Nat → Int32} {n : Int} {i : Nat} {v : Int32} (h : mv_l le fl rm n) (hi : n ≤ (i : Int)) : mv_l le fl (upd rm i v) n := by
  intro f hn
  rw [zx_u2 (by omega)]
  exact h f hn
theorem mv_l.fl {le fl rm : Nat → Int32} {n : Int} {i : Nat} {v : Int32} (h : mv_l le fl rm n) (hi : n ≤ (i : Int)) : mv_l le (upd fl i v) rm n := by
  intro f hn
  rw [zx_u2 (by omega)]
  exact h f hn
theorem mv_l.inc {le fl rm : Nat → Int32} {n : Int} {i : Nat} (h : mv_l le fl rm n) (hi : (i : Int) = n) (hr : (rm i).toInt = 1 + (mv_c le (200 * i) (fl i).toInt.toNat : Nat)) : mv_l le fl rm (n + 1) := by
  intro f hn
  by_cases e : f = i
  · rw [e]
    exact hr
  · exact h f (by omega)
theorem mv_c_b {le : Nat → Int32} {b : Nat} : ∀ n : Nat, mv_c le b n ≤ n
  | 0 => Nat.le_refl 0
  | n + 1 => by
    have := mv_c_b (le := le) (b := b) n
    show mv_c le b n + _ ≤ n + 1
    split <;> omega
theorem mv_c_s {le : Nat → Int32} {b n m : Nat} (hm : m = b + n) : mv_c le b (n + 1) = mv_c le b n + (if (le m).toInt = 47 then 1 else 0) := by
  subst hm
  rfl
theorem mv_c_w {le : Nat → Int32} {b n i : Nat} {v : Int32} (hi : i = b + n) : mv_c (upd le i v) b (n + 1) = mv_c le b n + (if v.toInt = 47 then 1 else 0) := by
  rw [mv_c_s hi, zx_u1, mv_c_eq (fun j hj => zx_u2 (by omega))]
def zx_d (n k : Int) : Int := n / 2 ^ k.toNat
theorem zx_d_0 (n : Int) : zx_d n 0 = n := by simp [zx_d]
theorem zx_d_s {n k : Int} (hk : 0 ≤ k) : zx_d n (k + 1) = zx_d n k / 2 := by
  unfold zx_d
  rw [show (k + 1).toNat = k.toNat + 1 by omega, Int.pow_succ, Int.ediv_ediv_of_nonneg (Int.le_of_lt (Int.pow_pos (by decide)))]
theorem zx_d_12 {n : Int} (h0 : 0 ≤ n) (h : n ≤ 4095) : zx_d n 12 = 0 := by
  show n / 4096 = 0
  omega
theorem zx_shr {n k : Int32} (h0 : 0 ≤ k.toInt) (h1 : k.toInt ≤ 12) : (n >>> (k &&& 31)).toInt = zx_d n.toInt k.toInt := by
  have hs : ((k &&& 31).toBitVec.smod 32).toNat = k.toInt.toNat := by
    obtain ⟨j, rfl⟩ := zx_fin (m := 13) h0 (by omega) (by decide)
    revert j
    decide
  rw [pk_shr _ _ _ hs, Int.shiftRight_eq_div_pow]
  rfl
theorem zx_tn {x : Int32} (hx : 0 ≤ x.toInt) : x.toInt = (x.toBitVec.toNat : Int) ∧ x.toBitVec.toNat < 2147483648 := by
  have h2 := BitVec.toInt_eq_toNat_cond x.toBitVec
  have h4 : x.toBitVec.toInt = x.toInt := rfl
  have h3 := x.toBitVec.isLt
  split at h2 <;> omega
theorem zx_ti {x : Int32} (hx : x.toBitVec.toNat < 2147483648) : x.toInt = (x.toBitVec.toNat : Int) := by
  have h2 := BitVec.toInt_eq_toNat_cond x.toBitVec
  have h4 : x.toBitVec.toInt = x.toInt := rfl
  rw [if_pos (by omega)] at h2
  omega
theorem zx_and1 {x : Int32} (hx : 0 ≤ x.toInt) : (x &&& 1).toInt = x.toInt % 2 := by
  have h1 := zx_tn hx
  have h2 : (x &&& 1).toBitVec.toNat = x.toBitVec.toNat % 2 := by
    rw [Int32.toBitVec_and, BitVec.toNat_and]
    exact Nat.and_one_is_mod _
  rw [zx_ti (by omega)]
  omega
theorem zx_or {x y : Int32} (hx : 0 ≤ x.toInt) (hx2 : x.toInt ≤ 4095) (hy : 0 ≤ y.toInt) (hy2 : y.toInt ≤ 4095) : 0 ≤ (x ||| y).toInt ∧ (x ||| y).toInt ≤ 4095 := by
  have h1 := zx_tn hx
  have h3 := zx_tn hy
  have h2 : (x ||| y).toBitVec.toNat < 2 ^ 12 := by
    rw [Int32.toBitVec_or, BitVec.toNat_or]
    exact Nat.or_lt_two_pow (by omega) (by omega)
  rw [zx_ti (by omega)]
  omega
theorem zx_shl0 {n : Int32} (h0 : 0 ≤ n.toInt) (h1 : n.toInt ≤ 11) : 1 ≤ ((1 : Int32) <<< (n &&& 31)).toInt ∧ ((1 : Int32) <<< (n &&& 31)).toInt ≤ 2048 := by
  obtain ⟨k, rfl⟩ := zx_fin (m := 12) h0 (by omega) (by decide)
  revert k
  decide
theorem zx_clr {x k : Int32} (hx : 0 ≤ x.toInt) (h0 : 0 ≤ k.toInt) (h1 : k.toInt ≤ 11) (hb : zx_d x.toInt k.toInt % 2 = 1) : (x &&& ((1 : Int32) <<< (k &&& 31) ^^^ -1)).toInt < x.toInt := by
  have h2 := zx_andle (y := ((1 : Int32) <<< (k &&& 31) ^^^ -1)) hx
  have h3 : ((1 : Int32) <<< (k &&& 31) ^^^ -1).toBitVec.toNat.testBit k.toInt.toNat = false := by
    clear hb h2
    obtain ⟨j, rfl⟩ := zx_fin (m := 12) h0 (by omega) (by decide)
    revert j
    decide
  have h4 := zx_tn hx
  have h5 : x.toBitVec.toNat.testBit k.toInt.toNat = true := by
    rw [Nat.testBit_eq_decide_div_mod_eq]
    unfold zx_d at hb
    rw [h4.1] at hb
    have : ((x.toBitVec.toNat / 2 ^ k.toInt.toNat % 2 : Nat) : Int) = 1 := by
      rw [← hb]
      simp
    exact decide_eq_true (Int.natCast_inj.mp this)
  have h6 : (x &&& ((1 : Int32) <<< (k &&& 31) ^^^ -1)).toBitVec.toNat.testBit k.toInt.toNat = false := by
    rw [Int32.toBitVec_and, BitVec.toNat_and, Nat.testBit_and, h3, Bool.and_false]
  have h7 : (x &&& ((1 : Int32) <<< (k &&& 31) ^^^ -1)).toInt ≠ x.toInt := fun e => by
    rw [zx_eq.mpr e, h5] at h6
    cases h6
  omega
