/-! What write lays into OUT: a row of bytes. Words by their letters. -/
def pw_wl (F : Nat → Int32) (b : Nat) : Nat → List Nat
  | 0 => []
  | k + 1 => pw_wl F b k ++ [(F (b + k)).toInt.toNat]
theorem pw_wl_len {F : Nat → Int32} {b : Nat} : ∀ {k : Nat}, (pw_wl F b k).length = k
  | 0 => rfl
  | k + 1 => by
    show (pw_wl F b k ++ [(F (b + k)).toInt.toNat]).length = k + 1
    rw [List.length_append, pw_wl_len]
    rfl
def pw_8 (x : Int64) (w : List Nat) : Prop := ∃ (F : Nat → Int32) (s : Nat × Nat), pu_wd F s ∧ x = pu_w F s ∧ w = pw_wl F s.1 s.2
def pw_27 (y : Int64) (w : List Nat) : Prop := ∃ (F : Nat → Int32) (s : Nat × Nat), pu_wd F s ∧ y = pu_v F s ∧ w = pw_wl F s.1 s.2
theorem pw_8.len {x : Int64} {w : List Nat} (h : pw_8 x w) : w.length ≤ 8 := by
  obtain ⟨F, s, h1, h2, h3⟩ := h
  rw [h3, pw_wl_len]
  exact h1.2.1
theorem pw_27.len {x : Int64} {w : List Nat} (h : pw_27 x w) : w.length ≤ 8 := by
  obtain ⟨F, s, h1, h2, h3⟩ := h
  rw [h3, pw_wl_len]
  exact h1.2.1
/-- the class's OUT, the reference's -/
def pw_C (l : List Nat) (sz : Int32) (f : Nat → Int32) : Prop := sz.toInt = (l.length : Int) ∧ ∀ j, j < l.length → (f j &&& 255).toInt = ((l.getD j 0 : Nat) : Int)
def pw_R (l : List Nat) (sz : Int32) (f : Nat → Int32) : Prop := sz.toInt = (l.length : Int) ∧ ∀ j, j < l.length → (f j).toInt = ((l.getD j 0 : Nat) : Int)
theorem pw_g1 {l : List Nat} {c j : Nat} (h : j < l.length) : (l ++ [c]).getD j 0 = l.getD j 0 := by
  rw [List.getD_eq_getElem?_getD, List.getD_eq_getElem?_getD, List.getElem?_append_left h]
theorem pw_g2 {l : List Nat} {c : Nat} : (l ++ [c]).getD l.length 0 = c := by
  rw [List.getD_eq_getElem?_getD, List.getElem?_concat_length]
  rfl
theorem pw_len {l : List Nat} {c : Nat} : (l ++ [c]).length = l.length + 1 := by
  rw [List.length_append]
  rfl
theorem zx_a255 {x : Int32} (h0 : 0 ≤ x.toInt) (h1 : x.toInt ≤ 255) : (x &&& 255).toInt = x.toInt := by
  have e1 := zx_tn h0
  have e2 : (x &&& 255).toBitVec.toNat = x.toBitVec.toNat % 256 := by
    rw [Int32.toBitVec_and, BitVec.toNat_and]
    exact Nat.and_two_pow_sub_one_eq_mod _ 8
  rw [zx_ti (by omega)]
  omega
theorem zx_div {x y : Int32} (h0 : 0 ≤ x.toInt) (h1 : 1 ≤ y.toInt) : (x / y).toInt = x.toInt / y.toInt := by
  have hb := zx_bd x
  have h2 : x.toInt / y.toInt ≤ x.toInt := Int.ediv_le_self _ h0
  have h3 : 0 ≤ x.toInt / y.toInt := Int.ediv_nonneg h0 (by omega)
  rw [Int32.toInt_div, Int.tdiv_eq_ediv_of_nonneg h0]
  generalize x.toInt / y.toInt = z at h2 h3 ⊢
  exact Int.bmod_eq_of_le (by omega) (by omega)
section PW
variable {l w : List Nat} {sz sz2 x : Int32} {f f2 : Nat → Int32} {c t : Nat}
theorem pw_C.put (h : pw_C l sz f) (h2 : sz2.toInt = sz.toInt + 1) (hf : f2 = upd f sz.toNatClampNeg (ty_b x)) (hc : (x &&& 255).toInt = (c : Int)) : pw_C (l ++ [c]) sz2 f2 := by
  obtain ⟨h3, h4⟩ := h
  have hs : sz.toNatClampNeg = l.length := by rw [zx_nc]; omega
  refine ⟨by rw [pw_len]; omega, fun j hj => ?_⟩
  rw [pw_len] at hj
  rw [hf, hs]
  by_cases e : j = l.length
  · rw [e, ty_u1, pw_g2, ty_b255]
    exact hc
  · rw [ty_u2 e, pw_g1 (by omega)]
    exact h4 j (by omega)
theorem pw_R.put (h : pw_R l sz f) (h2 : sz2.toInt = sz.toInt + 1) (hf : f2 = upd f sz.toNatClampNeg x) (hc : x.toInt = (c : Int)) : pw_R (l ++ [c]) sz2 f2 := by
  obtain ⟨h3, h4⟩ := h
  have hs : sz.toNatClampNeg = l.length := by rw [zx_nc]; omega
  refine ⟨by rw [pw_len]; omega, fun j hj => ?_⟩
  rw [pw_len] at hj
  rw [hf, hs]
  by_cases e : j = l.length
  · rw [e, ty_u1, pw_g2]
    exact hc
  · rw [ty_u2 e, pw_g1 (by omega)]
    exact h4 j (by omega)
def pw_a1 (l : List Nat) : List Nat := if 0 < l.length then l ++ [32] else l
def pw_a2 (t : Nat) (l : List Nat) : List Nat := if 10 ≤ t then l ++ [48 + t / 10] else l
def pw_a3 (t : Nat) (l : List Nat) : List Nat := (pw_a2 t (pw_a1 l) ++ [48 + t % 10]) ++ [32]
def pw_amt (t : Nat) (w l : List Nat) : List Nat := pw_a3 t l ++ w
theorem pw_a1_ge : l.length ≤ (pw_a1 l).length := by
  unfold pw_a1
  split
  · rw [pw_len]; omega
  · omega
theorem pw_a2_len : (pw_a2 t l).length ≤ l.length + 1 := by
  unfold pw_a2
  split
  · rw [pw_len]; omega
  · omega
theorem pw_a3_len : (pw_a3 t l).length ≤ (pw_a1 l).length + 3 := by
  have z := pw_a2_len (t := t) (l := pw_a1 l)
  unfold pw_a3
  rw [pw_len, pw_len]
  omega
theorem pw_a1_len : (pw_a1 l).length ≤ l.length + 1 := by
  unfold pw_a1
  split
  · rw [pw_len]; omega
  · omega
theorem pw_amt_len (hw : w.length ≤ 8) : (pw_a1 (pw_amt t w l)).length ≤ (pw_a1 l).length + 12 := by
  have z := pw_a3_len (t := t) (l := l)
  have x := pw_a1_len (l := pw_amt t w l)
  have y : (pw_amt t w l).length = (pw_a3 t l).length + w.length := by
    unfold pw_amt
    rw [List.length_append]
  omega
/-- the class's steps -/
theorem pw_a1n (h : pw_C l sz f) (hz : sz.toInt ≤ 0) : pw_C (pw_a1 l) sz f := by
  unfold pw_a1
  have z := h.1
  rw [if_neg (by omega)]
  exact h
theorem pw_a1p (h : pw_C l sz f) (hz : 0 < sz.toInt) (h2 : sz2.toInt = sz.toInt + 1) (hf : f2 = upd f sz.toNatClampNeg (ty_b 32)) : pw_C (pw_a1 l) sz2 f2 := by
  unfold pw_a1
  have z := h.1
  rw [if_pos (by omega)]
  exact h.put h2 hf (by decide)
/-- digits -/
theorem pw_d1 {t d s : Int32} (h0 : 0 ≤ t.toInt) (h1 : t.toInt ≤ 99) (hd : d = t / 10) (hs : s = 48 + d) : s.toInt = ((48 + t.toInt.toNat / 10 : Nat) : Int) ∧ (s &&& 255).toInt = ((48 + t.toInt.toNat / 10 : Nat) : Int) := by
  have e : d.toInt = t.toInt / 10 := by rw [hd]; exact zx_div (y := 10) h0 (by decide)
  have h48 : (48 : Int32).toInt = 48 := rfl
  have e2 : s.toInt = 48 + d.toInt := by rw [hs, ← h48]; exact zx_add (by rw [h48]; omega) (by rw [h48]; omega)
  have e3 : s.toInt = ((48 + t.toInt.toNat / 10 : Nat) : Int) := by omega
  exact ⟨e3, by rw [zx_a255 (by omega) (by omega)]; exact e3⟩
theorem pw_d0 {t d s : Int32} (h0 : 0 ≤ t.toInt) (h1 : t.toInt ≤ 99) (hd : d = t - t / 10 * 10) (hs : s = 48 + d) : s.toInt = ((48 + t.toInt.toNat % 10 : Nat) : Int) ∧ (s &&& 255).toInt = ((48 + t.toInt.toNat % 10 : Nat) : Int) := by
  have e : (t / 10).toInt = t.toInt / 10 := zx_div (y := 10) h0 (by decide)
  have h10 : (10 : Int32).toInt = 10 := rfl
  have e1 : (t / 10 * 10).toInt = (t / 10).toInt * 10 := by
    have z := zx_mul (x := t / 10) (y := 10) (by rw [h10]; omega) (by rw [h10]; omega)
    rw [h10] at z
    exact z
  have e2 : d.toInt = t.toInt - (t / 10 * 10).toInt := by rw [hd]; exact zx_sub (by omega) (by omega)
  have h48 : (48 : Int32).toInt = 48 := rfl
  have e3 : s.toInt = 48 + d.toInt := by rw [hs, ← h48]; exact zx_add (by rw [h48]; omega) (by rw [h48]; omega)
  have e4 : s.toInt = ((48 + t.toInt.toNat % 10 : Nat) : Int) := by omega
  exact ⟨e4, by rw [zx_a255 (by omega) (by omega)]; exact e4⟩
theorem pw_a2n {t : Int32} (h : pw_C l sz f) (ht : t.toInt < 10) : pw_C (pw_a2 t.toInt.toNat l) sz f := by
  unfold pw_a2
  rw [if_neg (by omega)]
  exact h
theorem pw_a2p {t d s : Int32} (h : pw_C l sz f) (h0 : 10 ≤ t.toInt) (h1 : t.toInt ≤ 99) (hd : d = t / 10) (hs : s = 48 + d) (h2 : sz2.toInt = sz.toInt + 1) (hf : f2 = upd f sz.toNatClampNeg (ty_b s)) : pw_C (pw_a2 t.toInt.toNat l) sz2 f2 := by
  unfold pw_a2
  rw [if_pos (by omega)]
  exact h.put h2 hf (pw_d1 (by omega) h1 hd hs).2
theorem pw_a3p {t d s sz3 : Int32} {f3 : Nat → Int32} (h : pw_C (pw_a2 t.toInt.toNat (pw_a1 l)) sz f) (h0 : 0 ≤ t.toInt) (h1 : t.toInt ≤ 99) (hd : d = t - t / 10 * 10) (hs : s = 48 + d) (h2 : sz2.toInt = sz.toInt + 1) (hf : f2 = upd f sz.toNatClampNeg (ty_b s)) (h3 : sz3.toInt = sz2.toInt + 1) (hf3 : f3 = upd f2 sz2.toNatClampNeg (ty_b 32)) : pw_C (pw_a3 t.toInt.toNat l) sz3 f3 := (h.put h2 hf (pw_d0 h0 h1 hd hs).2).put h3 hf3 (by decide)
/-- the reference's -/
theorem pw_b1n (h : pw_R l sz f) (hz : sz.toInt ≤ 0) : pw_R (pw_a1 l) sz f := by
  unfold pw_a1
  have z := h.1
  rw [if_neg (by omega)]
  exact h
theorem pw_b1p (h : pw_R l sz f) (hz : 0 < sz.toInt) (h2 : sz2.toInt = sz.toInt + 1) (hf : f2 = upd f sz.toNatClampNeg 32) : pw_R (pw_a1 l) sz2 f2 := by
  unfold pw_a1
  have z := h.1
  rw [if_pos (by omega)]
  exact h.put h2 hf (by decide)
theorem pw_b2n {t : Int32} (h : pw_R l sz f) (ht : t.toInt < 10) : pw_R (pw_a2 t.toInt.toNat l) sz f := by
  unfold pw_a2
  rw [if_neg (by omega)]
  exact h
theorem pw_b2p {t d s : Int32} (h : pw_R l sz f) (h0 : 10 ≤ t.toInt) (h1 : t.toInt ≤ 99) (hd : d = t / 10) (hs : s = 48 + d) (h2 : sz2.toInt = sz.toInt + 1) (hf : f2 = upd f sz.toNatClampNeg s) : pw_R (pw_a2 t.toInt.toNat l) sz2 f2 := by
  unfold pw_a2
  rw [if_pos (by omega)]
  exact h.put h2 hf (pw_d1 (by omega) h1 hd hs).1
theorem pw_b3p {t d s sz3 : Int32} {f3 : Nat → Int32} (h : pw_R (pw_a2 t.toInt.toNat (pw_a1 l)) sz f) (h0 : 0 ≤ t.toInt) (h1 : t.toInt ≤ 99) (hd : d = t - t / 10 * 10) (hs : s = 48 + d) (h2 : sz2.toInt = sz.toInt + 1) (hf : f2 = upd f sz.toNatClampNeg s) (h3 : sz3.toInt = sz2.toInt + 1) (hf3 : f3 = upd f2 sz2.toNatClampNeg 32) : pw_R (pw_a3 t.toInt.toNat l) sz3 f3 := (h.put h2 hf (pw_d0 h0 h1 hd hs).1).put h3 hf3 (by decide)
end PW
/-! A name's letters, from the class's number. -/
theorem pw_let {x v1 : Int64} {y v2 v3 : Int32} {j : Nat} (hy : y.toInt = 8 * (j : Int)) (hj : j < 8) (e1 : v1 = (x.toUInt64 >>> (y.toInt64.toUInt64 &&& Int64.toUInt64 63)).toInt64) (e2 : v2 = v1.toInt32) (e3 : v3 = v2 &&& 255) : v3.toInt = ((x.toBitVec.toNat / 256 ^ j % 256 : Nat) : Int) := by
  have key : ∀ (v : BitVec 64) (k : Nat), (((v >>> k).signExtend 32) &&& 255#32).toNat = v.toNat / 2 ^ k % 256 := by
    intro v k
    rw [BitVec.toNat_and, BitVec.signExtend_eq_setWidth_of_le _ (by decide), BitVec.toNat_setWidth, BitVec.toNat_ushiftRight, Nat.shiftRight_eq_div_pow, show (255#32).toNat = 2 ^ 8 - 1 from rfl, Nat.and_two_pow_sub_one_eq_mod]
    generalize v.toNat / 2 ^ k = z
    omega
  obtain ⟨k, ek⟩ : ∃ k : UInt64, k = (y.toInt64.toUInt64 &&& Int64.toUInt64 63) := ⟨_, rfl⟩
  rw [← ek] at e1
  have hk : k.toBitVec.toNat = 8 * j := by
    rcases (show j = 0 ∨ j = 1 ∨ j = 2 ∨ j = 3 ∨ j = 4 ∨ j = 5 ∨ j = 6 ∨ j = 7 by omega) with z | z | z | z | z | z | z | z <;> subst z
    · rw [ek, show y = 0 from zx_eq.mpr hy]; decide
    · rw [ek, show y = 8 from zx_eq.mpr hy]; decide
    · rw [ek, show y = 16 from zx_eq.mpr hy]; decide
    · rw [ek, show y = 24 from zx_eq.mpr hy]; decide
    · rw [ek, show y = 32 from zx_eq.mpr hy]; decide
    · rw [ek, show y = 40 from zx_eq.mpr hy]; decide
    · rw [ek, show y = 48 from zx_eq.mpr hy]; decide
    · rw [ek, show y = 56 from zx_eq.mpr hy]; decide
  have hb : (x.toUInt64 >>> k).toBitVec = x.toBitVec >>> (8 * j) := by
    show x.toUInt64.toBitVec >>> (k.toBitVec % 64#64) = _
    rw [BitVec.ushiftRight_eq', BitVec.toNat_umod, hk, show (64#64).toNat = 64 from rfl, Nat.mod_eq_of_lt (by omega)]
    rfl
  have hs : v3.toBitVec = ((x.toBitVec >>> (8 * j)).signExtend 32) &&& 255#32 := by
    rw [e3, e2, e1, ← hb]
    rfl
  have hn : v3.toBitVec.toNat = x.toBitVec.toNat / 256 ^ j % 256 := by
    rw [hs, key, Nat.pow_mul, show (2 : Nat) ^ 8 = 256 from rfl]
  have hl : x.toBitVec.toNat / 256 ^ j % 256 < 256 := Nat.mod_lt _ (by decide)
  rw [← hn] at hl ⊢
  exact zx_ti (by omega)
theorem pw_l8 {F : Nat → Int32} {s : Nat × Nat} {x v1 : Int64} {y v2 v3 : Int32} {j : Nat} (hw : pu_wd F s) (hx : x = pu_w F s) (hy : y.toInt = 8 * (j : Int)) (hj : j < 8) (e1 : v1 = (x.toUInt64 >>> (y.toInt64.toUInt64 &&& Int64.toUInt64 63)).toInt64) (e2 : v2 = v1.toInt32) (e3 : v3 = v2 &&& 255) : v3.toInt = if j < s.2 then (F (s.1 + (s.2 - 1 - j))).toInt else 0 := by
  obtain ⟨w1, w2, w3⟩ := hw
  have hl : ∀ i, i < s.2 → (F (s.1 + i)).toInt.toNat < 256 := fun i hi => by have z := w3 i hi; omega
  have hN : x.toBitVec.toNat = pz_N 256 (fun i => (F (s.1 + i)).toInt.toNat) s.2 := by
    rw [hx]
    have z := pz_n8_N (F := F) (a := s.1) (k := s.2) (fun i hi => by have z := w3 i hi; omega)
    have b1 : pz_N 256 (fun i => (F (s.1 + i)).toInt.toNat) s.2 < 2 ^ 64 := Nat.lt_of_lt_of_le (pz_N_lt (B := 256) hl) (show 256 ^ s.2 ≤ 256 ^ 8 from Nat.pow_le_pow_right (by decide) w2)
    show (pz_n8 F s.1 s.2).toBitVec.toNat = _
    rw [z, BitVec.toNat_ofNat, Nat.mod_eq_of_lt b1]
  rw [pw_let hy hj e1 e2 e3, hN, pz_N_dig (by decide) s.2 j hl]
  by_cases z : j < s.2
  · rw [if_pos z, if_pos z]
    have y := w3 (s.2 - 1 - j) (by omega)
    omega
  · exact (congrArg (fun n : Nat => (n : Int)) (if_neg z)).trans (if_neg z).symm
theorem pw_wl_s {F : Nat → Int32} {s : Nat × Nat} {j : Nat} (hj : j < s.2) : pw_wl F s.1 (s.2 - j) = pw_wl F s.1 (s.2 - (j + 1)) ++ [(F (s.1 + (s.2 - 1 - j))).toInt.toNat] := by
  rw [show s.2 - j = (s.2 - (j + 1)) + 1 by omega, show s.2 - 1 - j = s.2 - (j + 1) by omega]
  rfl
theorem pw_lp0 {F : Nat → Int32} {s : Nat × Nat} {l : List Nat} {sz v : Int32} {f : Nat → Int32} {j : Nat} (hw : pu_wd F s) (hv : v.toInt = if j < s.2 then (F (s.1 + (s.2 - 1 - j))).toInt else 0) (hz : v.toInt = 0) (h : pw_C (l ++ pw_wl F s.1 (s.2 - (j + 1))) sz f) : pw_C (l ++ pw_wl F s.1 (s.2 - j)) sz f := by
  by_cases z : j < s.2
  · rw [if_pos z] at hv
    have y := hw.2.2 (s.2 - 1 - j) (by omega)
    omega
  · rw [show s.2 - j = s.2 - (j + 1) by omega]
    exact h
theorem pw_lp1 {F : Nat → Int32} {s : Nat × Nat} {l : List Nat} {sz sz2 v : Int32} {f f2 : Nat → Int32} {j : Nat} (hw : pu_wd F s) (hv : v.toInt = if j < s.2 then (F (s.1 + (s.2 - 1 - j))).toInt else 0) (hz : ¬ v.toInt = 0) (h : pw_C (l ++ pw_wl F s.1 (s.2 - (j + 1))) sz f) (h2 : sz2.toInt = sz.toInt + 1) (hf : f2 = upd f sz.toNatClampNeg (ty_b v)) : pw_C (l ++ pw_wl F s.1 (s.2 - j)) sz2 f2 := by
  by_cases z : j < s.2
  · rw [if_pos z] at hv
    have y := hw.2.2 (s.2 - 1 - j) (by omega)
    rw [pw_wl_s z, ← List.append_assoc]
    exact h.put h2 hf (by rw [zx_a255 (by omega) (by omega)]; omega)
  · rw [if_neg z] at hv
    exact absurd hv hz
/-! The same from the reference's. -/
theorem pw_v27 {F : Nat → Int32} {s : Nat × Nat} {x : Int64} (hw : pu_wd F s) (hx : x = pu_v F s) : x.toInt = ((pz_N 27 (fun i => ((F (s.1 + i)).toInt - 96).toNat) s.2 : Nat) : Int) ∧ pz_N 27 (fun i => ((F (s.1 + i)).toInt - 96).toNat) s.2 < 27 ^ s.2 ∧ 27 ^ (s.2 - 1) ≤ pz_N 27 (fun i => ((F (s.1 + i)).toInt - 96).toNat) s.2 ∧ 27 ^ s.2 ≤ 282429536481 := by
  obtain ⟨w1, w2, w3⟩ := hw
  refine ⟨by rw [hx]; exact pz_n27_N w2 w3, pz_N_lt (B := 27) (fun i hi => by have z := w3 i hi; show ((F (s.1 + i)).toInt - 96).toNat < 27; omega), ?_, Nat.le_trans (Nat.pow_le_pow_right (by decide) w2) (by decide)⟩
  have z := pz_N_ge (B := 27) (d := fun i => ((F (s.1 + i)).toInt - 96).toNat) (s.2 - 1) (by have z := w3 0 (by omega); show 0 < ((F (s.1 + 0)).toInt - 96).toNat; omega)
  rw [show s.2 - 1 + 1 = s.2 by omega] at z
  exact z
/-- the first loop: p is a power, not above the word -/
theorem pw_p1 {N K i : Nat} {n p : Int} (hn : n = (N : Int)) (hN : N < 27 ^ K) (hp : p = ((27 ^ i : Nat) : Int)) (hle : p ≤ n / 27) : i + 1 < K ∧ p * 27 = ((27 ^ (i + 1) : Nat) : Int) := by
  have h1 : 27 ^ (i + 1) ≤ N := by
    rw [Nat.pow_succ]
    omega
  refine ⟨(Nat.pow_lt_pow_iff_right (by decide)).mp (Nat.lt_of_le_of_lt h1 hN), ?_⟩
  rw [hp, Nat.pow_succ]
  omega
theorem pw_p2 {N K i : Nat} {n p : Int} (hn : n = (N : Int)) (hK : 1 ≤ K) (hN : 27 ^ (K - 1) ≤ N) (hi : i < K) (hp : p = ((27 ^ i : Nat) : Int)) (hgt : n / 27 < p) : p = ((27 ^ K / 27 : Nat) : Int) := by
  have h1 : N < 27 ^ (i + 1) := by
    rw [Nat.pow_succ]
    omega
  have h2 : K - 1 < i + 1 := (Nat.pow_lt_pow_iff_right (show 1 < 27 by decide)).mp (Nat.lt_of_le_of_lt hN h1)
  have h3 : i = K - 1 := by omega
  have h4 : 27 ^ K / 27 = 27 ^ (K - 1) := by
    rw [show (27 : Nat) ^ K = 27 ^ (K - 1) * 27 by rw [← Nat.pow_succ, show (K - 1).succ = K by omega]]
    exact Nat.mul_div_cancel _ (by decide)
  rw [hp, h4, h3]
theorem pw_q {j : Nat} : 27 ^ (j + 1) / 27 = 27 ^ j := by
  rw [Nat.pow_succ]
  exact Nat.mul_div_cancel _ (by decide)
theorem pw_pb {K i : Nat} {p : Int} (hi : i < K) (hb : 27 ^ K ≤ 282429536481) (hp : p = ((27 ^ i : Nat) : Int)) : 1 ≤ p ∧ p * 27 ≤ 282429536481 := by
  have h1 : 27 ^ (i + 1) ≤ 27 ^ K := Nat.pow_le_pow_right (by decide) (by omega)
  have h2 : 0 < 27 ^ i := Nat.pow_pos (by decide)
  rw [Nat.pow_succ] at h1
  omega
theorem pw_j0 {j : Nat} {p : Int} (hp : p = ((27 ^ j / 27 : Nat) : Int)) (h : p ≤ 0) : j = 0 := by
  rcases Nat.eq_zero_or_pos j with z | z
  · exact z
  · obtain ⟨i, rfl⟩ : ∃ i, j = i + 1 := ⟨j - 1, by omega⟩
    rw [pw_q] at hp
    have h2 : 0 < 27 ^ i := Nat.pow_pos (by decide)
    omega
theorem pw_j1 {j : Nat} {p : Int} (hp : p = ((27 ^ j / 27 : Nat) : Int)) (h : 0 < p) : ∃ i, j = i + 1 ∧ p = ((27 ^ i : Nat) : Int) := by
  rcases Nat.eq_zero_or_pos j with z | z
  · subst z
    rw [show 27 ^ 0 / 27 = 0 by decide] at hp
    omega
  · obtain ⟨i, rfl⟩ : ∃ i, j = i + 1 := ⟨j - 1, by omega⟩
    rw [pw_q] at hp
    exact ⟨i, rfl, hp⟩
theorem zy_div2 {x y : Int64} (h0 : 0 ≤ x.toInt) (h1 : 1 ≤ y.toInt) : (x / y).toInt = x.toInt / y.toInt := by
  have hb := zy_bd x
  have h2 : x.toInt / y.toInt ≤ x.toInt := Int.ediv_le_self _ h0
  have h3 : 0 ≤ x.toInt / y.toInt := Int.ediv_nonneg h0 (by omega)
  rw [Int64.toInt_div, Int.tdiv_eq_ediv_of_nonneg h0]
  generalize x.toInt / y.toInt = z at h2 h3 ⊢
  exact Int.bmod_eq_of_le (by omega) (by omega)
/-- a digit of the word, as the reference makes it -/
theorem pw_l27 {F : Nat → Int32} {s : Nat × Nat} {x p v1 v2 : Int64} {v3 v4 : Int32} {j : Nat} (hw : pu_wd F s) (hx : x = pu_v F s) (hj : j < s.2) (hp : p.toInt = ((27 ^ j : Nat) : Int)) (e1 : v1 = x / p) (e2 : v2 = v1 - v1 / 27 * 27) (e3 : v3 = v2.toInt32) (e4 : v4 = v3 + 96) : v4.toInt = (((F (s.1 + (s.2 - 1 - j))).toInt.toNat : Nat) : Int) := by
  obtain ⟨hv, hlt, -, hb⟩ := pw_v27 hw hx
  obtain ⟨w1, w2, w3⟩ := hw
  have hd : ∀ i, i < s.2 → ((F (s.1 + i)).toInt - 96).toNat < 27 := fun i hi => by have z := w3 i hi; omega
  have hdig := pz_N_dig (B := 27) (by decide) s.2 j hd
  rw [if_pos hj] at hdig
  have hp1 : 0 < 27 ^ j := Nat.pow_pos (by decide)
  generalize pz_N 27 (fun i => ((F (s.1 + i)).toInt - 96).toNat) s.2 = N at hv hlt hdig
  have d1 : v1.toInt = ((N / 27 ^ j : Nat) : Int) := by
    rw [e1, zy_div2 (by omega) (by omega), hv, hp, Int.natCast_ediv]
  have hle : N / 27 ^ j ≤ N := Nat.div_le_self _ _
  generalize N / 27 ^ j = M at d1 hdig hle
  have d2 : (v1 / 27).toInt = v1.toInt / 27 := zy_div (by omega)
  have d3 : (v1 / 27 * 27).toInt = (v1 / 27).toInt * 27 := zy_m27 (by omega) (by omega)
  have d4 : v2.toInt = v1.toInt - (v1 / 27 * 27).toInt := by
    rw [e2]
    exact zy_sub (by omega) (by omega)
  have d5 : v2.toInt = ((M % 27 : Nat) : Int) := by omega
  have d6 : v3.toInt = v2.toInt := by
    rw [e3, Int64.toInt_toInt32]
    exact Int.bmod_eq_of_le (by omega) (by omega)
  have h96 : (96 : Int32).toInt = 96 := rfl
  have d7 : v4.toInt = v3.toInt + 96 := by
    rw [e4, ← h96]
    exact zx_add (by rw [h96]; omega) (by rw [h96]; omega)
  have y := w3 (s.2 - 1 - j) (by omega)
  omega
theorem pw_rl {F : Nat → Int32} {s : Nat × Nat} {l : List Nat} {sz sz2 v : Int32} {f f2 : Nat → Int32} {j : Nat} (hj : j < s.2) (hv : v.toInt = (((F (s.1 + (s.2 - 1 - j))).toInt.toNat : Nat) : Int)) (h : pw_R (l ++ pw_wl F s.1 (s.2 - (j + 1))) sz f) (h2 : sz2.toInt = sz.toInt + 1) (hf : f2 = upd f sz.toNatClampNeg v) : pw_R (l ++ pw_wl F s.1 (s.2 - j)) sz2 f2 := by
  rw [pw_wl_s hj, ← List.append_assoc]
  exact h.put h2 hf hv
