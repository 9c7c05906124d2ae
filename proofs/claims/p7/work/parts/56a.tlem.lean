/-! The tape's bytes: what feed lays, on both sides. -/
def ty_b (x : Int32) : Int32 := vp_nar .byte (x.toInt8.toInt32)
def ty_s (x y : Int32) : Int32 := (x.toUInt32 >>> (y.toUInt32 &&& Int32.toUInt32 31)).toInt32
def ty_4 (f : Nat → Int32) (s : Nat) (n : Int32) : Nat → Int32 := upd (upd (upd (upd f s (ty_b (ty_s n 24))) (s + 1) (ty_b (ty_s n 16))) (s + 2) (ty_b (ty_s n 8))) (s + 3) (ty_b n)
def tm_4 (f : Nat → Int32) (s : Nat) (n : Int32) : Nat → Int32 := upd (upd (upd (upd f s (ty_s n 24 &&& 255)) (s + 1) (ty_s n 16 &&& 255)) (s + 2) (ty_s n 8 &&& 255)) (s + 3) (ty_s n 0 &&& 255)
def ty_20 (f : Nat → Int32) (s : Nat) (a b c d e : Int32) : Nat → Int32 := ty_4 (ty_4 (ty_4 (ty_4 (ty_4 f s a) (s + 4) b) (s + 8) c) (s + 12) d) (s + 16) e
def tm_20 (f : Nat → Int32) (s : Nat) (a b c d e : Int32) : Nat → Int32 := tm_4 (tm_4 (tm_4 (tm_4 (tm_4 f s a) (s + 4) b) (s + 8) c) (s + 12) d) (s + 16) e
theorem ty_b255 (x : Int32) : ty_b x &&& 255 = x &&& 255 := by
  have h1 : ty_b x = x.toInt8.toInt32 := by
    show (x.toInt8.toInt32).toInt8.toInt32 = x.toInt8.toInt32
    rw [Int8.toInt8_toInt32]
  rw [h1]
  apply Int32.toBitVec_inj.mp
  rw [Int32.toBitVec_and, Int32.toBitVec_and]
  rw [Int8.toBitVec_toInt32, Int32.toBitVec_toInt8]
  generalize x.toBitVec = v
  have hm : (255 : Int32).toBitVec = 255#32 := rfl
  rw [hm]
  ext i hi
  rw [BitVec.getElem_and, BitVec.getElem_and]
  by_cases h8 : i < 8
  · have e1 : ((v.signExtend 8).signExtend 32)[i] = v[i] := by
      rw [BitVec.getElem_signExtend, dif_pos h8, BitVec.getElem_signExtend, dif_pos hi]
    rw [e1]
  · have e2 : (255#32)[i] = false := by
      have : ∀ j : Nat, (hj : j < 32) → ¬ j < 8 → (255#32)[j] = false := by decide
      exact this i hi h8
    rw [e2, Bool.and_false, Bool.and_false]
theorem ty_s0 (x : Int32) : ty_s x 0 = x := by
  apply Int32.toBitVec_inj.mp
  show (x.toUInt32 >>> ((0 : Int32).toUInt32 &&& Int32.toUInt32 31)).toBitVec = x.toBitVec
  have e : ((0 : Int32).toUInt32 &&& Int32.toUInt32 31) = 0 := by decide
  rw [e]
  show x.toUInt32.toBitVec >>> ((0 : UInt32).toBitVec % 32#32) = x.toBitVec
  rw [show ((0 : UInt32).toBitVec % 32#32) = 0#32 from rfl]
  simp
theorem ty_u1 {f : Nat → Int32} {k : Nat} {x : Int32} : upd f k x k = x := if_pos rfl
theorem ty_u2 {f : Nat → Int32} {k j : Nat} {x : Int32} (h : j ≠ k) : upd f k x j = f j := if_neg h
/-- the class's bytes and the reference's ints below s are the same -/
def ty_T (f g : Nat → Int32) (s : Nat) : Prop := ∀ j, j < s → f j &&& 255 = g j
theorem ty_T.upd {f g : Nat → Int32} {s : Nat} {x : Int32} (h : ty_T f g s) : ty_T (upd f s (ty_b x)) (upd g s (x &&& 255)) (s + 1) := fun j hj => by
  by_cases e : j = s
  · subst e
    rw [ty_u1, ty_u1]
    exact ty_b255 x
  · rw [ty_u2 e, ty_u2 e]
    exact h j (by omega)
theorem ty_T.four {f g : Nat → Int32} {s : Nat} {n : Int32} (h : ty_T f g s) : ty_T (ty_4 f s n) (tm_4 g s n) (s + 4) := by
  have z := (((h.upd (x := ty_s n 24)).upd (x := ty_s n 16)).upd (x := ty_s n 8)).upd (x := n)
  unfold ty_4 tm_4
  rw [ty_s0]
  exact z
theorem ty_T.twenty {f g : Nat → Int32} {s : Nat} {a b c d e : Int32} (h : ty_T f g s) : ty_T (ty_20 f s a b c d e) (tm_20 g s a b c d e) (s + 20) := ((((h.four (n := a)).four (n := b)).four (n := c)).four (n := d)).four (n := e)
theorem ty_T.le {f g : Nat → Int32} {s t : Nat} (h : ty_T f g s) (hs : t ≤ s) : ty_T f g t := fun j hj => h j (by omega)
/-- how many of the first k are a slash -/
def ty_c (g : Nat → Int32) : Nat → Nat
  | 0 => 0
  | k + 1 => ty_c g k + if (g k).toInt = 47 then 1 else 0
theorem ty_c_le {g : Nat → Int32} : ∀ k, ty_c g k ≤ k
  | 0 => Nat.le_refl _
  | k + 1 => by
    have := ty_c_le (g := g) k
    unfold ty_c
    split <;> omega
theorem ty_c_T {f g : Nat → Int32} {s : Nat} (h : ty_T f g s) : ∀ k, k ≤ s → ty_c (fun j => f j &&& 255) k = ty_c g k
  | 0, _ => rfl
  | k + 1, hk => by
    unfold ty_c
    rw [ty_c_T h k (by omega), h k (by omega)]
