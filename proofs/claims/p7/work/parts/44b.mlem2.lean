def zx_v (p : Int) : Prop := p = 1 ∨ p = 27 ∨ p = 729 ∨ p = 19683 ∨ p = 531441 ∨ p = 14348907 ∨ p = 387420489 ∨ p = 10460353203
def zx_w (p : Int) : Prop := p = 0 ∨ zx_v p
def zx_r (p : Int) : Int := if p ≤ 0 then 0 else if p ≤ 1 then 1 else if p ≤ 27 then 2 else if p ≤ 729 then 3 else if p ≤ 19683 then 4 else if p ≤ 531441 then 5 else if p ≤ 14348907 then 6 else if p ≤ 387420489 then 7 else 8
theorem zx_v1 : zx_v 1 := Or.inl rfl
theorem zx_v_b {p : Int} (h : zx_v p) : 1 ≤ p ∧ p ≤ 10460353203 := by
  unfold zx_v at h
  omega
theorem zx_v_s {p : Int} (h : zx_v p) (hp : p * 27 < 282429536481) : zx_v (p * 27) := by
  unfold zx_v at h ⊢
  omega
theorem zx_w_s {p : Int} (h : zx_w p) (hp : 0 < p) : zx_w (p / 27) ∧ zx_r (p / 27) + 1 = zx_r p := by
  rcases h with h | h
  · omega
  · rcases h with h | h | h | h | h | h | h | h <;> subst h <;> unfold zx_w zx_v zx_r <;> decide
theorem zx_r_b (p : Int) : 0 ≤ zx_r p ∧ zx_r p ≤ 8 := by
  unfold zx_r
  repeat' split
  all_goals omega
theorem zx_w_b {p : Int} (h : zx_w p) : 0 ≤ p := by
  rcases h with h | h
  · omega
  · have := zx_v_b h
    omega
