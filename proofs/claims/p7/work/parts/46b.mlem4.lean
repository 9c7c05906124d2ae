theorem mv_begin {d1 d2 am as lm : Nat → Int32} {t ln : Nat} (hl : (ln : Int) = 12 * (t : Int) + (lm t).toInt) (h11 : (lm t).toInt ≤ 11) (hm : ∀ j, 0 ≤ (lm j).toInt ∧ (lm j).toInt ≤ 12) (ha5 : ∀ j, (am j).toInt ≤ 5) (h : (as t).toInt = ((mv_s d1 d2 am t (lm t).toInt.toNat : Nat) : Int)) : mv_R d1 d2 (upd am ln 0) as lm t ln := by
  unfold mv_R
  rw [zx_u1, mv_s_ln (t2 := t) (e1 := d1) (e2 := d2) (an := upd am ln 0) hl h11 hm ha5 (fun j hj => zx_u2 hj) (fun _ _ => rfl) (fun _ _ => rfl), h]
  rfl
