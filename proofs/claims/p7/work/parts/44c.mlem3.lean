def mv_SS (d1 d2 am lm : Nat → Int32) : Prop := ∀ t : Nat, t < 9 → mv_s d1 d2 am t (lm t).toInt.toNat ≤ 4
theorem mv_S.f {lm am d1 d2 : Nat} {q : Sg} {gl ga g1 g2 : Nat → Int32} (h : mv_S lm am d1 d2 q) (h1 : q.2.2.2.1 lm = gl) (h2 : q.2.2.2.1 am = ga) (h3 : q.2.2.2.1 d1 = g1) (h4 : q.2.2.2.1 d2 = g2) : mv_SS g1 g2 ga gl := by
  subst h1 h2 h3 h4
  exact h
theorem mv_SS.S {lm am d1 d2 : Nat} {q : Sg} {gl ga g1 g2 : Nat → Int32} (h : mv_SS g1 g2 ga gl) (h1 : q.2.2.2.1 lm = gl) (h2 : q.2.2.2.1 am = ga) (h3 : q.2.2.2.1 d1 = g1) (h4 : q.2.2.2.1 d2 = g2) : mv_S lm am d1 d2 q := by
  subst h1 h2 h3 h4
  exact h
theorem mv_SS.lm {d1 d2 am lm : Nat → Int32} {t : Nat} {v : Int32} (h : mv_SS d1 d2 am lm) (hv : mv_s d1 d2 am t v.toInt.toNat ≤ 4) : mv_SS d1 d2 am (upd lm t v) := by
  intro t2 ht
  unfold upd
  split
  · rename_i e
    rw [e]
    exact hv
  · exact h t2 ht
/-- what is written at the line that is being read touches no line that counts -/
theorem mv_s_ln {d1 d2 e1 e2 am an lm : Nat → Int32} {t ln t2 : Nat} (hl : (ln : Int) = 12 * (t : Int) + (lm t).toInt) (h11 : (lm t).toInt ≤ 11) (hm : ∀ j, 0 ≤ (lm j).toInt ∧ (lm j).toInt ≤ 12) (ha5 : ∀ j, (am j).toInt ≤ 5) (ha : ∀ j, j ≠ ln → an j = am j) (h1 : ∀ j, ¬ (5 * ln ≤ j ∧ j < 5 * ln + 5) → e1 j = d1 j) (h2 : ∀ j, ¬ (5 * ln ≤ j ∧ j < 5 * ln + 5) → e2 j = d2 j) : mv_s e1 e2 an t2 (lm t2).toInt.toNat = mv_s d1 d2 am t2 (lm t2).toInt.toNat := by
  refine mv_s_eq (fun j hj => ?_)
  have b1 := hm t2
  have b2 := hm t
  have hne : 12 * t2 + j ≠ ln := by
    by_cases e : t2 = t
    · subst e
      omega
    · omega
  refine ⟨ha _ hne, fun i hi => ?_⟩
  have b3 := ha5 (12 * t2 + j)
  exact ⟨h1 _ (by omega), h2 _ (by omega)⟩
theorem mv_SS.ln {d1 d2 e1 e2 am an lm : Nat → Int32} {t ln : Nat} (h : mv_SS d1 d2 am lm) (hl : (ln : Int) = 12 * (t : Int) + (lm t).toInt) (h11 : (lm t).toInt ≤ 11) (hm : ∀ j, 0 ≤ (lm j).toInt ∧ (lm j).toInt ≤ 12) (ha5 : ∀ j, (am j).toInt ≤ 5) (ha : ∀ j, j ≠ ln → an j = am j) (h1 : ∀ j, ¬ (5 * ln ≤ j ∧ j < 5 * ln + 5) → e1 j = d1 j) (h2 : ∀ j, ¬ (5 * ln ≤ j ∧ j < 5 * ln + 5) → e2 j = d2 j) : mv_SS e1 e2 an lm := fun t2 ht => by
  rw [mv_s_ln (t2 := t2) hl h11 hm ha5 ha h1 h2]
  exact h t2 ht
def mv_A (am uo : Nat → Int32) (ln : Nat) : Prop := 0 < (am ln).toInt → (uo (5 * ln + (am ln).toInt.toNat - 1)).toInt + (am ln).toInt ≤ 5
def mv_R (d1 d2 am as lm : Nat → Int32) (t ln : Nat) : Prop := (as t).toInt = ((mv_s d1 d2 am t (lm t).toInt.toNat + mv_n d1 d2 ln (am ln).toInt.toNat : Nat) : Int)
theorem mv_step {d1 d2 am as lm uo : Nat → Int32} {t ln m : Nat} {a b un x y : Int32} (hl : (ln : Int) = 12 * (t : Int) + (lm t).toInt) (h11 : (lm t).toInt ≤ 11) (hm : ∀ j, 0 ≤ (lm j).toInt ∧ (lm j).toInt ≤ 12) (ha5 : ∀ j, 0 ≤ (am j).toInt ∧ (am j).toInt ≤ 5) (hmm : (m : Int) = 5 * (ln : Int) + (am ln).toInt) (hx : x.toInt = (am ln).toInt + 1) (hy : y.toInt = (as t).toInt + ((mv_d a + mv_d b : Nat) : Int)) (hu : un.toInt + (am ln).toInt + 1 ≤ 5) (hu0 : 0 ≤ un.toInt) (hR : mv_R d1 d2 am as lm t ln) (hS : mv_SS d1 d2 am lm) :
    mv_A (upd am ln x) (upd uo m un) ln ∧ mv_R (upd d1 m a) (upd d2 m b) (upd am ln x) (upd as t y) lm t ln ∧ mv_SS (upd d1 m a) (upd d2 m b) (upd am ln x) lm := by
  have hal := ha5 ln
  have h1 : ∀ j, ¬ (5 * ln ≤ j ∧ j < 5 * ln + 5) → upd d1 m a j = d1 j := fun j hj => zx_u2 (by omega)
  have h2 : ∀ j, ¬ (5 * ln ≤ j ∧ j < 5 * ln + 5) → upd d2 m b j = d2 j := fun j hj => zx_u2 (by omega)
  have ha : ∀ j, j ≠ ln → upd am ln x j = am j := fun j hj => zx_u2 hj
  have hm2 : m = 5 * ln + (am ln).toInt.toNat := by omega
  refine ⟨fun _ => ?_, ?_, hS.ln hl h11 hm (fun j => (ha5 j).2) ha h1 h2⟩
  · rw [zx_u1, show 5 * ln + x.toInt.toNat - 1 = m by omega, zx_u1]
    omega
  · unfold mv_R
    rw [zx_u1, zx_u1, hy, hR, mv_s_ln (t2 := t) hl h11 hm (fun j => (ha5 j).2) ha h1 h2, show x.toInt.toNat = (am ln).toInt.toNat + 1 by omega]
    show _ = ((_ + (mv_n (upd d1 m a) (upd d2 m b) ln (am ln).toInt.toNat + mv_d (upd d1 m a (5 * ln + (am ln).toInt.toNat)) + mv_d (upd d2 m b (5 * ln + (am ln).toInt.toNat))) : Nat) : Int)
    rw [← hm2, zx_u1, zx_u1, mv_n_eq (d1 := d1) (d2 := d2) (fun i hi => ⟨zx_u2 (by omega), zx_u2 (by omega)⟩)]
    omega
theorem mv_next {d1 d2 am as lm : Nat → Int32} {t ln : Nat} {v : Int32} (hl : (ln : Int) = 12 * (t : Int) + (lm t).toInt) (h0 : 0 ≤ (lm t).toInt) (hv : v.toInt = (lm t).toInt + 1) (hR : mv_R d1 d2 am as lm t ln) : (as t).toInt = ((mv_s d1 d2 am t v.toInt.toNat : Nat) : Int) := by
  rw [hR, show v.toInt.toNat = (lm t).toInt.toNat + 1 by omega]
  show _ = ((mv_s d1 d2 am t (lm t).toInt.toNat + mv_n d1 d2 (12 * t + (lm t).toInt.toNat) (am (12 * t + (lm t).toInt.toNat)).toInt.toNat : Nat) : Int)
  rw [show 12 * t + (lm t).toInt.toNat = ln by omega]
theorem mv_dd {a b : Int32} {x : Int} (h : (a.toInt = 10 ∧ b.toInt = 10 ∧ x = 2) ∨ (a.toInt = 10 ∧ ¬ b.toInt = 10 ∧ x = 1) ∨ (¬ a.toInt = 10 ∧ b.toInt = 10 ∧ x = 1) ∨ (¬ a.toInt = 10 ∧ ¬ b.toInt = 10 ∧ x = 0)) : x = ((mv_d a + mv_d b : Nat) : Int) := by
  unfold mv_d
  split <;> split <;> omega
