def sy_ok (sc n1 n2 : Int32) : Prop := (0 ≤ n1.toInt ∧ n1.toInt < sc.toInt) ∧ 0 ≤ n2.toInt ∧ n2.toInt < 5
/-- what system answers, by the counts and the factors -/
def sy_an (n1 n2 : Int32) (UC FA : Nat → Int32) (r : Int32) : Prop := n2.toInt = 0 ∧ r = UC n1.toNatClampNeg ∨ (1 ≤ n2.toInt ∧ n2.toInt < (UC n1.toNatClampNeg).toInt) ∧ r = FA (5 * n1.toNatClampNeg + n2.toNatClampNeg) ∨ (1 ≤ n2.toInt ∧ (UC n1.toNatClampNeg).toInt ≤ n2.toInt) ∧ r.toInt = -1
/-- the law's helper: it threw, or the answer lies in out -/
def klz_P (q : Sg) (n1 n2 : Int32) (uu c0 f0 ot : Nat) (k : Int32) (u : Sg) : Prop := k.toInt = 1 ∧ ¬ sy_ok (q.1 uu 6) n1 n2 ∧ u = q ∨ k.toInt = 0 ∧ ∃ r : Int32, (sy_ok (q.1 uu 6) n1 n2 ∧ sy_an n1 n2 (q.2.2.2.1 c0) (q.2.2.2.1 f0) r) ∧ u = sg_pL q ot (vp_updL (q.2.2.2.2 ot) 0 r.toInt64)
