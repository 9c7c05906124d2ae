/-! What always holds in p17's law. -/
def lc_fd (h : Sh) (fa : Nat) : Prop := ∀ i j : Nat, i < 12 → j < 12 → h.2.2.2 fa i = h.2.2.2 fa j → i = j
def lc_R (h : Sh) (fa m44 x0 : Nat) (q : Sg) : Prop := ∀ f : Nat, (f : Int) < (q.1 x0 14).toInt → q.1 (h.2.2.2 fa f) 3 = q.2.2.2.1 m44 f
def lc_I7 (h : Sh) (L : List Nat) (x0 a0 t0 tb fa : Nat) (mm : Nat → Nat) (q : Sg) : Prop := lc_I h L x0 a0 t0 mm q ∧ q.2.2.1 t0 0 = tb ∧ q.2.2.1 x0 9 = fa ∧ ty_T (q.2.2.2.1 tb) (q.2.2.2.1 (mm 1)) (q.1 t0 1).toInt.toNat ∧ lc_R h fa (mm 44) x0 q
/-- kept out of omega's sight -/
def lc_hd (P : Prop) : Prop := P
theorem lc_hd.i {P : Prop} (h : P) : lc_hd P := h
theorem lc_feed {f f1 g g1 : Nat → Int32} {s s2 t : Int} {a b c d e : Int32} (hT : ty_T f g s.toNat) (hs0 : 0 ≤ s) (et : t = s) (hsz : s + 20 ≤ 440 ∧ s2 = s + 20 ∨ 440 < s + 20 ∧ s2 = s) (hi : lc_hd ((s + 20 ≤ 440 → f1 = ty_20 f s.toNat a b c d e) ∧ (440 < s + 20 → f1 = f))) (hj : lc_hd ((t + 20 ≤ 440 → g1 = tm_20 g t.toNat a b c d e) ∧ (440 < t + 20 → g1 = g))) : ty_T f1 g1 s2.toNat := by
  subst et
  rcases hsz with ⟨z1, z2⟩ | ⟨z1, z2⟩
  · rw [hi.1 z1, hj.1 z1, show s2.toNat = t.toNat + 20 by omega]
    exact hT.twenty
  · rw [hi.2 z1, hj.2 z1, z2]
    exact hT
theorem lc_frag {h : Sh} {L : List Nat} {q q1 q2 : Sg} {x0 a0 t0 tb fa m1 m44 f9 : Nat} {n1 n2 r1 : Int32} (hfd : lc_fd h fa) (hV : sx_V h L q) (hV2 : sx_V h L q2) (hfa : fa ∈ L) (kfa : h.1 fa = 403) (lfa : h.2.1 fa = 12) (hx0 : x0 ∈ L) (kx0 : h.1 x0 = 11) (hT : ty_T (q.2.2.2.1 tb) (q.2.2.2.1 m1) (q.1 t0 1).toInt.toNat) (hR : lc_R h fa m44 x0 q) (hte : (q.1 t0 1).toInt = (q.1 a0 2).toInt) (hfe : (q.1 x0 14).toInt = (q.1 a0 45).toInt) (e9f : (q.1 x0 14).toInt < 12 → h.2.2.2 fa (q.1 x0 14).toNatClampNeg = f9) (k9f : ¬ (q.1 x0 14).toInt < 12 → h.1 f9 ≠ 0)
    (o1 : ∀ e, e ∈ L → h.1 e = 0 → ¬ e = f9 → q1.1 e 3 = q.1 e 3) (o2 : ∀ e, e ∈ L → h.1 e = 0 → q2.1 e 3 = q1.1 e 3) (z14 : q2.1 x0 14 = q1.1 x0 14) (za2 : q1.1 a0 2 = q.1 a0 2) (za45 : q1.1 a0 45 = q.1 a0 45) (zm1 : q1.2.2.2.1 m1 = q.2.2.2.1 m1) (zm44 : q1.2.2.2.1 m44 = q.2.2.2.1 m44)
    (hc : ((q.1 x0 14).toInt < 12 ∧ (0 ≤ n1.toInt ∧ n1.toInt ≤ 99999999) ∧ (0 ≤ n2.toInt ∧ n2.toInt ≤ 99999999) ∧ (q.1 t0 1).toInt ≤ 200) ∧ (q1.1 x0 14).toInt = (q.1 x0 14).toInt + 1 ∧ r1.toInt = (q.1 x0 14).toInt ∨ ¬ ((q.1 x0 14).toInt < 12 ∧ (0 ≤ n1.toInt ∧ n1.toInt ≤ 99999999) ∧ (0 ≤ n2.toInt ∧ n2.toInt ≤ 99999999) ∧ (q.1 t0 1).toInt ≤ 200) ∧ (q1.1 x0 14).toInt = (q.1 x0 14).toInt ∧ r1.toInt = -1)
    (hi : lc_hd (((q.1 x0 14).toInt < 12 ∧ (0 ≤ n1.toInt ∧ n1.toInt ≤ 99999999) ∧ (0 ≤ n2.toInt ∧ n2.toInt ≤ 99999999) ∧ (q.1 t0 1).toInt ≤ 200) → (q1.1 f9 3).toInt = 1 + ((ty_c (fun j => q.2.2.2.1 tb j &&& 255) (q.1 t0 1).toInt.toNat : Nat) : Int)))
    (hj : lc_hd ((((q1.1 a0 45).toInt < 12 ∧ (0 ≤ n1.toInt ∧ n1.toInt ≤ 99999999) ∧ (0 ≤ n2.toInt ∧ n2.toInt ≤ 99999999) ∧ (q1.1 a0 2).toInt ≤ 200) → (q2.2.2.2.1 m44 (q1.1 a0 45).toNatClampNeg).toInt = 1 + ((ty_c (q1.2.2.2.1 m1) (q1.1 a0 2).toInt.toNat : Nat) : Int)) ∧ (∀ j : Nat, j ≠ (q1.1 a0 45).toNatClampNeg → q2.2.2.2.1 m44 j = q1.2.2.2.1 m44 j))) : lc_R h fa m44 x0 q2 := by
  unfold lc_hd at hi hj
  rw [za2, za45, zm1, zm44] at hj
  have e45 : (q.1 a0 45).toNatClampNeg = (q.1 x0 14).toNatClampNeg := by rw [zx_nc, zx_nc, hfe]
  rw [e45, ← hte, ← hfe, ← ty_c_T hT _ (Nat.le_refl _)] at hj
  have g0 : (0 : Int) ≤ (q.1 x0 14).toInt ∧ (q.1 x0 14).toInt ≤ 12 := hV.int hx0 kx0 14
  have g2 : (0 : Int) ≤ (q2.1 x0 14).toInt ∧ (q2.1 x0 14).toInt ≤ 12 := hV2.int hx0 kx0 14
  intro f hf
  obtain ⟨e9, ee9, he9, ke9⟩ := hV.elem (t := 0) hfa kfa (by decide) rfl (j := f) (by omega)
  rw [z14] at hf g2
  have a9 := zx_nc (q.1 x0 14)
  rcases hc with ⟨c1, c2, -⟩ | ⟨-, c2, -⟩
  · by_cases z9 : f = (q.1 x0 14).toNatClampNeg
    · have ef : h.2.2.2 fa f = f9 := by rw [z9]; exact e9f c1.1
      have he : e9 = f9 := by rw [← ee9]; exact ef
      rw [ee9, o2 e9 he9 ke9, he, z9]
      exact zx_eq.mpr ((hi c1).trans (hj.1 c1).symm)
    · have nf : ¬ e9 = f9 := fun z8 => z9 (hfd f _ (by omega) (by omega) (by rw [ee9, e9f c1.1]; exact z8))
      rw [ee9, o2 e9 he9 ke9, o1 e9 he9 ke9 nf, ← ee9, hj.2 f z9]
      exact hR f (by omega)
  · have z9 : f ≠ (q.1 x0 14).toNatClampNeg := by omega
    have nf : ¬ e9 = f9 := fun z8 => by
      by_cases h12 : (q.1 x0 14).toInt < 12
      · exact z9 (hfd f _ (by omega) (by omega) (by rw [ee9, e9f h12]; exact z8))
      · exact k9f h12 (by rw [← z8]; exact ke9)
    rw [ee9, o2 e9 he9 ke9, o1 e9 he9 ke9 nf, ← ee9, hj.2 f z9]
    exact hR f (by omega)
