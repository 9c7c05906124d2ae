/-! The Units in use, with a UNIT at least in each SYSTEM; both OUTs. -/
def lc_u8 (sc sy : Int32) (UC UCr FA FAr WO : Nat → Int32) (NM UNr : Nat → Int64) : Prop := lc_u sc sy UC UCr FA FAr WO NM UNr ∧ ∀ s : Nat, (s : Int) < sc.toInt → 1 ≤ (UC s).toInt
def lc_o (sz sz2 : Int32) (f g : Nat → Int32) : Prop := sz.toInt = sz2.toInt ∧ ty_T f g sz.toInt.toNat
section LU8
variable {F : Nat → Int32} {U : PU} {sc sy n1 n2 r1 r2 : Int32} {UC UCr FA FAr WO : Nat → Int32} {SN NM UNr : Nat → Int64}
theorem lc_u8_mk {n : Nat} {R : Option Nat × PU} (h : r8 F R.2 sc SN UC NM FA WO) (hr : r27z F R.2 UNr UCr FAr) (ok : pm_ok F 0 R.2) (hs : sy.toInt = (R.2.1 : Int)) (hR : R = pm_run F n 401 0 0 pu_0 0) (h1 : R.1 = none) : lc_u8 sc sy UC UCr FA FAr WO NM UNr := by
  refine ⟨lc_u_mk h hr ok hs, fun s z => ?_⟩
  have z1 := pm_one (F := F) (n := n) 401 0 0 pu_0 0 (fun s hs => absurd hs (Nat.not_lt_zero s)) (by rw [← hR]; exact h1)
  rw [← hR] at z1
  have e1 := h.1
  have o1 := ok.1
  have e := h.2.2.1 s (by omega)
  rw [if_pos (show s < R.2.1 by omega)] at e
  have z2 := z1 s (by omega)
  omega
theorem lc_u8_lo {UCr2 FAr2 : Nat → Int32} {UNr2 : Nat → Int64} (h : lc_u8 sc sy UC UCr FA FAr WO NM UNr) (lo : rs_lo UNr UNr2 UCr UCr2 FAr FAr2) (h3 : sc.toInt ≤ 3) : lc_u8 sc sy UC UCr2 FA FAr2 WO NM UNr2 := ⟨lc_u_lo h.1 lo h3, h.2⟩
theorem pw_of {x y : Int64} (h : pu_W x y) : ∃ w : List Nat, pw_8 x w ∧ pw_27 y w := by
  obtain ⟨F, s, h1, h2, h3⟩ := h
  exact ⟨pw_wl F s.1 s.2, ⟨F, s, h1, h2, rfl⟩, F, s, h1, h3, rfl⟩
/-- what write must know, of both sides -/
theorem lc_u8_w (h : lc_u8 sc sy UC UCr FA FAr WO NM UNr) (hF : ∀ s k : Nat, s < 6 → 1 ≤ k → (k : Int) < (UCr s).toInt → 2 ≤ (FAr (5 * s + k)).toInt ∧ (FAr (5 * s + k)).toInt ≤ 60) (s : Nat) (hs : (s : Int) < sc.toInt) (h3 : sc.toInt ≤ 3) : ∃ (Wf : Nat → Nat) (Xf : Nat → List Nat), pw_c Wf Xf (UC s) WO NM s ∧ pw_r Wf Xf (UCr s) FAr UNr s := by
  obtain ⟨g1, g2, g3⟩ := h.1.2 s hs
  have g0 := h.2 s hs
  have hb : ∀ j : Nat, 1 ≤ j → (j : Int) < (UC s).toInt → 2 ≤ (FA (5 * s + j)).toInt ∧ (FA (5 * s + j)).toInt ≤ 60 := fun j h1 hj => by
    rw [(g3 j hj).1 h1]
    exact hF s j (by omega) h1 (by rw [← g1]; exact hj)
  have hX : ∀ u : Nat, ∃ w : List Nat, (u : Int) < (UC s).toInt → pw_8 (NM (5 * s + u)) w ∧ pw_27 (UNr (5 * s + u)) w := fun u => by
    by_cases z : (u : Int) < (UC s).toInt
    · obtain ⟨w, z1⟩ := pw_of (g3 u z).2.2
      exact ⟨w, fun _ => z1⟩
    · exact ⟨[], fun y => absurd y z⟩
  obtain ⟨Xf, hX⟩ := Classical.skolem.mp hX
  have hW : ∀ u : Nat, (u : Int) < (UC s).toInt → (pu_wo FA s u).toInt = (((pu_wo FA s u).toInt.toNat : Nat) : Int) ∧ 1 ≤ (pu_wo FA s u).toInt.toNat ∧ (1 ≤ u → (pu_wo FA s u).toInt.toNat ≤ 60 * (pu_wo FA s (u - 1)).toInt.toNat) := fun u hu => by
    obtain ⟨y1, y2, y3⟩ := pw_wo_b (f := FA) (s := s) (u := u) (by omega) (fun j h1 hj => hb j h1 (by omega))
    exact ⟨by omega, by omega, fun z => by have y4 := y3 z; omega⟩
  refine ⟨fun u => (pu_wo FA s u).toInt.toNat, Xf, ⟨⟨g0, g2.2⟩, fun u hu => ?_⟩, ⟨by rw [← g1]; exact ⟨g0, g2.2⟩, fun u hu => ?_⟩⟩
  · obtain ⟨y1, y2, y3⟩ := hW u hu
    exact ⟨by rw [(g3 u hu).2.1]; exact y1, y2, y3, (hX u hu).1⟩
  · rw [← g1] at hu
    obtain ⟨y1, y2, y3⟩ := hW u hu
    have e : pu_wo FAr s u = pu_wo FA s u := pw_wo_eq (fun j h1 hj => ((g3 j (by omega)).1 h1).symm)
    exact ⟨by rw [e]; exact y1, y2, y3, (hX u hu).2⟩
theorem lc_u8_n (h : lc_u8 sc sy UC UCr FA FAr WO NM UNr) (hF : ∀ s k : Nat, s < 6 → 1 ≤ k → (k : Int) < (UCr s).toInt → 2 ≤ (FAr (5 * s + k)).toInt ∧ (FAr (5 * s + k)).toInt ≤ 60) (n : Int32) (h3 : sc.toInt ≤ 3) : ∃ (Wf : Nat → Nat) (Xf : Nat → List Nat), pz_hd (0 ≤ n.toInt → n.toInt < sc.toInt → pw_c Wf Xf (UC n.toNatClampNeg) WO NM n.toNatClampNeg) ∧ pz_hd (0 ≤ n.toInt → n.toInt < sy.toInt → pw_r Wf Xf (UCr n.toNatClampNeg) FAr UNr n.toNatClampNeg) := by
  have e := h.1.1
  by_cases z : 0 ≤ n.toInt ∧ n.toInt < sc.toInt
  · obtain ⟨Wf, Xf, z1, z2⟩ := lc_u8_w h hF n.toNatClampNeg (by have a := zx_nc n; omega) h3
    exact ⟨Wf, Xf, fun _ _ => z1, fun _ _ => z2⟩
  · exact ⟨fun _ => 0, fun _ => [], fun y1 y2 => absurd ⟨y1, y2⟩ z, fun y1 y2 => absurd ⟨y1, by omega⟩ z⟩
/-- both answers of write, and both OUTs -/
theorem lc_wr {Wf : Nat → Nat} {Xf : Nat → List Nat} {T9 T8 : List Nat} {s0 s1 z0 z1 : Int32} {f0 f1 g0 g1 : Nat → Int32} (hu : lc_u8 sc sy UC UCr FA FAr WO NM UNr)
    (hC : ¬ ((0 ≤ n1.toInt ∧ n1.toInt < sc.toInt) ∧ 1 ≤ n2.toInt ∧ n2.toInt.toNat / Wf ((UC n1.toNatClampNeg).toInt.toNat - 1) ≤ 99) ∧ r1.toInt = -1 ∧ s1 = s0 ∧ f1 = f0 ∨ ((0 ≤ n1.toInt ∧ n1.toInt < sc.toInt) ∧ 1 ≤ n2.toInt ∧ n2.toInt.toNat / Wf ((UC n1.toNatClampNeg).toInt.toNat - 1) ≤ 99) ∧ pw_C T9 s1 f1 ∧ r1 = s1)
    (hR : ¬ ((0 ≤ n1.toInt ∧ n1.toInt < sy.toInt) ∧ 1 ≤ n2.toInt ∧ n2.toInt.toNat / Wf ((UCr n1.toNatClampNeg).toInt.toNat - 1) ≤ 99) ∧ r2.toInt = -1 ∧ z1 = z0 ∧ g1 = g0 ∨ ((0 ≤ n1.toInt ∧ n1.toInt < sy.toInt) ∧ 1 ≤ n2.toInt ∧ n2.toInt.toNat / Wf ((UCr n1.toNatClampNeg).toInt.toNat - 1) ≤ 99) ∧ pw_R T8 z1 g1 ∧ r2 = z1)
    (e9 : pw_all Wf Xf (UC n1.toNatClampNeg).toInt.toNat n2.toInt.toNat [] = T9) (e8 : pw_all Wf Xf (UCr n1.toNatClampNeg).toInt.toNat n2.toInt.toNat [] = T8) (ho : lc_o s0 z0 f0 g0) : r1.toInt = r2.toInt ∧ lc_o s1 z1 f1 g1 := by
  have e := hu.1.1
  have hc : 0 ≤ n1.toInt ∧ n1.toInt < sc.toInt → UC n1.toNatClampNeg = UCr n1.toNatClampNeg := fun z => (hu.1.2 n1.toNatClampNeg (by have a := zx_nc n1; omega)).1
  rcases hC with ⟨a1, a2, a3, a4⟩ | ⟨a1, a2, a3⟩
  · rcases hR with ⟨b1, b2, b3, b4⟩ | ⟨b1, b2, b3⟩
    · rw [a3, a4, b3, b4]
      exact ⟨by omega, ho⟩
    · rw [← hc ⟨b1.1.1, by omega⟩, ← e] at b1
      exact absurd b1 a1
  · rcases hR with ⟨b1, b2, b3, b4⟩ | ⟨b1, b2, b3⟩
    · rw [← hc a1.1, ← e] at b1
      exact absurd a1 b1
    · rw [← hc a1.1, e9] at e8
      rw [← e8] at b2
      have z := pw_CR a2 b2
      rw [a3, b3]
      exact ⟨z.1, z⟩
end LU8
def lc_uq8 (q : Sg) (a0 uu m17 m18 m19 : Nat) : Prop := lc_u8 (q.1 uu 6) (q.1 a0 20) (q.2.2.2.1 (q.2.2.1 uu 1)) (q.2.2.2.1 m18) (q.2.2.2.1 (q.2.2.1 uu 3)) (q.2.2.2.1 m19) (q.2.2.2.1 (q.2.2.1 uu 4)) (q.2.2.2.2 (q.2.2.1 uu 2)) (q.2.2.2.2 m17)
def lc_I8 (h : Sh) (L : List Nat) (x0 a0 t0 tb fa : Nat) (mm : Nat → Nat) (q : Sg) : Prop := lc_I7 h L x0 a0 t0 tb fa mm q ∧ ∃ uu su o0 ob : Nat, q.2.2.1 x0 11 = uu ∧ q.2.2.1 x0 12 = su ∧ lc_dz q uu su ∧ lc_uq8 q a0 uu (mm 17) (mm 18) (mm 19) ∧ (q.2.2.1 x0 1 = o0 ∧ q.2.2.1 o0 0 = ob) ∧ lc_o (q.1 o0 1) (q.1 a0 22) (q.2.2.2.1 ob) (q.2.2.2.1 (mm 21))
