/-! The Units in use and the reference's rows 0 to 2 say the same. -/
def pu_W (x y : Int64) : Prop := ∃ (F : Nat → Int32) (s : Nat × Nat), pu_wd F s ∧ x = pu_w F s ∧ y = pu_v F s
def lc_u (sc sy : Int32) (UC UCr FA FAr WO : Nat → Int32) (NM UNr : Nat → Int64) : Prop := sc.toInt = sy.toInt ∧ ∀ s : Nat, (s : Int) < sc.toInt → UC s = UCr s ∧ (0 ≤ (UC s).toInt ∧ (UC s).toInt ≤ 5) ∧ ∀ u : Nat, (u : Int) < (UC s).toInt → (1 ≤ u → FA (5 * s + u) = FAr (5 * s + u)) ∧ WO (5 * s + u) = pu_wo FA s u ∧ pu_W (NM (5 * s + u)) (UNr (5 * s + u))
section LU
variable {F : Nat → Int32} {U : PU} {sc sy n1 n2 r1 r2 : Int32} {UC UCr FA FAr WO : Nat → Int32} {SN NM UNr : Nat → Int64}
theorem lc_u_mk (h : r8 F U sc SN UC NM FA WO) (hr : r27z F U UNr UCr FAr) (ok : pm_ok F 0 U) (hs : sy.toInt = (U.1 : Int)) : lc_u sc sy UC UCr FA FAr WO NM UNr := by
  obtain ⟨h1, h2, h3, h4, h5, h6⟩ := h
  refine ⟨by omega, fun s z => ?_⟩
  have zs : s < U.1 := by omega
  have o1 := ok.1
  obtain ⟨g1, g2⟩ := hr s zs
  obtain ⟨q1, q2, q3⟩ := ok.2.2.2.2.2 s zs
  have e := h3 s (by omega)
  rw [if_pos zs] at e
  refine ⟨zx_eq.mpr (by omega), by omega, fun u hu => ?_⟩
  have hu2 : u < U.2.2.1 s := by omega
  obtain ⟨g3, g4⟩ := g2 u hu2
  refine ⟨fun hu1 => ?_, ?_, F, U.2.2.2.1 (5 * s + u), q3 u hu2, ?_, g3⟩
  · rw [h5 s u zs hu2, g4 hu1]
  · rw [h6 s u zs hu2]
    exact (pu_wo_eq (f := U.2.2.2.2) (fun j hj => h5 s j zs (by omega))).symm
  · rw [h4 s u (by omega) (by omega), if_pos ⟨zs, hu2⟩]
theorem lc_u_ok (h : lc_u sc sy UC UCr FA FAr WO NM UNr) : sy_ok sc n1 n2 ↔ sy_ok sy n1 n2 := by
  have e := h.1
  unfold sy_ok
  rw [e]
theorem lc_u_an (h : lc_u sc sy UC UCr FA FAr WO NM UNr) (ok : sy_ok sc n1 n2) (a1 : sy_an n1 n2 UC FA r1) (a2 : sy_an n1 n2 UCr FAr r2) : r1 = r2 := by
  unfold sy_ok at ok
  have e1 := zx_nc n1
  have e2 := zx_nc n2
  obtain ⟨g1, g2, g3⟩ := h.2 n1.toNatClampNeg (by omega)
  unfold sy_an at a1 a2
  rw [← g1] at a2
  rcases a1 with ⟨z1, z2⟩ | ⟨z1, z2⟩ | ⟨z1, z2⟩
  · rcases a2 with ⟨y1, y2⟩ | ⟨y1, y2⟩ | ⟨y1, y2⟩
    · rw [z2, y2]
    · omega
    · omega
  · rcases a2 with ⟨y1, y2⟩ | ⟨y1, y2⟩ | ⟨y1, y2⟩
    · omega
    · rw [z2, y2]
      exact (g3 n2.toNatClampNeg (by omega)).1 (by omega)
    · omega
  · rcases a2 with ⟨y1, y2⟩ | ⟨y1, y2⟩ | ⟨y1, y2⟩
    · omega
    · omega
    · exact zx_eq.mpr (by omega)
/-- rows that are as they were -/
theorem lc_u_lo {UCr2 FAr2 : Nat → Int32} {UNr2 : Nat → Int64} (h : lc_u sc sy UC UCr FA FAr WO NM UNr) (lo : rs_lo UNr UNr2 UCr UCr2 FAr FAr2) (h3 : sc.toInt ≤ 3) : lc_u sc sy UC UCr2 FA FAr2 WO NM UNr2 := by
  refine ⟨h.1, fun s z => ?_⟩
  obtain ⟨g1, g2, g3⟩ := h.2 s z
  refine ⟨by rw [lo.2.1 s (by omega)]; exact g1, g2, fun u hu => ?_⟩
  obtain ⟨g4, g5, g6⟩ := g3 u hu
  exact ⟨fun hu1 => by rw [lo.2.2 _ (by omega)]; exact g4 hu1, g5, by rw [lo.1 _ (by omega)]; exact g6⟩
end LU
