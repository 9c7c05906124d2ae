/-! The reference's reader in a state of the machine: rows 3 to 5 of its arrays. -/
def r27 (F : Nat → Int32) (U : PU) (SN UN : Nat → Int64) (UC FA : Nat → Int32) : Prop := ∀ s, s < U.1 → SN (3 + s) = pu_v F (U.2.1 s) ∧ (UC (3 + s)).toInt = (U.2.2.1 s : Int) ∧ ∀ u, u < U.2.2.1 s → UN (5 * (3 + s) + u) = pu_v F (U.2.2.2.1 (5 * s + u)) ∧ (1 ≤ u → FA (5 * (3 + s) + u) = U.2.2.2.2 (5 * s + u))
def r27_tk (SN UN : Nat → Int64) (UC : Nat → Int32) (m : Nat) (x : Int64) : Prop := ∃ s, s ≤ m ∧ (SN (3 + s) = x ∨ ∃ u : Nat, (u : Int) < (UC (3 + s)).toInt ∧ UN (5 * (3 + s) + u) = x)
def pm_r (F : Nat → Int32) (n : Nat) (R : Option Nat × PU) (a ph m : Nat) (SN UN : Nat → Int64) (UC FA : Nat → Int32) : Prop := ∃ (k : Nat) (f : Int32) (U : PU), 401 ≤ k + min a 400 ∧ U.1 = m ∧ pm_ok F ph U ∧ r27 F U SN UN UC FA ∧ (ph = 3 → U.2.2.1 (U.1 - 1) = 0 ∨ FA (5 * (3 + (U.1 - 1)) + U.2.2.1 (U.1 - 1)) = f) ∧ pm_run F n k ph f U a = R
section RR
variable {F : Nat → Int32} {n a ph m : Nat} {U : PU} {R : Option Nat × PU} {SN SN' UN UN' : Nat → Int64} {UC UC' FA FA' : Nat → Int32} {k sg fr to f1 f2 : Int32} {x : Int64}
theorem pu_same {s t : Nat × Nat} (h1 : pu_wd F s) (h2 : pu_wd F t) : pu_w F s = pu_w F t ↔ pu_v F s = pu_v F t := pz_same h1.2.1 h2.2.1 h1.2.2 h2.2.2
theorem pu_v_ne0 {s : Nat × Nat} (h : pu_wd F s) : ¬ pu_v F s = 0 := fun z => by
  have y := (pz_n27_inj (F := F) (G := F) (a := s.1) (b := 0) (k := s.2) (j := 0) h.2.1 (by decide) h.2.2 (fun i hi => absurd hi (Nat.not_lt_zero i))).mp z
  have := h.1
  omega
theorem r27.tk {w : Nat × Nat} (h : r27 F U SN UN UC FA) (ok : pm_ok F ph U) (hw : pu_wd F w) (hm : U.1 ≤ m + 1) (h0 : U.1 = m → SN (3 + m) = 0 ∧ UC (3 + m) = 0) (hmm : m ≤ U.1) : r27_tk SN UN UC m (pu_v F w) ↔ pu_tk F U (pu_w F w) := by
  constructor
  · rintro ⟨s, z1, z2⟩
    by_cases c : s < U.1
    · obtain ⟨h1, h2, h3⟩ := h s c
      obtain ⟨o1, o2, o3⟩ := ok.2.2.2.2.2 s c
      refine ⟨s, c, ?_⟩
      rcases z2 with z2 | ⟨u, z2, z3⟩
      · rw [h1] at z2
        exact Or.inl ((pu_same o1 hw).mpr z2)
      · have hu : u < U.2.2.1 s := by omega
        rw [(h3 u hu).1] at z3
        exact Or.inr ⟨u, hu, (pu_same (o3 u hu) hw).mpr z3⟩
    · have e : s = m := by omega
      subst e
      obtain ⟨y1, y2⟩ := h0 (by omega)
      rcases z2 with z2 | ⟨u, z2, z3⟩
      · rw [y1] at z2
        exact absurd z2.symm (pu_v_ne0 hw)
      · rw [y2] at z2
        have z2 : (u : Int) < 0 := z2
        omega
  · rintro ⟨s, c, z2⟩
    obtain ⟨h1, h2, h3⟩ := h s c
    obtain ⟨o1, o2, o3⟩ := ok.2.2.2.2.2 s c
    refine ⟨s, by omega, ?_⟩
    rcases z2 with z2 | ⟨u, z2, z3⟩
    · rw [h1]
      exact Or.inl ((pu_same o1 hw).mp z2)
    · refine Or.inr ⟨u, by omega, ?_⟩
      rw [(h3 u z2).1]
      exact (pu_same (o3 u z2) hw).mp z3
theorem rr_0 : pm_r F n (pm_run F n 401 0 0 pu_0 0) 0 0 0 SN UN UC FA := ⟨401, 0, pu_0, by omega, rfl, ⟨Nat.zero_le _, fun z => absurd z (by decide), fun z => absurd z (by decide), fun z => absurd z (by decide), fun z => absurd z (by decide), fun s z => absurd z (Nat.not_lt_zero s)⟩, fun s z => absurd z (Nat.not_lt_zero s), fun z => absurd z (by decide), rfl⟩
/-- words by their kinds -/
theorem pr_kn (T : pz_R F n a k sg fr to f1 f2 x) (hk : k.toInt = 2) : pu_wd F (pz_W F n a) ∧ x = pu_v F (pz_W F n a) ∧ (pz_K F n a = 6 ↔ x = 286303963) ∧ (pz_K F n a = 2 ↔ ¬ x = 286303963 ∧ ¬ x = 10938684 ∧ ¬ x = 4075492) := by
  obtain ⟨T1, T2, T3⟩ := T
  have h : (pz_K F n a = 2 ∨ 6 ≤ pz_K F n a) ∧ x = pu_v F (pz_W F n a) := by
    rcases T3 with z | z | z | z | z
    · omega
    · omega
    · exact z.2
    · omega
    · omega
  obtain ⟨hw, hK⟩ := pz_K_wd h.1
  refine ⟨hw, h.2, ?_⟩
  have s1 : pu_w F (pz_W F n a) = 126965465245037 ↔ pu_v F (pz_W F n a) = 286303963 := pz_keyS hw.2.1 hw.2.2
  have s2 : pu_w F (pz_W F n a) = 500086104428 ↔ pu_v F (pz_W F n a) = 10938684 := pz_keyT hw.2.1 hw.2.2
  have s3 : pu_w F (pz_W F n a) = 444300619364 ↔ pu_v F (pz_W F n a) = 4075492 := pz_keyG hw.2.1 hw.2.2
  rw [h.2, ← s1, ← s2, ← s3, hK]
  generalize pu_w F (pz_W F n a) = y
  unfold pz_kn
  by_cases h1 : y = 126965465245037
  · rw [pz_if1 h1]
    exact ⟨⟨fun _ => h1, fun _ => rfl⟩, ⟨fun z => absurd z (by decide), fun z => absurd h1 z.1⟩⟩
  · rw [pz_if0 h1]
    by_cases h2 : y = 500086104428
    · rw [pz_if1 h2]
      exact ⟨⟨fun z => absurd z (by decide), fun z => absurd z h1⟩, ⟨fun z => absurd z (by decide), fun z => absurd h2 z.2.1⟩⟩
    · rw [pz_if0 h2]
      by_cases h3 : y = 444300619364
      · rw [pz_if1 h3]
        exact ⟨⟨fun z => absurd z (by decide), fun z => absurd z h1⟩, ⟨fun z => absurd z (by decide), fun z => absurd h3 z.2.2⟩⟩
      · rw [pz_if0 h3]
        exact ⟨⟨fun z => absurd z (by decide), fun z => absurd z h1⟩, ⟨fun _ => ⟨h1, h2, h3⟩, fun _ => rfl⟩⟩
theorem pr_ne (T : pz_R F n a k sg fr to f1 f2 x) (hk : ¬ k.toInt = 2) : ¬ (pz_K F n a = 2 ∨ 6 ≤ pz_K F n a) := by
  obtain ⟨T1, T2, T3⟩ := T
  omega
/-- one step of the machine -/
theorem rr_k {k0 : Nat} (h : 401 ≤ k0 + min a 400) : ∃ k1, k0 = k1 + 1 := ⟨k0 - 1, by omega⟩
theorem rr_at {k1 : Nat} (h : 401 ≤ k1 + 1 + min a 400) (hk : ¬ pz_K F n a = 0) : 401 ≤ k1 + min (pz_E F n a) 400 := by
  have z := pz_E_lt hk
  omega
theorem rr_key_bad (C : pm_r F n R a 0 m SN UN UC FA) (T : pz_R F n a k sg fr to f1 f2 x) (hn : ¬ (k.toInt = 0 ∧ 0 < m)) (hb : ¬ (k.toInt = 2 ∧ x = 286303963 ∧ m < 3)) : R.1 = some fr.toInt.toNat := by
  obtain ⟨k0, f, U, c1, c2, c3, c4, c5, c6⟩ := C
  obtain ⟨k1, rfl⟩ := rr_k c1
  have hP := T.1
  have hT := T.2.2
  by_cases h0 : pz_K F n a = 0
  · have c7 : pz_if (0 < U.1 ∧ n ≤ 400) (none, U) (some (pz_P F n a), U) = R := (pz_if1 h0).symm.trans c6
    rw [pz_if0 (by omega)] at c7
    subst c7
    show some _ = some _
    rw [hP]; rfl
  · have c7 : pz_if (pz_K F n a = 6 ∧ U.1 < 3) (pm_run F n k1 1 0 U (pz_E F n a)) (some (pz_P F n a), U) = R := (pz_if0 h0).symm.trans c6
    rw [pz_if0 (fun z => by
      by_cases hk : k.toInt = 2
      · exact hb ⟨hk, (pr_kn T hk).2.2.1.mp z.1, by omega⟩
      · exact pr_ne T hk (by omega))] at c7
    subst c7
    show some _ = some _
    rw [hP]; rfl
theorem rr_key (C : pm_r F n R a 0 m SN UN UC FA) (T : pz_R F n a k sg fr to f1 f2 x) (hb : k.toInt = 2 ∧ x = 286303963 ∧ m < 3) : to.toInt = ((pz_E F n a : Nat) : Int) ∧ pm_r F n R (pz_E F n a) 1 m SN UN UC FA := by
  obtain ⟨k0, f, U, c1, c2, c3, c4, c5, c6⟩ := C
  obtain ⟨k1, rfl⟩ := rr_k c1
  have h6 : pz_K F n a = 6 := (pr_kn T hb.1).2.2.1.mpr hb.2.1
  have c7 : pz_if (pz_K F n a = 6 ∧ U.1 < 3) (pm_run F n k1 1 0 U (pz_E F n a)) (some (pz_P F n a), U) = R := (pz_if0 (by omega)).symm.trans c6
  rw [pz_if1 (by omega)] at c7
  exact ⟨T.2.1 (by omega), k1, 0, U, rr_at c1 (by omega), c2, ⟨c3.1, fun z => absurd z (by decide), fun z => absurd z (by decide), fun z => absurd z (by decide), fun _ => by omega, c3.2.2.2.2.2⟩, c4, fun z => absurd z (by decide), c7⟩
theorem rr_done (C : pm_r F n R a 0 m SN UN UC FA) (T : pz_R F n a k sg fr to f1 f2 x) (h0 : k.toInt = 0) (hm : 0 < m) : R.1 = none ∧ R.2.1 = m ∧ r27 F R.2 SN UN UC FA ∧ pm_ok F 0 R.2 := by
  obtain ⟨k0, f, U, c1, c2, c3, c4, c5, c6⟩ := C
  obtain ⟨k1, rfl⟩ := rr_k c1
  have hT := T.2.2
  have c7 : pz_if (0 < U.1 ∧ n ≤ 400) (none, U) (some (pz_P F n a), U) = R := (pz_if1 (by omega)).symm.trans c6
  rw [pz_if1 (by omega)] at c7
  subst c7
  exact ⟨rfl, c2, c4, c3⟩
/-- rows that aren't there yet may be set anew -/
theorem rr_set (C : pm_r F n R a 1 m SN UN UC FA) (h1 : ∀ s, s < m → SN' (3 + s) = SN (3 + s)) (h2 : ∀ s, s < m → UC' (3 + s) = UC (3 + s)) : pm_r F n R a 1 m SN' UN UC' FA := by
  obtain ⟨k0, f, U, c1, c2, c3, c4, c5, c6⟩ := C
  refine ⟨k0, f, U, c1, c2, c3, fun s z => ?_, fun z => absurd z (by decide), c6⟩
  rw [h1 s (by omega), h2 s (by omega)]
  exact c4 s z
theorem rr_free_bad (C : pm_r F n R a ph m SN UN UC FA) (hp : ph = 1 ∨ ph = 3) (T : pz_R F n a k sg fr to f1 f2 x) (hb : ¬ (k.toInt = 2 ∧ ¬ x = 286303963 ∧ ¬ x = 10938684 ∧ ¬ x = 4075492)) : R.1 = some fr.toInt.toNat := by
  obtain ⟨k0, f, U, c1, c2, c3, c4, c5, c6⟩ := C
  obtain ⟨k1, rfl⟩ := rr_k c1
  have hP := T.1
  have h2 : ¬ pz_K F n a = 2 := fun z => by
    by_cases hk : k.toInt = 2
    · exact hb ⟨hk, (pr_kn T hk).2.2.2.mp z⟩
    · exact pr_ne T hk (Or.inl z)
  rcases hp with rfl | rfl
  · have c7 : (some (pz_P F n a), U) = R := (pz_if0 (fun z => h2 z.1)).symm.trans c6
    subst c7
    show some _ = some _
    rw [hP]; rfl
  · have c7 : (some (pz_P F n a), U) = R := (pz_if0 (fun z => h2 z.1)).symm.trans c6
    subst c7
    show some _ = some _
    rw [hP]; rfl
theorem rr_taken_bad (C : pm_r F n R a ph m SN UN UC FA) (hp : ph = 1 ∨ ph = 3) (T : pz_R F n a k sg fr to f1 f2 x) (hk : k.toInt = 2) {j : Nat} (hj : m ≤ j + 1) (hj2 : j ≤ m) (h0 : m = j → SN (3 + j) = 0 ∧ UC (3 + j) = 0) (hb : r27_tk SN UN UC j x) : R.1 = some fr.toInt.toNat := by
  obtain ⟨k0, f, U, c1, c2, c3, c4, c5, c6⟩ := C
  obtain ⟨k1, rfl⟩ := rr_k c1
  have hP := T.1
  obtain ⟨hw, hx, -⟩ := pr_kn T hk
  rw [hx] at hb
  have h2 := (r27.tk (m := j) c4 c3 hw (by omega) (fun z => h0 (by omega)) (by omega)).mp hb
  rcases hp with rfl | rfl
  · have c7 : (some (pz_P F n a), U) = R := (pz_if0 (fun z => z.2 h2)).symm.trans c6
    subst c7
    show some _ = some _
    rw [hP]; rfl
  · have c7 : (some (pz_P F n a), U) = R := (pz_if0 (fun z => z.2 h2)).symm.trans c6
    subst c7
    show some _ = some _
    rw [hP]; rfl
theorem rr_name (C : pm_r F n R a 1 m SN UN UC FA) (T : pz_R F n a k sg fr to f1 f2 x) (hk : k.toInt = 2 ∧ ¬ x = 286303963 ∧ ¬ x = 10938684 ∧ ¬ x = 4075492) (h0 : SN (3 + m) = 0 ∧ UC (3 + m) = 0) (hb : ¬ r27_tk SN UN UC m x) (hS : SN' = vp_updL SN (3 + m) x) : to.toInt = ((pz_E F n a : Nat) : Int) ∧ pm_r F n R (pz_E F n a) 2 (m + 1) SN' UN UC FA := by
  obtain ⟨k0, f, U, c1, c2, c3, c4, c5, c6⟩ := C
  obtain ⟨k1, rfl⟩ := rr_k c1
  obtain ⟨hw, hx, h6, h2⟩ := pr_kn T hk.1
  have h2 := h2.mpr hk.2
  rw [hx] at hb
  have hn := fun z => hb ((r27.tk (m := m) c4 c3 hw (by omega) (fun _ => h0) (by omega)).mpr z)
  have c7 : pm_run F n k1 2 0 (pu_S U (pz_W F n a)) (pz_E F n a) = R := (pz_if1 ⟨h2, hn⟩).symm.trans c6
  obtain ⟨o1, o2, o3, o4, o5, o6⟩ := c3
  have o7 := o5 rfl
  refine ⟨T.2.1 (by omega), k1, 0, pu_S U (pz_W F n a), rr_at c1 (by omega), by show U.1 + 1 = m + 1; omega, ⟨by show U.1 + 1 ≤ 3; omega, fun _ => by show 1 ≤ U.1 + 1; omega, fun _ => ?_, fun _ => ?_, fun z => absurd z (by decide), fun s z => ?_⟩, fun s z => ?_, fun z => absurd z (by decide), c7⟩
  · show pu_up U.2.2.1 U.1 0 (U.1 + 1 - 1) < 5
    rw [Nat.add_sub_cancel, pu_up1]; omega
  · show pu_up U.2.2.1 U.1 0 (U.1 + 1 - 1) = 0
    rw [Nat.add_sub_cancel, pu_up1]
  · have z : s < U.1 + 1 := z
    show pu_wd F (pu_up U.2.1 U.1 (pz_W F n a) s) ∧ pu_up U.2.2.1 U.1 0 s ≤ 5 ∧ ∀ u, u < pu_up U.2.2.1 U.1 0 s → pu_wd F (U.2.2.2.1 (5 * s + u))
    by_cases y : s = U.1
    · subst y
      rw [pu_up1, pu_up1]
      exact ⟨hw, by omega, fun u hu => absurd hu (Nat.not_lt_zero u)⟩
    · rw [pu_up2 y, pu_up2 y]
      exact o6 s (by omega)
  · have z : s < U.1 + 1 := z
    show SN' (3 + s) = pu_v F (pu_up U.2.1 U.1 (pz_W F n a) s) ∧ (UC (3 + s)).toInt = ((pu_up U.2.2.1 U.1 0 s : Nat) : Int) ∧ ∀ u, u < pu_up U.2.2.1 U.1 0 s → UN (5 * (3 + s) + u) = pu_v F (U.2.2.2.1 (5 * s + u)) ∧ (1 ≤ u → FA (5 * (3 + s) + u) = U.2.2.2.2 (5 * s + u))
    rw [hS]
    by_cases y : s = U.1
    · subst y
      rw [pu_up1, pu_up1]
      refine ⟨?_, ?_, fun u hu => absurd hu (Nat.not_lt_zero u)⟩
      · rw [← hx, c2]; exact if_pos rfl
      · rw [c2, h0.2]; rfl
    · rw [pu_up2 y, pu_up2 y, show vp_updL SN (3 + m) x (3 + s) = SN (3 + s) from if_neg (by omega)]
      exact c4 s (by omega)
theorem rr_colon_bad (C : pm_r F n R a 2 m SN UN UC FA) (T : pz_R F n a k sg fr to f1 f2 x) (hb : ¬ (k.toInt = 4 ∧ sg.toInt = 58)) : R.1 = some fr.toInt.toNat := by
  obtain ⟨k0, f, U, c1, c2, c3, c4, c5, c6⟩ := C
  obtain ⟨k1, rfl⟩ := rr_k c1
  have hP := T.1
  have hT := T.2.2
  have c7 : (some (pz_P F n a), U) = R := (pz_if0 (by omega)).symm.trans c6
  subst c7
  show some _ = some _
  rw [hP]; rfl
theorem rr_colon (C : pm_r F n R a 2 m SN UN UC FA) (T : pz_R F n a k sg fr to f1 f2 x) (hb : k.toInt = 4 ∧ sg.toInt = 58) : to.toInt = ((pz_E F n a : Nat) : Int) ∧ pm_r F n R (pz_E F n a) 3 m SN UN UC FA ∧ (UC (3 + (m - 1))).toInt = 0 := by
  obtain ⟨k0, f, U, c1, c2, c3, c4, c5, c6⟩ := C
  obtain ⟨k1, rfl⟩ := rr_k c1
  have hT := T.2.2
  have h4 : pz_K F n a = 4 := by omega
  have c7 : pm_run F n k1 3 1 U (pz_E F n a) = R := (pz_if1 h4).symm.trans c6
  obtain ⟨o1, o2, o3, o4, o5, o6⟩ := c3
  have p1 := o2 (by omega)
  have p2 := o4 rfl
  refine ⟨T.2.1 (by omega), ⟨k1, 1, U, rr_at c1 (by omega), c2, ⟨o1, fun _ => p1, fun _ => o3 (Or.inl rfl), fun z => absurd z (by decide), fun z => absurd z (by decide), o6⟩, c4, fun _ => Or.inl p2, c7⟩, ?_⟩
  have e := (c4 (U.1 - 1) (by omega)).2.1
  rw [← c2]
  omega
theorem rr_unit (C : pm_r F n R a 3 m SN UN UC FA) (T : pz_R F n a k sg fr to f1 f2 x) (hk : k.toInt = 2 ∧ ¬ x = 286303963 ∧ ¬ x = 10938684 ∧ ¬ x = 4075492) {j i : Nat} {c : Int32} (hj : m = j + 1) (hb : ¬ r27_tk SN UN UC j x) (hi : (i : Int) = 5 * (3 + (j : Int)) + (UC (3 + j)).toInt) (hc : c.toInt = (UC (3 + j)).toInt + 1) (hU : UC' = upd UC (3 + j) c) (hN : UN' = vp_updL UN i x) : to.toInt = ((pz_E F n a : Nat) : Int) ∧ pm_r F n R (pz_E F n a) 4 m SN UN' UC' FA := by
  obtain ⟨k0, f, U, c1, c2, c3, c4, c5, c6⟩ := C
  obtain ⟨k1, rfl⟩ := rr_k c1
  obtain ⟨hw, hx, h6, h2⟩ := pr_kn T hk.1
  have h2 := h2.mpr hk.2
  rw [hx] at hb
  have hn := fun z => hb ((r27.tk (m := j) c4 c3 hw (by omega) (fun z => by omega) (by omega)).mpr z)
  have c7 : pm_run F n k1 4 0 (pu_U U (pz_W F n a) f) (pz_E F n a) = R := (pz_if1 ⟨h2, hn⟩).symm.trans c6
  obtain ⟨o1, o2, o3, o4, o5, o6⟩ := c3
  have p1 := o2 (by omega)
  have p2 := o3 (Or.inr rfl)
  have c5 := c5 rfl
  have ej : j = U.1 - 1 := by omega
  subst ej
  have eu := (c4 (U.1 - 1) (by omega)).2.1
  have ei : i = 5 * (3 + (U.1 - 1)) + U.2.2.1 (U.1 - 1) := by omega
  subst ei
  have hne : ∀ s u, s < 3 → u < 5 → (5 * s + u = pu_sl U ↔ s = U.1 - 1 ∧ u = U.2.2.1 (U.1 - 1)) := fun s u z1 z2 => by unfold pu_sl; omega
  refine ⟨T.2.1 (by omega), k1, 0, pu_U U (pz_W F n a) f, rr_at c1 (by omega), c2, ⟨o1, fun _ => p1, fun z => absurd z (by decide), fun z => absurd z (by decide), fun z => absurd z (by decide), fun s z => ?_⟩, fun s z => ?_, fun z => absurd z (by decide), c7⟩
  · have z : s < U.1 := z
    show pu_wd F (U.2.1 s) ∧ pu_up U.2.2.1 (U.1 - 1) (U.2.2.1 (U.1 - 1) + 1) s ≤ 5 ∧ ∀ u, u < pu_up U.2.2.1 (U.1 - 1) (U.2.2.1 (U.1 - 1) + 1) s → pu_wd F (pu_up U.2.2.2.1 (pu_sl U) (pz_W F n a) (5 * s + u))
    have q1 := o6 s z
    by_cases y : s = U.1 - 1
    · subst y
      rw [pu_up1]
      refine ⟨q1.1, by omega, fun u hu => ?_⟩
      by_cases y2 : 5 * (U.1 - 1) + u = pu_sl U
      · rw [y2, pu_up1]; exact hw
      · rw [pu_up2 y2]; exact q1.2.2 u (by unfold pu_sl at y2; omega)
    · rw [pu_up2 y]
      refine ⟨q1.1, q1.2.1, fun u hu => ?_⟩
      rw [pu_up2 (fun y2 => y ((hne s u (by omega) (by omega)).mp y2).1)]
      exact q1.2.2 u hu
  · have z : s < U.1 := z
    show SN (3 + s) = pu_v F (U.2.1 s) ∧ (UC' (3 + s)).toInt = ((pu_up U.2.2.1 (U.1 - 1) (U.2.2.1 (U.1 - 1) + 1) s : Nat) : Int) ∧ ∀ u, u < pu_up U.2.2.1 (U.1 - 1) (U.2.2.1 (U.1 - 1) + 1) s → UN' (5 * (3 + s) + u) = pu_v F (pu_up U.2.2.2.1 (pu_sl U) (pz_W F n a) (5 * s + u)) ∧ (1 ≤ u → FA (5 * (3 + s) + u) = pu_up U.2.2.2.2 (pu_sl U) f (5 * s + u))
    have q1 := o6 s z
    obtain ⟨h1, h3, h4⟩ := c4 s z
    rw [hU, hN]
    by_cases y : s = U.1 - 1
    · subst y
      rw [pu_up1, show upd UC (3 + (U.1 - 1)) c (3 + (U.1 - 1)) = c from if_pos rfl]
      refine ⟨h1, by omega, fun u hu => ?_⟩
      by_cases y2 : u = U.2.2.1 (U.1 - 1)
      · subst y2
        have e1 : 5 * (U.1 - 1) + U.2.2.1 (U.1 - 1) = pu_sl U := rfl
        rw [e1, pu_up1, pu_up1, ← hx]
        exact ⟨if_pos rfl, fun z3 => c5.elim (fun w => absurd w (by omega)) (fun w => w)⟩
      · have e2 : ¬ 5 * (U.1 - 1) + u = pu_sl U := by unfold pu_sl; omega
        rw [pu_up2 e2, pu_up2 e2, show vp_updL UN (5 * (3 + (U.1 - 1)) + U.2.2.1 (U.1 - 1)) x (5 * (3 + (U.1 - 1)) + u) = UN (5 * (3 + (U.1 - 1)) + u) from if_neg (by omega)]
        exact h4 u (by omega)
    · rw [pu_up2 y, show upd UC (3 + (U.1 - 1)) c (3 + s) = UC (3 + s) from if_neg (by omega)]
      refine ⟨h1, h3, fun u hu => ?_⟩
      have e2 : ¬ 5 * s + u = pu_sl U := fun y2 => y ((hne s u (by omega) (by omega)).mp y2).1
      rw [pu_up2 e2, pu_up2 e2, show vp_updL UN (5 * (3 + (U.1 - 1)) + U.2.2.1 (U.1 - 1)) x (5 * (3 + s) + u) = UN (5 * (3 + s) + u) from if_neg (by omega)]
      exact h4 u hu
theorem rr_fac_bad (C : pm_r F n R a 4 m SN UN UC FA) (T : pz_R F n a k sg fr to f1 f2 x) (hk : k.toInt = 3) {j : Nat} (hj : m = j + 1) (hb : ¬ ((f2.toInt = -1 ∧ (2 ≤ f1.toInt ∧ f1.toInt ≤ 60) ∨ ¬ f2.toInt = -1 ∧ (2 ≤ 10 * f1.toInt + f2.toInt ∧ 10 * f1.toInt + f2.toInt ≤ 60)) ∧ (UC (3 + j)).toInt < 5)) : R.1 = some fr.toInt.toNat := by
  obtain ⟨k0, f, U, c1, c2, c3, c4, c5, c6⟩ := C
  obtain ⟨k1, rfl⟩ := rr_k c1
  have hP := T.1
  have hT := T.2.2
  have ej : j = U.1 - 1 := by omega
  subst ej
  have eu := (c4 (U.1 - 1) (by omega)).2.1
  have c7 : pz_if ((2 ≤ pz_V F n a ∧ pz_V F n a ≤ 60) ∧ U.2.2.1 (U.1 - 1) < 5) (pm_run F n k1 3 (Int32.ofInt (pz_V F n a)) U (pz_E F n a)) (some (pz_P F n a), U) = R := (pz_if1 (by omega)).symm.trans c6
  rw [pz_if0 (by omega)] at c7
  subst c7
  show some _ = some _
  rw [hP]; rfl
theorem rr_fac (C : pm_r F n R a 4 m SN UN UC FA) (T : pz_R F n a k sg fr to f1 f2 x) (hk : k.toInt = 3) {v : Int32} (hv : f2.toInt = -1 ∧ v.toInt = f1.toInt ∨ ¬ f2.toInt = -1 ∧ v.toInt = 10 * f1.toInt + f2.toInt) {j i : Nat} (hj : m = j + 1) (hb : (2 ≤ v.toInt ∧ v.toInt ≤ 60) ∧ (UC (3 + j)).toInt < 5) (hi : (i : Int) = 5 * (3 + (j : Int)) + (UC (3 + j)).toInt) (hF : FA' = upd FA i v) : to.toInt = ((pz_E F n a : Nat) : Int) ∧ pm_r F n R (pz_E F n a) 3 m SN UN UC FA' := by
  obtain ⟨k0, f, U, c1, c2, c3, c4, c5, c6⟩ := C
  obtain ⟨k1, rfl⟩ := rr_k c1
  have hT := T.2.2
  have ej : j = U.1 - 1 := by omega
  subst ej
  have eu := (c4 (U.1 - 1) (by omega)).2.1
  have ei : i = 5 * (3 + (U.1 - 1)) + U.2.2.1 (U.1 - 1) := by omega
  subst ei
  have hV : pz_V F n a = v.toInt := by omega
  have c7 : pz_if ((2 ≤ pz_V F n a ∧ pz_V F n a ≤ 60) ∧ U.2.2.1 (U.1 - 1) < 5) (pm_run F n k1 3 (Int32.ofInt (pz_V F n a)) U (pz_E F n a)) (some (pz_P F n a), U) = R := (pz_if1 (by omega)).symm.trans c6
  rw [pz_if1 (by omega)] at c7
  obtain ⟨o1, o2, o3, o4, o5, o6⟩ := c3
  have p1 := o2 (by omega)
  refine ⟨T.2.1 (by omega), k1, Int32.ofInt (pz_V F n a), U, rr_at c1 (by omega), c2, ⟨o1, fun _ => p1, fun _ => by omega, fun z => absurd z (by decide), fun z => absurd z (by decide), o6⟩, fun s z => ?_, fun _ => Or.inr ?_, c7⟩
  · obtain ⟨h1, h3, h4⟩ := c4 s z
    refine ⟨h1, h3, fun u hu => ⟨(h4 u hu).1, fun z3 => ?_⟩⟩
    have q1 := (o6 s z).2.1
    rw [hF, show upd FA (5 * (3 + (U.1 - 1)) + U.2.2.1 (U.1 - 1)) v (5 * (3 + s) + u) = FA (5 * (3 + s) + u) from if_neg (fun y => by
      by_cases y2 : s = U.1 - 1
      · subst y2; omega
      · omega)]
    exact (h4 u hu).2 z3
  · rw [hF, hV, Int32.ofInt_toInt]
    exact if_pos rfl
theorem rr_semi_bad (C : pm_r F n R a 4 m SN UN UC FA) (T : pz_R F n a k sg fr to f1 f2 x) (hk : ¬ k.toInt = 3) (hb : ¬ (k.toInt = 4 ∧ sg.toInt = 59)) : R.1 = some fr.toInt.toNat := by
  obtain ⟨k0, f, U, c1, c2, c3, c4, c5, c6⟩ := C
  obtain ⟨k1, rfl⟩ := rr_k c1
  have hP := T.1
  have hT := T.2.2
  have c7 : pz_if (pz_K F n a = 5) (pm_run F n k1 0 0 U (pz_E F n a)) (some (pz_P F n a), U) = R := (pz_if0 (by omega)).symm.trans c6
  rw [pz_if0 (by omega)] at c7
  subst c7
  show some _ = some _
  rw [hP]; rfl
theorem rr_semi (C : pm_r F n R a 4 m SN UN UC FA) (T : pz_R F n a k sg fr to f1 f2 x) (hb : k.toInt = 4 ∧ sg.toInt = 59) : to.toInt = ((pz_E F n a : Nat) : Int) ∧ pm_r F n R (pz_E F n a) 0 m SN UN UC FA := by
  obtain ⟨k0, f, U, c1, c2, c3, c4, c5, c6⟩ := C
  obtain ⟨k1, rfl⟩ := rr_k c1
  have hT := T.2.2
  have c7 : pz_if (pz_K F n a = 5) (pm_run F n k1 0 0 U (pz_E F n a)) (some (pz_P F n a), U) = R := (pz_if0 (by omega)).symm.trans c6
  rw [pz_if1 (by omega)] at c7
  obtain ⟨o1, o2, o3, o4, o5, o6⟩ := c3
  exact ⟨T.2.1 (by omega), k1, 0, U, rr_at c1 (by omega), c2, ⟨o1, fun z => absurd z (by decide), fun z => absurd z (by decide), fun z => absurd z (by decide), fun z => absurd z (by decide), o6⟩, c4, fun z => absurd z (by decide), c7⟩
end RR
/-- the reference's reader between two TOKENS -/
def rs_P (F : Nat → Int32) (n : Nat) (R : Option Nat × PU) (ph m : Nat) (k sg fr to f1 f2 : Int32) (x : Int64) (SN UN : Nat → Int64) (UC FA : Nat → Int32) : Prop := ∃ A, pz_R F n A k sg fr to f1 f2 x ∧ pm_r F n R A ph m SN UN UC FA
/-- rows 0 to 2 of the reference's arrays are as they were -/
def rs_lo (UN UN' : Nat → Int64) (UC UC' FA FA' : Nat → Int32) : Prop := (∀ j, j < 15 → UN' j = UN j) ∧ (∀ j, j < 3 → UC' j = UC j) ∧ ∀ j, j < 15 → FA' j = FA j
section LO
variable {F : Nat → Int32} {U : PU} {s v i n : Nat} {UN UN0 UN1 UN2 SN : Nat → Int64} {UC UC0 UC1 UC2 FA FA0 FA1 FA2 : Nat → Int32} {c y : Int32} {x : Int64}
theorem rs_lo.rf : rs_lo UN UN UC UC FA FA := ⟨fun _ _ => rfl, fun _ _ => rfl, fun _ _ => rfl⟩
theorem rs_lo.tr (h1 : rs_lo UN UN1 UC UC1 FA FA1) (h2 : rs_lo UN1 UN2 UC1 UC2 FA1 FA2) : rs_lo UN UN2 UC UC2 FA FA2 := ⟨fun j hj => (h2.1 j hj).trans (h1.1 j hj), fun j hj => (h2.2.1 j hj).trans (h1.2.1 j hj), fun j hj => (h2.2.2 j hj).trans (h1.2.2 j hj)⟩
/-- rows 0 to 2, as r27 has rows 3 to 5 -/
def r27z (F : Nat → Int32) (U : PU) (UN : Nat → Int64) (UC FA : Nat → Int32) : Prop := ∀ s, s < U.1 → (UC s).toInt = (U.2.2.1 s : Int) ∧ ∀ u, u < U.2.2.1 s → UN (5 * s + u) = pu_v F (U.2.2.2.1 (5 * s + u)) ∧ (1 ≤ u → FA (5 * s + u) = U.2.2.2.2 (5 * s + u))
/-- the first s rows are copied -/
def cp_I (s : Nat) (UN0 : Nat → Int64) (UC0 FA0 : Nat → Int32) (UN : Nat → Int64) (UC FA : Nat → Int32) : Prop := (∀ j, 3 ≤ j → UC j = UC0 j) ∧ (∀ j, 15 ≤ j → UN j = UN0 j ∧ FA j = FA0 j) ∧ ∀ t, t < s → UC t = UC0 (3 + t) ∧ ∀ u, u < 5 → UN (5 * t + u) = UN0 (5 * (3 + t) + u) ∧ FA (5 * t + u) = FA0 (5 * (3 + t) + u)
def cp_J (s v : Nat) (UN0 : Nat → Int64) (UC0 FA0 : Nat → Int32) (UN : Nat → Int64) (UC FA : Nat → Int32) : Prop := cp_I s UN0 UC0 FA0 UN UC FA ∧ UC s = UC0 (3 + s) ∧ ∀ u, u < v → UN (5 * s + u) = UN0 (5 * (3 + s) + u) ∧ FA (5 * s + u) = FA0 (5 * (3 + s) + u)
theorem cp_0 : cp_I 0 UN UC FA UN UC FA := ⟨fun _ _ => rfl, fun _ _ => ⟨rfl, rfl⟩, fun t ht => absurd ht (Nat.not_lt_zero t)⟩
theorem cp_a (h : cp_I s UN0 UC0 FA0 UN UC FA) (hs : s < 3) (hi : i = s) (hc : c = UC (3 + s)) : cp_J s 0 UN0 UC0 FA0 UN (upd UC i c) FA := by
  subst hi
  obtain ⟨h1, h2, h3⟩ := h
  refine ⟨⟨fun j hj => ?_, h2, fun t ht => ?_⟩, ?_, fun u hu => absurd hu (Nat.not_lt_zero u)⟩
  · rw [show upd UC i c j = UC j from if_neg (by omega)]; exact h1 j hj
  · rw [show upd UC i c t = UC t from if_neg (by omega)]; exact h3 t ht
  · rw [show upd UC i c i = c from if_pos rfl, hc]; exact h1 _ (by omega)
theorem cp_b (h : cp_J s v UN0 UC0 FA0 UN UC FA) (hs : s < 3) (hv : v < 5) {k : Nat} (hi : i = 5 * s + v) (hk : k = 5 * s + v) (hx : x = UN (5 * (3 + s) + v)) (hy : y = FA (5 * (3 + s) + v)) : cp_J s (v + 1) UN0 UC0 FA0 (vp_updL UN i x) UC (upd FA k y) := by
  subst hi hk
  obtain ⟨⟨h1, h2, h3⟩, h4, h5⟩ := h
  refine ⟨⟨h1, fun j hj => ?_, fun t ht => ⟨(h3 t ht).1, fun u hu => ?_⟩⟩, h4, fun u hu => ?_⟩
  · rw [show vp_updL UN (5 * s + v) x j = UN j from if_neg (by omega), show upd FA (5 * s + v) y j = FA j from if_neg (by omega)]; exact h2 j hj
  · rw [show vp_updL UN (5 * s + v) x (5 * t + u) = UN (5 * t + u) from if_neg (by omega), show upd FA (5 * s + v) y (5 * t + u) = FA (5 * t + u) from if_neg (by omega)]; exact (h3 t ht).2 u hu
  · by_cases z : u = v
    · subst z
      rw [show vp_updL UN (5 * s + u) x (5 * s + u) = x from if_pos rfl, show upd FA (5 * s + u) y (5 * s + u) = y from if_pos rfl, hx, hy]
      exact h2 _ (by omega)
    · rw [show vp_updL UN (5 * s + v) x (5 * s + u) = UN (5 * s + u) from if_neg (by omega), show upd FA (5 * s + v) y (5 * s + u) = FA (5 * s + u) from if_neg (by omega)]; exact h5 u (by omega)
theorem cp_c (h : cp_J s v UN0 UC0 FA0 UN UC FA) (hv : 5 ≤ v) : cp_I (s + 1) UN0 UC0 FA0 UN UC FA := by
  obtain ⟨⟨h1, h2, h3⟩, h4, h5⟩ := h
  refine ⟨h1, h2, fun t ht => ?_⟩
  by_cases z : t = s
  · subst z
    exact ⟨h4, fun u hu => h5 u (by omega)⟩
  · exact h3 t (by omega)
theorem cp_e (h : cp_I n UN0 UC0 FA0 UN UC FA) (hr : r27 F U SN UN0 UC0 FA0) (hn : U.1 = n) (ok : pm_ok F 0 U) : r27z F U UN UC FA := by
  intro s hs
  obtain ⟨g1, g2, g3⟩ := hr s hs
  obtain ⟨h4, h5⟩ := h.2.2 s (by omega)
  refine ⟨by rw [h4]; exact g2, fun u hu => ?_⟩
  have o2 := (ok.2.2.2.2.2 s hs).2.1
  obtain ⟨h6, h7⟩ := h5 u (by omega)
  rw [h6, h7]
  exact g3 u hu
end LO
