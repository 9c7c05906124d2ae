/-! Reading SYSTEMS, as a machine: what is known of them (how many; each one's word; how many UNITS it has; a UNIT's word and factor, by 5 * system + unit), and what it does with one TOKEN. A word is told by its place and length. -/
abbrev PU := Nat × (Nat → Nat × Nat) × (Nat → Nat) × (Nat → Nat × Nat) × (Nat → Int32)
def pu_up {α : Type} (f : Nat → α) (i : Nat) (x : α) : Nat → α := fun j => if j = i then x else f j
theorem pu_up1 {α : Type} {f : Nat → α} {i : Nat} {x : α} : pu_up f i x i = x := if_pos rfl
theorem pu_up2 {α : Type} {f : Nat → α} {i j : Nat} {x : α} (h : ¬ j = i) : pu_up f i x j = f j := if_neg h
def pu_w (F : Nat → Int32) (s : Nat × Nat) : Int64 := pz_n8 F s.1 s.2
def pu_v (F : Nat → Int32) (s : Nat × Nat) : Int64 := pz_n27 F s.1 s.2
/-- a word of 1 to 8 letters -/
def pu_wd (F : Nat → Int32) (s : Nat × Nat) : Prop := 1 ≤ s.2 ∧ s.2 ≤ 8 ∧ ∀ i, i < s.2 → pz_l (F (s.1 + i))
def pu_tk (F : Nat → Int32) (U : PU) (x : Int64) : Prop := ∃ s, s < U.1 ∧ (pu_w F (U.2.1 s) = x ∨ ∃ u, u < U.2.2.1 s ∧ pu_w F (U.2.2.2.1 (5 * s + u)) = x)
def pu_S (U : PU) (b : Nat × Nat) : PU := (U.1 + 1, pu_up U.2.1 U.1 b, pu_up U.2.2.1 U.1 0, U.2.2.2.1, U.2.2.2.2)
def pu_sl (U : PU) : Nat := 5 * (U.1 - 1) + U.2.2.1 (U.1 - 1)
def pu_U (U : PU) (b : Nat × Nat) (f : Int32) : PU := (U.1, U.2.1, pu_up U.2.2.1 (U.1 - 1) (U.2.2.1 (U.1 - 1) + 1), pu_up U.2.2.2.1 (pu_sl U) b, pu_up U.2.2.2.2 (pu_sl U) f)
/-- the word of the TOKEN from a on -/
noncomputable def pz_W (F : Nat → Int32) (n a : Nat) : Nat × Nat := (pz_P F n a, pz_E F n a - pz_P F n a)
noncomputable def pz_V (F : Nat → Int32) (n a : Nat) : Int := pz_v F (pz_P F n a) (pz_E F n a)
noncomputable def pm_st (F : Nat → Int32) (n : Nat) (r : Nat → Int32 → PU → Nat → Option Nat × PU) : Nat → Int32 → PU → Nat → Option Nat × PU
  | 0, _, U, a => pz_if (pz_K F n a = 0) (pz_if (0 < U.1 ∧ n ≤ 400) (none, U) (some (pz_P F n a), U)) (pz_if (pz_K F n a = 6 ∧ U.1 < 3) (r 1 0 U (pz_E F n a)) (some (pz_P F n a), U))
  | 1, _, U, a => pz_if (pz_K F n a = 2 ∧ ¬ pu_tk F U (pu_w F (pz_W F n a))) (r 2 0 (pu_S U (pz_W F n a)) (pz_E F n a)) (some (pz_P F n a), U)
  | 2, _, U, a => pz_if (pz_K F n a = 4) (r 3 1 U (pz_E F n a)) (some (pz_P F n a), U)
  | 3, fc, U, a => pz_if (pz_K F n a = 2 ∧ ¬ pu_tk F U (pu_w F (pz_W F n a))) (r 4 0 (pu_U U (pz_W F n a) fc) (pz_E F n a)) (some (pz_P F n a), U)
  | _, _, U, a => pz_if (pz_K F n a = 3) (pz_if ((2 ≤ pz_V F n a ∧ pz_V F n a ≤ 60) ∧ U.2.2.1 (U.1 - 1) < 5) (r 3 (Int32.ofInt (pz_V F n a)) U (pz_E F n a)) (some (pz_P F n a), U)) (pz_if (pz_K F n a = 5) (r 0 0 U (pz_E F n a)) (some (pz_P F n a), U))
noncomputable def pm_run (F : Nat → Int32) (n : Nat) : Nat → Nat → Int32 → PU → Nat → Option Nat × PU
  | 0 => fun _ _ U _ => (some 0, U)
  | k + 1 => pm_st F n (pm_run F n k)
def pu_0 : PU := (0, fun _ => (0, 0), fun _ => 0, fun _ => (0, 0), fun _ => 0)
/-- what holds of a state of the machine -/
def pm_ok (F : Nat → Int32) (ph : Nat) (U : PU) : Prop := U.1 ≤ 3 ∧ (2 ≤ ph → 1 ≤ U.1) ∧ (ph = 2 ∨ ph = 3 → U.2.2.1 (U.1 - 1) < 5) ∧ (ph = 2 → U.2.2.1 (U.1 - 1) = 0) ∧ (ph = 1 → U.1 < 3) ∧ ∀ s, s < U.1 → pu_wd F (U.2.1 s) ∧ U.2.2.1 s ≤ 5 ∧ ∀ u, u < U.2.2.1 s → pu_wd F (U.2.2.2.1 (5 * s + u))
section PM
variable {F : Nat → Int32} {n a k ph : Nat} {fc : Int32} {U : PU} {R : Option Nat × PU}
/-- words and what kinds say of them -/
theorem pz_al_i {b : Nat} : ∀ {j : Nat}, pz_al F b j → ∀ i, i < j → pz_l (F (b + i))
  | 0, _, i, hi => absurd hi (Nat.not_lt_zero i)
  | j + 1, h, i, hi => by
    by_cases z : i = j
    · rw [z]; exact h.2
    · exact pz_al_i h.1 i (by omega)
theorem pz_K_le : pz_K F n a ≤ 8 := by
  by_cases h : min n 400 ≤ pz_B F n a
  · rw [(pz_K0 h).1]; omega
  · by_cases hl : pz_l (F (pz_B F n a))
    · rw [(pz_KN h hl).1]; have y := pz_kN_ne (F := F) (n := n) (b := pz_B F n a); omega
    · by_cases hd : pz_d (F (pz_B F n a))
      · rw [(pz_KU h hd).1]; have y := pz_kU_ne (F := F) (n := n) (b := pz_B F n a); omega
      · rw [(pz_KG h hl hd).1]; have y := pz_kY_ne (c := F (pz_B F n a)); omega
theorem pz_K_wd (hk : pz_K F n a = 2 ∨ 6 ≤ pz_K F n a) : pu_wd F (pz_W F n a) ∧ pz_K F n a = pz_kn (pu_w F (pz_W F n a)) := by
  by_cases h : min n 400 ≤ pz_B F n a
  · rw [(pz_K0 h).1] at hk; omega
  · by_cases hl : pz_l (F (pz_B F n a))
    · obtain ⟨k1, k2, k3⟩ := pz_KN h hl
      have hg : pz_al F (pz_B F n a) (pz_end F n (pz_B F n a) - pz_B F n a) ∧ pz_end F n (pz_B F n a) - pz_B F n a ≤ 8 := Classical.byContradiction (fun z => by
        have y : pz_kN F n (pz_B F n a) = 1 := pz_if0 z
        omega)
      have hb := pz_end_1 (F := F) (n := n) (b := pz_B F n a) (by omega) (Or.inl hl)
      have y : pz_kN F n (pz_B F n a) = pz_kn (pz_n8 F (pz_B F n a) (pz_end F n (pz_B F n a) - pz_B F n a)) := pz_if1 hg
      unfold pz_W pu_w
      rw [k2, k3, k1, y]
      exact ⟨⟨show 1 ≤ pz_end F n (pz_B F n a) - pz_B F n a by omega, hg.2, pz_al_i hg.1⟩, rfl⟩
    · by_cases hd : pz_d (F (pz_B F n a))
      · rw [(pz_KU h hd).1] at hk; have y := pz_kU_ne (F := F) (n := n) (b := pz_B F n a); omega
      · rw [(pz_KG h hl hd).1] at hk; have y := pz_kY_ne (c := F (pz_B F n a)); omega
/-- a TOKEN that is none of the END begins below 400 and goes on -/
theorem pz_E_lt (hk : ¬ pz_K F n a = 0) : a < 400 ∧ a + 1 ≤ pz_E F n a ∧ pz_E F n a ≤ n := by
  by_cases h : min n 400 ≤ pz_B F n a
  · exact absurd (pz_K0 h).1 hk
  · have hb := pz_B_b (F := F) (n := n) (a := a)
    by_cases hl : pz_l (F (pz_B F n a))
    · have z := pz_end_1 (F := F) (n := n) (b := pz_B F n a) (by omega) (Or.inl hl)
      rw [(pz_KN h hl).2.2]; omega
    · by_cases hd : pz_d (F (pz_B F n a))
      · have z := pz_end_1 (F := F) (n := n) (b := pz_B F n a) (by omega) (Or.inr hd)
        rw [(pz_KU h hd).2.2]; omega
      · rw [(pz_KG h hl hd).2.2]; omega
end PM
/-! The class's reader in such a state. -/
/-- a UNIT's worth in its SYSTEM's smallest -/
def pu_wo (f : Nat → Int32) (s : Nat) : Nat → Int32
  | 0 => 1
  | u + 1 => f (5 * s + (u + 1)) * pu_wo f s u
theorem pu_wo_eq {f g : Nat → Int32} {s : Nat} : ∀ {u : Nat}, (∀ j, j ≤ u → g (5 * s + j) = f (5 * s + j)) → pu_wo g s u = pu_wo f s u
  | 0, _ => rfl
  | u + 1, h => by
    show g (5 * s + (u + 1)) * pu_wo g s u = f (5 * s + (u + 1)) * pu_wo f s u
    rw [h (u + 1) (Nat.le_refl _), pu_wo_eq (fun j hj => h j (by omega))]
def r8 (F : Nat → Int32) (U : PU) (sc : Int32) (SN : Nat → Int64) (UC : Nat → Int32) (NM : Nat → Int64) (FA WO : Nat → Int32) : Prop := sc.toInt = (U.1 : Int) ∧ (∀ s, s < 3 → SN s = if s < U.1 then pu_w F (U.2.1 s) else 0) ∧ (∀ s, s < 3 → (UC s).toInt = if s < U.1 then (U.2.2.1 s : Int) else 0) ∧ (∀ s u, s < 3 → u < 5 → NM (5 * s + u) = if s < U.1 ∧ u < U.2.2.1 s then pu_w F (U.2.2.2.1 (5 * s + u)) else 0) ∧ (∀ s u, s < U.1 → u < U.2.2.1 s → FA (5 * s + u) = U.2.2.2.2 (5 * s + u)) ∧ (∀ s u, s < U.1 → u < U.2.2.1 s → WO (5 * s + u) = pu_wo U.2.2.2.2 s u)
def pm_c (F : Nat → Int32) (n k : Nat) (R : Option Nat × PU) (a : Nat) (st fc sc : Int32) (SN : Nat → Int64) (UC : Nat → Int32) (NM : Nat → Int64) (FA WO : Nat → Int32) : Prop := ∃ (ph : Nat) (f : Int32) (U : PU), st.toInt = (ph : Int) ∧ ph ≤ 4 ∧ (ph = 3 → f = fc) ∧ pm_ok F ph U ∧ r8 F U sc SN UC NM FA WO ∧ pm_run F n k ph f U a = R
/-- taken, as the class's rows tell it -/
def r8_tk (SN NM : Nat → Int64) (x : Int64) : Prop := (∃ s, s < 3 ∧ SN s = x) ∨ ∃ j, j < 15 ∧ NM j = x
theorem pz_n8_ne0 {F : Nat → Int32} {s : Nat × Nat} (h : pu_wd F s) : ¬ pu_w F s = 0 := fun z => by
  have y := (pz_n8_inj (F := F) (G := F) (a := s.1) (b := 0) (k := s.2) (j := 0) h.2.1 (by decide) h.2.2 (fun i hi => absurd hi (Nat.not_lt_zero i))).mp z
  have := h.1
  omega
section PC
variable {F : Nat → Int32} {n a k ph : Nat} {U : PU} {R : Option Nat × PU} {st fc sc st' fc' sc' kd pl e t o : Int32} {x : Int64} {SN SN' NM NM' : Nat → Int64} {UC UC' FA FA' WO WO' : Nat → Int32}
theorem r8.tk (h : r8 F U sc SN UC NM FA WO) (ok : U.1 ≤ 3 ∧ ∀ s, s < U.1 → U.2.2.1 s ≤ 5) (hx : ¬ x = 0) : r8_tk SN NM x ↔ pu_tk F U x := by
  obtain ⟨h1, h2, h3, h4, h5, h6⟩ := h
  constructor
  · rintro (⟨s, z1, z2⟩ | ⟨j, z1, z2⟩)
    · rw [h2 s z1] at z2
      by_cases c : s < U.1
      · rw [if_pos c] at z2; exact ⟨s, c, Or.inl z2⟩
      · rw [if_neg c] at z2; exact absurd z2.symm hx
    · have e := h4 (j / 5) (j % 5) (by omega) (by omega)
      rw [show 5 * (j / 5) + j % 5 = j by omega] at e
      rw [e] at z2
      by_cases c : j / 5 < U.1 ∧ j % 5 < U.2.2.1 (j / 5)
      · rw [if_pos c] at z2; exact ⟨j / 5, c.1, Or.inr ⟨j % 5, c.2, by rw [show 5 * (j / 5) + j % 5 = j by omega]; exact z2⟩⟩
      · rw [if_neg c] at z2; exact absurd z2.symm hx
  · rintro ⟨s, z1, z2 | ⟨u, z2, z3⟩⟩
    · refine Or.inl ⟨s, by omega, ?_⟩
      rw [h2 s (by omega), if_pos z1]; exact z2
    · have z4 := ok.2 s z1
      refine Or.inr ⟨5 * s + u, by omega, ?_⟩
      rw [h4 s u (by omega) (by omega), if_pos ⟨z1, z2⟩]; exact z3
theorem pm_c0 (hs : st.toInt = 0) (hc : sc.toInt = 0) (h1 : ∀ j, j < 3 → SN j = 0) (h2 : ∀ j, j < 3 → UC j = 0) (h3 : ∀ j, j < 15 → NM j = 0) : pm_c F n k (pm_run F n k 0 0 pu_0 a) a st fc sc SN UC NM FA WO := by
  refine ⟨0, 0, pu_0, hs, by omega, fun z => absurd z (by decide), ⟨Nat.zero_le _, fun z => absurd z (by decide), fun z => absurd z (by decide), fun z => absurd z (by decide), fun z => absurd z (by decide), fun s z => absurd z (Nat.not_lt_zero s)⟩, ⟨hc, fun s z => ?_, fun s z => ?_, fun s u z1 z2 => ?_, fun s u z => absurd z (Nat.not_lt_zero s), fun s u z => absurd z (Nat.not_lt_zero s)⟩, rfl⟩
  · exact (h1 s z).trans (if_neg (Nat.not_lt_zero s)).symm
  · rw [h2 s z]; exact (if_neg (Nat.not_lt_zero s)).symm
  · exact (h3 _ (by omega)).trans (if_neg (fun y => Nat.not_lt_zero s y.1)).symm
/-- AT_SYSTEM -/
theorem pc_end (C : pm_c F n (k + 1) R a st fc sc SN UC NM FA WO) (hs : st.toInt = 0) (T : pz_T F n a kd pl e x t o) (hk : kd.toInt = 0) : (0 < sc.toInt ∧ n ≤ 400 → R.1 = none ∧ ((R.2.1 : Nat) : Int) = sc.toInt ∧ r8 F R.2 sc SN UC NM FA WO ∧ pm_ok F 0 R.2) ∧ (¬ (0 < sc.toInt ∧ n ≤ 400) → R.1 = some pl.toInt.toNat) := by
  obtain ⟨ph, f, U, c1, c2, c3, c4, c5, c6⟩ := C
  obtain ⟨T1, T2, -⟩ := T
  have e : ph = 0 := by omega
  subst e
  have hK : pz_K F n a = 0 := by omega
  have es := c5.1
  have c7 : pz_if (0 < U.1 ∧ n ≤ 400) (none, U) (some (pz_P F n a), U) = R := (pz_if1 hK).symm.trans c6
  constructor
  · intro z
    rw [pz_if1 (by omega)] at c7
    subst c7
    exact ⟨rfl, es.symm, c5, c4⟩
  · intro z
    rw [pz_if0 (by omega)] at c7
    subst c7
    show some _ = some _
    rw [T2]; rfl
theorem pc_begin_bad (C : pm_c F n (k + 1) R a st fc sc SN UC NM FA WO) (hs : st.toInt = 0) (T : pz_T F n a kd pl e x t o) (hk : ¬ kd.toInt = 0) (hb : ¬ (kd.toInt = 6 ∧ sc.toInt < 3)) : R.1 = some pl.toInt.toNat := by
  obtain ⟨ph, f, U, c1, c2, c3, c4, c5, c6⟩ := C
  obtain ⟨T1, T2, -⟩ := T
  have e : ph = 0 := by omega
  subst e
  have es := c5.1
  have c7 : pz_if (pz_K F n a = 6 ∧ U.1 < 3) (pm_run F n k 1 0 U (pz_E F n a)) (some (pz_P F n a), U) = R := (pz_if0 (by omega)).symm.trans c6
  rw [pz_if0 (by omega)] at c7
  subst c7
  show some _ = some _
  rw [T2]; rfl
theorem pc_begin (C : pm_c F n (k + 1) R a st fc sc SN UC NM FA WO) (hs : st.toInt = 0) (T : pz_T F n a kd pl e x t o) (hb : kd.toInt = 6 ∧ sc.toInt < 3) (hs' : st'.toInt = 1) : pm_c F n k R (pz_E F n a) st' fc' sc SN UC NM FA WO := by
  obtain ⟨ph, f, U, c1, c2, c3, c4, c5, c6⟩ := C
  obtain ⟨T1, T2, -⟩ := T
  have e : ph = 0 := by omega
  subst e
  have es := c5.1
  have c7 : pz_if (pz_K F n a = 6 ∧ U.1 < 3) (pm_run F n k 1 0 U (pz_E F n a)) (some (pz_P F n a), U) = R := (pz_if0 (by omega)).symm.trans c6
  rw [pz_if1 (by omega)] at c7
  exact ⟨1, 0, U, hs', by omega, fun z => absurd z (by decide), ⟨c4.1, fun z => absurd z (by decide), fun z => absurd z (by decide), fun z => absurd z (by decide), fun _ => by omega, c4.2.2.2.2.2⟩, c5, c7⟩
/-- a NAME that is new, or not -/
theorem pc_new (C : pm_ok F ph U) (c5 : r8 F U sc SN UC NM FA WO) (T : pz_T F n a kd pl e x t o) : (kd.toInt = 2 ∧ ¬ r8_tk SN NM x) ↔ (pz_K F n a = 2 ∧ ¬ pu_tk F U (pu_w F (pz_W F n a))) := by
  obtain ⟨T1, T2, T3, T4, T5⟩ := T
  have hw : pz_K F n a = 2 → x = pu_w F (pz_W F n a) := T4
  have hok : U.1 ≤ 3 ∧ ∀ s, s < U.1 → U.2.2.1 s ≤ 5 := ⟨C.1, fun s z => (C.2.2.2.2.2 s z).2.1⟩
  constructor
  · rintro ⟨z1, z2⟩
    have hK : pz_K F n a = 2 := by omega
    have hx := hw hK
    refine ⟨hK, fun y => z2 ((c5.tk hok ?_).mpr (by rw [hx]; exact y))⟩
    rw [hx]
    exact pz_n8_ne0 (pz_K_wd (Or.inl hK)).1
  · rintro ⟨hK, z2⟩
    have hx := hw hK
    have h0 : ¬ x = 0 := by rw [hx]; exact pz_n8_ne0 (pz_K_wd (Or.inl hK)).1
    refine ⟨by omega, fun y => z2 ?_⟩
    rw [← hx]
    exact (c5.tk hok h0).mp y
theorem pc_name_bad (C : pm_c F n (k + 1) R a st fc sc SN UC NM FA WO) (hs : st.toInt = 1 ∨ st.toInt = 3) (T : pz_T F n a kd pl e x t o) (hb : ¬ (kd.toInt = 2 ∧ ¬ r8_tk SN NM x)) : R.1 = some pl.toInt.toNat := by
  obtain ⟨ph, f, U, c1, c2, c3, c4, c5, c6⟩ := C
  have hb2 := fun z => hb ((pc_new c4 c5 T).mpr z)
  obtain ⟨T1, T2, -⟩ := T
  rcases hs with hs | hs
  · have e : ph = 1 := by omega
    subst e
    have c7 : (some (pz_P F n a), U) = R := (pz_if0 hb2).symm.trans c6
    subst c7
    show some _ = some _
    rw [T2]; rfl
  · have e : ph = 3 := by omega
    subst e
    have c7 : (some (pz_P F n a), U) = R := (pz_if0 hb2).symm.trans c6
    subst c7
    show some _ = some _
    rw [T2]; rfl
theorem pc_name (C : pm_c F n (k + 1) R a st fc sc SN UC NM FA WO) (hs : st.toInt = 1) (T : pz_T F n a kd pl e x t o) (hb : kd.toInt = 2 ∧ ¬ r8_tk SN NM x) (hs' : st'.toInt = 2) (hc : sc'.toInt = sc.toInt + 1) (hS : SN' = vp_updL SN sc.toNatClampNeg x) : pm_c F n k R (pz_E F n a) st' fc' sc' SN' UC NM FA WO := by
  obtain ⟨ph, f, U, c1, c2, c3, c4, c5, c6⟩ := C
  have hb2 := (pc_new c4 c5 T).mp hb
  obtain ⟨T1, T2, T3, T4, T5⟩ := T
  have hx : x = pu_w F (pz_W F n a) := T4 hb2.1
  have e : ph = 1 := by omega
  subst e
  have c7 : pm_run F n k 2 0 (pu_S U (pz_W F n a)) (pz_E F n a) = R := (pz_if1 hb2).symm.trans c6
  obtain ⟨o1, o2, o3, o4, o5, o6⟩ := c4
  obtain ⟨h1, h2, h3, h4, h5, h6⟩ := c5
  have o7 := o5 rfl
  have hw := (pz_K_wd (Or.inl hb2.1)).1
  have es : sc.toNatClampNeg = U.1 := by rw [zx_nc]; omega
  rw [es] at hS
  refine ⟨2, 0, pu_S U (pz_W F n a), hs', by omega, fun z => absurd z (by decide), ⟨by show U.1 + 1 ≤ 3; omega, fun _ => by show 1 ≤ U.1 + 1; omega, fun _ => ?_, fun _ => ?_, fun z => absurd z (by decide), fun s z => ?_⟩, ⟨by show sc'.toInt = ((U.1 + 1 : Nat) : Int); omega, fun s z => ?_, fun s z => ?_, fun s u z1 z2 => ?_, fun s u z1 z2 => ?_, fun s u z1 z2 => ?_⟩, c7⟩
  · show pu_up U.2.2.1 U.1 0 (U.1 + 1 - 1) < 5
    rw [Nat.add_sub_cancel, pu_up1]; omega
  · show pu_up U.2.2.1 U.1 0 (U.1 + 1 - 1) = 0
    rw [Nat.add_sub_cancel, pu_up1]
  · have z : s < U.1 + 1 := z
    show pu_wd F (pu_up U.2.1 U.1 (pz_W F n a) s) ∧ pu_up U.2.2.1 U.1 0 s ≤ 5 ∧ ∀ u, u < pu_up U.2.2.1 U.1 0 s → pu_wd F (U.2.2.2.1 (5 * s + u))
    by_cases y : s = U.1
    · subst y
      rw [pu_up1, pu_up1]
      exact ⟨hw, by omega, fun u hu => absurd hu (Nat.not_lt_zero u)⟩
    · rw [pu_up2 y, pu_up2 y]
      exact o6 s (by omega)
  · show SN' s = if s < U.1 + 1 then pu_w F (pu_up U.2.1 U.1 (pz_W F n a) s) else 0
    rw [hS]
    by_cases y : s = U.1
    · subst y
      rw [pu_up1, if_pos (Nat.lt_succ_self _), ← hx]
      exact if_pos rfl
    · rw [pu_up2 y, show vp_updL SN U.1 x s = SN s from if_neg y, h2 s z]
      by_cases y2 : s < U.1
      · rw [if_pos y2, if_pos (by omega)]
      · rw [if_neg y2, if_neg (by omega)]
  · show (UC s).toInt = if s < U.1 + 1 then ((pu_up U.2.2.1 U.1 0 s : Nat) : Int) else 0
    rw [h3 s z]
    by_cases y : s = U.1
    · subst y
      rw [pu_up1, if_pos (Nat.lt_succ_self _), if_neg (Nat.lt_irrefl _)]; rfl
    · rw [pu_up2 y]
      by_cases y2 : s < U.1
      · rw [if_pos y2, if_pos (by omega)]
      · rw [if_neg y2, if_neg (by omega)]
  · show NM (5 * s + u) = if s < U.1 + 1 ∧ u < pu_up U.2.2.1 U.1 0 s then pu_w F (U.2.2.2.1 (5 * s + u)) else 0
    rw [h4 s u z1 z2]
    by_cases y : s = U.1
    · subst y
      rw [pu_up1, if_neg (fun w => Nat.lt_irrefl _ w.1), if_neg (fun w => Nat.not_lt_zero _ w.2)]
    · rw [pu_up2 y]
      by_cases y2 : s < U.1 ∧ u < U.2.2.1 s
      · rw [if_pos y2, if_pos ⟨by omega, y2.2⟩]
      · rw [if_neg y2, if_neg (fun w => y2 ⟨by omega, w.2⟩)]
  · have z1 : s < U.1 + 1 := z1
    have z2 : u < pu_up U.2.2.1 U.1 0 s := z2
    by_cases y : s = U.1
    · subst y
      rw [pu_up1] at z2
      exact absurd z2 (Nat.not_lt_zero u)
    · rw [pu_up2 y] at z2
      exact h5 s u (by omega) z2
  · have z1 : s < U.1 + 1 := z1
    have z2 : u < pu_up U.2.2.1 U.1 0 s := z2
    by_cases y : s = U.1
    · subst y
      rw [pu_up1] at z2
      exact absurd z2 (Nat.not_lt_zero u)
    · rw [pu_up2 y] at z2
      exact h6 s u (by omega) z2
theorem pc_colon_bad (C : pm_c F n (k + 1) R a st fc sc SN UC NM FA WO) (hs : st.toInt = 2) (T : pz_T F n a kd pl e x t o) (hb : ¬ kd.toInt = 4) : R.1 = some pl.toInt.toNat := by
  obtain ⟨ph, f, U, c1, c2, c3, c4, c5, c6⟩ := C
  obtain ⟨T1, T2, -⟩ := T
  have e : ph = 2 := by omega
  subst e
  have c7 : (some (pz_P F n a), U) = R := (pz_if0 (by omega)).symm.trans c6
  subst c7
  show some _ = some _
  rw [T2]; rfl
theorem pc_colon (C : pm_c F n (k + 1) R a st fc sc SN UC NM FA WO) (hs : st.toInt = 2) (T : pz_T F n a kd pl e x t o) (hb : kd.toInt = 4) (hs' : st'.toInt = 3) (hf : fc' = 1) : pm_c F n k R (pz_E F n a) st' fc' sc SN UC NM FA WO := by
  obtain ⟨ph, f, U, c1, c2, c3, c4, c5, c6⟩ := C
  obtain ⟨T1, T2, -⟩ := T
  have e : ph = 2 := by omega
  subst e
  have c7 : pm_run F n k 3 1 U (pz_E F n a) = R := (pz_if1 (by omega)).symm.trans c6
  obtain ⟨o1, o2, o3, o4, o5, o6⟩ := c4
  exact ⟨3, 1, U, hs', by omega, fun _ => hf.symm, ⟨o1, fun _ => o2 (by omega), fun _ => o3 (Or.inl rfl), fun z => absurd z (by decide), fun z => absurd z (by decide), o6⟩, c5, c7⟩
/-- BEHIND_UNIT -/
theorem pc_fac_bad (C : pm_c F n (k + 1) R a st fc sc SN UC NM FA WO) (hs : st.toInt = 4) (T : pz_T F n a kd pl e x t o) (hk : kd.toInt = 3) (hb : ¬ ((2 ≤ pz_V F n a ∧ pz_V F n a ≤ 60) ∧ (UC (sc - 1).toNatClampNeg).toInt < 5)) (he : (sc - 1).toInt = sc.toInt - 1) : R.1 = some pl.toInt.toNat := by
  obtain ⟨ph, f, U, c1, c2, c3, c4, c5, c6⟩ := C
  obtain ⟨T1, T2, -⟩ := T
  have e : ph = 4 := by omega
  subst e
  have es := c5.1
  have o2 := c4.2.1 (by omega)
  have o1 := c4.1
  have eu := c5.2.2.1 (U.1 - 1) (by omega)
  rw [if_pos (show U.1 - 1 < U.1 by omega)] at eu
  rw [show (sc - 1).toNatClampNeg = U.1 - 1 by rw [zx_nc]; omega] at hb
  have c7 : pz_if ((2 ≤ pz_V F n a ∧ pz_V F n a ≤ 60) ∧ U.2.2.1 (U.1 - 1) < 5) (pm_run F n k 3 (Int32.ofInt (pz_V F n a)) U (pz_E F n a)) (some (pz_P F n a), U) = R := (pz_if1 (by omega)).symm.trans c6
  rw [pz_if0 (by omega)] at c7
  subst c7
  show some _ = some _
  rw [T2]; rfl
theorem pc_fac (C : pm_c F n (k + 1) R a st fc sc SN UC NM FA WO) (hs : st.toInt = 4) (T : pz_T F n a kd pl e x t o) (hk : kd.toInt = 3) (hb : (2 ≤ pz_V F n a ∧ pz_V F n a ≤ 60) ∧ (UC (sc - 1).toNatClampNeg).toInt < 5) (he : (sc - 1).toInt = sc.toInt - 1) (hs' : st'.toInt = 3) (hf : fc'.toInt = pz_V F n a) : pm_c F n k R (pz_E F n a) st' fc' sc SN UC NM FA WO := by
  obtain ⟨ph, f, U, c1, c2, c3, c4, c5, c6⟩ := C
  obtain ⟨T1, T2, -⟩ := T
  have e : ph = 4 := by omega
  subst e
  have es := c5.1
  have o2 := c4.2.1 (by omega)
  have o1 := c4.1
  have eu := c5.2.2.1 (U.1 - 1) (by omega)
  rw [if_pos (show U.1 - 1 < U.1 by omega)] at eu
  rw [show (sc - 1).toNatClampNeg = U.1 - 1 by rw [zx_nc]; omega] at hb
  have c7 : pz_if ((2 ≤ pz_V F n a ∧ pz_V F n a ≤ 60) ∧ U.2.2.1 (U.1 - 1) < 5) (pm_run F n k 3 (Int32.ofInt (pz_V F n a)) U (pz_E F n a)) (some (pz_P F n a), U) = R := (pz_if1 (by omega)).symm.trans c6
  rw [pz_if1 (by omega)] at c7
  refine ⟨3, Int32.ofInt (pz_V F n a), U, hs', by omega, fun _ => ?_, ⟨o1, fun _ => o2, fun _ => by omega, fun z => absurd z (by decide), fun z => absurd z (by decide), c4.2.2.2.2.2⟩, c5, c7⟩
  rw [← hf]
  exact Int32.ofInt_toInt fc'
theorem pc_semi_bad (C : pm_c F n (k + 1) R a st fc sc SN UC NM FA WO) (hs : st.toInt = 4) (T : pz_T F n a kd pl e x t o) (hk : ¬ kd.toInt = 3) (hb : ¬ kd.toInt = 5) : R.1 = some pl.toInt.toNat := by
  obtain ⟨ph, f, U, c1, c2, c3, c4, c5, c6⟩ := C
  obtain ⟨T1, T2, -⟩ := T
  have e : ph = 4 := by omega
  subst e
  have c7 : pz_if (pz_K F n a = 5) (pm_run F n k 0 0 U (pz_E F n a)) (some (pz_P F n a), U) = R := (pz_if0 (by omega)).symm.trans c6
  rw [pz_if0 (by omega)] at c7
  subst c7
  show some _ = some _
  rw [T2]; rfl
theorem pc_semi (C : pm_c F n (k + 1) R a st fc sc SN UC NM FA WO) (hs : st.toInt = 4) (T : pz_T F n a kd pl e x t o) (hb : kd.toInt = 5) (hs' : st'.toInt = 0) : pm_c F n k R (pz_E F n a) st' fc' sc SN UC NM FA WO := by
  obtain ⟨ph, f, U, c1, c2, c3, c4, c5, c6⟩ := C
  obtain ⟨T1, T2, -⟩ := T
  have e : ph = 4 := by omega
  subst e
  have c7 : pz_if (pz_K F n a = 5) (pm_run F n k 0 0 U (pz_E F n a)) (some (pz_P F n a), U) = R := (pz_if0 (by omega)).symm.trans c6
  rw [pz_if1 (by omega)] at c7
  exact ⟨0, 0, U, hs', by omega, fun z => absurd z (by decide), ⟨c4.1, fun z => absurd z (by decide), fun z => absurd z (by decide), fun z => absurd z (by decide), fun z => absurd z (by decide), c4.2.2.2.2.2⟩, c5, c7⟩
/-- AT_UNIT, good -/
theorem pc_unit (C : pm_c F n (k + 1) R a st fc sc SN UC NM FA WO) (hs : st.toInt = 3) (T : pz_T F n a kd pl e x t o) (hb : kd.toInt = 2 ∧ ¬ r8_tk SN NM x) (hs' : st'.toInt = 4) (he : (sc - 1).toInt = sc.toInt - 1) {i : Nat} {c : Int32} (hi : (i : Int) = 5 * (sc.toInt - 1) + (UC (sc - 1).toNatClampNeg).toInt) (hc : c.toInt = (UC (sc - 1).toNatClampNeg).toInt + 1) (hU : UC' = upd UC (sc - 1).toNatClampNeg c) (hN : NM' = vp_updL NM i x) (hF : FA' = upd FA i fc) (hW1 : ∀ j, ¬ j = i → WO' j = WO j) (hW2 : (UC (sc - 1).toNatClampNeg).toInt = 0 ∧ WO' i = 1 ∨ 0 < (UC (sc - 1).toNatClampNeg).toInt ∧ WO' i = fc * WO (i - 1)) : pm_c F n k R (pz_E F n a) st' fc' sc SN UC' NM' FA' WO' := by
  obtain ⟨ph, f, U, c1, c2, c3, c4, c5, c6⟩ := C
  have hb2 := (pc_new c4 c5 T).mp hb
  obtain ⟨T1, T2, T3, T4, T5⟩ := T
  have hx : x = pu_w F (pz_W F n a) := T4 hb2.1
  have e : ph = 3 := by omega
  subst e
  have ef := c3 rfl
  subst ef
  have c7 : pm_run F n k 4 0 (pu_U U (pz_W F n a) f) (pz_E F n a) = R := (pz_if1 hb2).symm.trans c6
  obtain ⟨o1, o2, o3, o4, o5, o6⟩ := c4
  obtain ⟨h1, h2, h3, h4, h5, h6⟩ := c5
  have p1 := o2 (by omega)
  have p2 := o3 (Or.inr rfl)
  have hw := (pz_K_wd (Or.inl hb2.1)).1
  have eu := h3 (U.1 - 1) (by omega)
  rw [if_pos (show U.1 - 1 < U.1 by omega)] at eu
  have es : (sc - 1).toNatClampNeg = U.1 - 1 := by rw [zx_nc]; omega
  rw [es] at hi hc hU hW2
  have ei : i = pu_sl U := by unfold pu_sl; omega
  rw [ei] at hN hF hW1 hW2
  have hne : ∀ s u, s < 3 → u < 5 → (5 * s + u = pu_sl U ↔ s = U.1 - 1 ∧ u = U.2.2.1 (U.1 - 1)) := fun s u z1 z2 => by unfold pu_sl; omega
  refine ⟨4, 0, pu_U U (pz_W F n a) f, hs', by omega, fun z => absurd z (by decide), ⟨o1, fun _ => p1, fun z => absurd z (by decide), fun z => absurd z (by decide), fun z => absurd z (by decide), fun s z => ?_⟩, ⟨h1, h2, fun s z => ?_, fun s u z1 z2 => ?_, fun s u z1 z2 => ?_, fun s u z1 z2 => ?_⟩, c7⟩
  · have z : s < U.1 := z
    show pu_wd F (U.2.1 s) ∧ pu_up U.2.2.1 (U.1 - 1) (U.2.2.1 (U.1 - 1) + 1) s ≤ 5 ∧ ∀ u, u < pu_up U.2.2.1 (U.1 - 1) (U.2.2.1 (U.1 - 1) + 1) s → pu_wd F (pu_up U.2.2.2.1 (pu_sl U) (pz_W F n a) (5 * s + u))
    have q1 := o6 s z
    by_cases y : s = U.1 - 1
    · subst y
      rw [pu_up1]
      refine ⟨q1.1, by omega, fun u hu => ?_⟩
      by_cases y2 : 5 * (U.1 - 1) + u = pu_sl U
      · rw [y2, pu_up1]; exact hw
      · rw [pu_up2 y2]; exact q1.2.2 u (by unfold pu_sl at y2; omega)
    · rw [pu_up2 y]
      refine ⟨q1.1, q1.2.1, fun u hu => ?_⟩
      rw [pu_up2 (fun y2 => y ((hne s u (by omega) (by omega)).mp y2).1)]
      exact q1.2.2 u hu
  · show (UC' s).toInt = if s < U.1 then ((pu_up U.2.2.1 (U.1 - 1) (U.2.2.1 (U.1 - 1) + 1) s : Nat) : Int) else 0
    rw [hU]
    by_cases y : s = U.1 - 1
    · subst y
      rw [pu_up1, if_pos (by omega), show upd UC (U.1 - 1) c (U.1 - 1) = c from if_pos rfl]
      omega
    · rw [pu_up2 y, show upd UC (U.1 - 1) c s = UC s from if_neg y]
      exact h3 s z
  · show NM' (5 * s + u) = if s < U.1 ∧ u < pu_up U.2.2.1 (U.1 - 1) (U.2.2.1 (U.1 - 1) + 1) s then pu_w F (pu_up U.2.2.2.1 (pu_sl U) (pz_W F n a) (5 * s + u)) else 0
    rw [hN]
    by_cases y2 : 5 * s + u = pu_sl U
    · obtain ⟨y3, y4⟩ := (hne s u z1 z2).mp y2
      rw [y2, pu_up1, show vp_updL NM (pu_sl U) x (pu_sl U) = x from if_pos rfl, hx, if_pos]
      subst y3
      rw [pu_up1]
      omega
    · rw [pu_up2 y2, show vp_updL NM (pu_sl U) x (5 * s + u) = NM (5 * s + u) from if_neg y2, h4 s u z1 z2]
      by_cases y : s = U.1 - 1
      · subst y
        rw [pu_up1]
        by_cases y3 : u < U.2.2.1 (U.1 - 1)
        · rw [if_pos ⟨by omega, y3⟩, if_pos ⟨by omega, by omega⟩]
        · rw [if_neg (fun w => y3 w.2), if_neg (fun w => by have := (hne (U.1 - 1) u z1 z2).mpr ⟨rfl, by omega⟩; exact y2 this)]
      · rw [pu_up2 y]
  · have z1 : s < U.1 := z1
    have z2 : u < pu_up U.2.2.1 (U.1 - 1) (U.2.2.1 (U.1 - 1) + 1) s := z2
    show FA' (5 * s + u) = pu_up U.2.2.2.2 (pu_sl U) f (5 * s + u)
    rw [hF]
    by_cases y2 : 5 * s + u = pu_sl U
    · rw [y2, pu_up1]
      exact if_pos rfl
    · rw [pu_up2 y2, show upd FA (pu_sl U) f (5 * s + u) = FA (5 * s + u) from if_neg y2]
      by_cases y : s = U.1 - 1
      · subst y
        rw [pu_up1] at z2
        exact h5 _ u z1 (by unfold pu_sl at y2; omega)
      · rw [pu_up2 y] at z2
        exact h5 s u z1 z2
  · have z1 : s < U.1 := z1
    have z2 : u < pu_up U.2.2.1 (U.1 - 1) (U.2.2.1 (U.1 - 1) + 1) s := z2
    show WO' (5 * s + u) = pu_wo (pu_up U.2.2.2.2 (pu_sl U) f) s u
    by_cases y2 : 5 * s + u = pu_sl U
    · by_cases y : s = U.1 - 1
      · subst y
        have eu2 : u = U.2.2.1 (U.1 - 1) := by unfold pu_sl at y2; omega
        rw [y2]
        cases u with
        | zero =>
          rcases hW2 with w | w
          · exact w.2
          · omega
        | succ v =>
          rcases hW2 with w | w
          · omega
          · rw [w.2]
            show f * WO (pu_sl U - 1) = pu_up U.2.2.2.2 (pu_sl U) f (5 * (U.1 - 1) + (v + 1)) * pu_wo (pu_up U.2.2.2.2 (pu_sl U) f) (U.1 - 1) v
            rw [y2, pu_up1, pu_wo_eq (f := U.2.2.2.2) (fun j hj => pu_up2 (by rw [← y2]; omega)), ← h6 (U.1 - 1) v z1 (by omega), show pu_sl U - 1 = 5 * (U.1 - 1) + v by rw [← y2]; omega]
      · rw [pu_up2 y] at z2
        have q1 := (o6 s z1).2.1
        exact absurd ((hne s u (by omega) (by omega)).mp y2).1 y
    · rw [hW1 _ y2]
      by_cases y : s = U.1 - 1
      · subst y
        rw [pu_up1] at z2
        have hu : u < U.2.2.1 (U.1 - 1) := by unfold pu_sl at y2; omega
        rw [pu_wo_eq (f := U.2.2.2.2) (fun j hj => pu_up2 (by unfold pu_sl; omega))]
        exact h6 _ u z1 hu
      · rw [pu_up2 y] at z2
        have q1 := (o6 s z1).2.1
        rw [pu_wo_eq (f := U.2.2.2.2) (fun j hj => pu_up2 (fun y3 => y ((hne s j (by omega) (by omega)).mp y3).1))]
        exact h6 s u z1 z2
end PC
theorem pz_sc1 {sc : Int32} (h0 : 0 ≤ sc.toInt) : (sc - 1).toInt = sc.toInt - 1 := zx_sub (x := sc) (y := 1) (by show (-2147483648 : Int) ≤ sc.toInt - 1; omega) (by show sc.toInt - 1 < (2147483648 : Int); have := zx_bd sc; omega)
theorem pc_room {F : Nat → Int32} {n k a : Nat} {R : Option Nat × PU} {st fc sc : Int32} {SN NM : Nat → Int64} {UC FA WO : Nat → Int32} (C : pm_c F n k R a st fc sc SN UC NM FA WO) (hs : st.toInt = 3) : 1 ≤ sc.toInt ∧ sc.toInt ≤ 3 ∧ (UC (sc - 1).toNatClampNeg).toInt < 5 := by
  obtain ⟨ph, f, U, c1, c2, c3, c4, c5, c6⟩ := C
  have e : ph = 3 := by omega
  subst e
  have es := c5.1
  have o2 := c4.2.1 (by omega)
  have o3 := c4.2.2.1 (Or.inr rfl)
  have o1 := c4.1
  have eu := c5.2.2.1 (U.1 - 1) (by omega)
  rw [if_pos (show U.1 - 1 < U.1 by omega)] at eu
  have e1 := pz_sc1 (sc := sc) (by omega)
  rw [show (sc - 1).toNatClampNeg = U.1 - 1 by rw [zx_nc]; omega]
  omega
theorem pc_lt {F : Nat → Int32} {n k a : Nat} {R : Option Nat × PU} {st fc sc : Int32} {SN NM : Nat → Int64} {UC FA WO : Nat → Int32} (C : pm_c F n k R a st fc sc SN UC NM FA WO) : 0 ≤ st.toInt ∧ st.toInt ≤ 4 ∧ (st.toInt = 1 → sc.toInt < 3) ∧ (2 ≤ st.toInt → 1 ≤ sc.toInt) := by
  obtain ⟨ph, f, U, c1, c2, c3, c4, c5, c6⟩ := C
  have es := c5.1
  have o5 := c4.2.2.2.2.1
  have o2 := c4.2.1
  omega
