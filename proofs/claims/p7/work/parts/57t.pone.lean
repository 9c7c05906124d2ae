/-! A SYSTEM that was read to its end has a UNIT at least. -/
theorem pm_one {F : Nat → Int32} {n : Nat} : ∀ (k ph : Nat) (f : Int32) (U : PU) (a : Nat), (∀ s, s < U.1 → (s + 1 < U.1 ∨ ph = 0 ∨ ph = 1 ∨ 4 ≤ ph) → 1 ≤ U.2.2.1 s) → (pm_run F n k ph f U a).1 = none → ∀ s, s < (pm_run F n k ph f U a).2.1 → 1 ≤ (pm_run F n k ph f U a).2.2.2.1 s
  | 0, ph, f, U, a, _, h => absurd (show some 0 = none from h) (by intro z; injection z)
  | k + 1, 0, f, U, a, hI, h => by
    have e : pm_run F n (k + 1) 0 f U a = pz_if (pz_K F n a = 0) (pz_if (0 < U.1 ∧ n ≤ 400) (none, U) (some (pz_P F n a), U)) (pz_if (pz_K F n a = 6 ∧ U.1 < 3) (pm_run F n k 1 0 U (pz_E F n a)) (some (pz_P F n a), U)) := rfl
    by_cases h0 : pz_K F n a = 0
    · rw [pz_if1 h0] at e
      by_cases h1 : 0 < U.1 ∧ n ≤ 400
      · rw [pz_if1 h1] at e
        rw [e]
        exact fun s hs => hI s hs (by omega)
      · rw [pz_if0 h1] at e
        rw [e] at h
        exact absurd (show some _ = none from h) (by intro z; injection z)
    · rw [pz_if0 h0] at e
      by_cases h1 : pz_K F n a = 6 ∧ U.1 < 3
      · rw [pz_if1 h1] at e
        rw [e] at h ⊢
        exact pm_one k 1 0 U _ (fun s hs hc => hI s hs (by omega)) h
      · rw [pz_if0 h1] at e
        rw [e] at h
        exact absurd (show some _ = none from h) (by intro z; injection z)
  | k + 1, 1, f, U, a, hI, h => by
    have e : pm_run F n (k + 1) 1 f U a = pz_if (pz_K F n a = 2 ∧ ¬ pu_tk F U (pu_w F (pz_W F n a))) (pm_run F n k 2 0 (pu_S U (pz_W F n a)) (pz_E F n a)) (some (pz_P F n a), U) := rfl
    by_cases h1 : pz_K F n a = 2 ∧ ¬ pu_tk F U (pu_w F (pz_W F n a))
    · rw [pz_if1 h1] at e
      rw [e] at h ⊢
      refine pm_one k 2 0 _ _ (fun s hs hc => ?_) h
      have hs2 : s < U.1 + 1 := hs
      have hc2 : s + 1 < U.1 + 1 ∨ 2 = 0 ∨ 2 = 1 ∨ 4 ≤ 2 := hc
      show 1 ≤ pu_up U.2.2.1 U.1 0 s
      rw [pu_up2 (by omega)]
      exact hI s (by omega) (by omega)
    · rw [pz_if0 h1] at e
      rw [e] at h
      exact absurd (show some _ = none from h) (by intro z; injection z)
  | k + 1, 2, f, U, a, hI, h => by
    have e : pm_run F n (k + 1) 2 f U a = pz_if (pz_K F n a = 4) (pm_run F n k 3 1 U (pz_E F n a)) (some (pz_P F n a), U) := rfl
    by_cases h1 : pz_K F n a = 4
    · rw [pz_if1 h1] at e
      rw [e] at h ⊢
      exact pm_one k 3 1 U _ (fun s hs hc => hI s hs (by omega)) h
    · rw [pz_if0 h1] at e
      rw [e] at h
      exact absurd (show some _ = none from h) (by intro z; injection z)
  | k + 1, 3, f, U, a, hI, h => by
    have e : pm_run F n (k + 1) 3 f U a = pz_if (pz_K F n a = 2 ∧ ¬ pu_tk F U (pu_w F (pz_W F n a))) (pm_run F n k 4 0 (pu_U U (pz_W F n a) f) (pz_E F n a)) (some (pz_P F n a), U) := rfl
    by_cases h1 : pz_K F n a = 2 ∧ ¬ pu_tk F U (pu_w F (pz_W F n a))
    · rw [pz_if1 h1] at e
      rw [e] at h ⊢
      refine pm_one k 4 0 _ _ (fun s hs hc => ?_) h
      have hs2 : s < U.1 := hs
      show 1 ≤ pu_up U.2.2.1 (U.1 - 1) (U.2.2.1 (U.1 - 1) + 1) s
      by_cases y : s = U.1 - 1
      · rw [y, pu_up1]
        omega
      · rw [pu_up2 y]
        exact hI s hs2 (by omega)
    · rw [pz_if0 h1] at e
      rw [e] at h
      exact absurd (show some _ = none from h) (by intro z; injection z)
  | k + 1, ph + 4, f, U, a, hI, h => by
    have e : pm_run F n (k + 1) (ph + 4) f U a = pz_if (pz_K F n a = 3) (pz_if ((2 ≤ pz_V F n a ∧ pz_V F n a ≤ 60) ∧ U.2.2.1 (U.1 - 1) < 5) (pm_run F n k 3 (Int32.ofInt (pz_V F n a)) U (pz_E F n a)) (some (pz_P F n a), U)) (pz_if (pz_K F n a = 5) (pm_run F n k 0 0 U (pz_E F n a)) (some (pz_P F n a), U)) := rfl
    by_cases h0 : pz_K F n a = 3
    · rw [pz_if1 h0] at e
      by_cases h1 : (2 ≤ pz_V F n a ∧ pz_V F n a ≤ 60) ∧ U.2.2.1 (U.1 - 1) < 5
      · rw [pz_if1 h1] at e
        rw [e] at h ⊢
        exact pm_one k 3 _ U _ (fun s hs hc => hI s hs (by omega)) h
      · rw [pz_if0 h1] at e
        rw [e] at h
        exact absurd (show some _ = none from h) (by intro z; injection z)
    · rw [pz_if0 h0] at e
      by_cases h1 : pz_K F n a = 5
      · rw [pz_if1 h1] at e
        rw [e] at h ⊢
        exact pm_one k 0 0 U _ (fun s hs hc => hI s hs (by omega)) h
      · rw [pz_if0 h1] at e
        rw [e] at h
        exact absurd (show some _ = none from h) (by intro z; injection z)
