set_option maxHeartbeats 4000000 in
set_option maxRecDepth 100000 in
theorem k_X9_clear_c (l : Launch) (dC : Nat → ClassId) (dI : Nat → Nat → Nat) (h : Sh) (L : List Nat) (hN : sx_nd L) (q : Sg) (hV : sx_V h L q) {a0 : Nat} (ha0 : a0 ∈ L) (ka0 : h.1 a0 = 9) {s0 : Nat} (es0 : q.2.2.1 a0 0 = s0) {c0 : Nat} (ec0 : q.2.2.1 a0 1 = c0) {m0 : Nat} (em0 : q.2.2.1 a0 2 = m0)    : CMv l dC dI h L yX9_clear wsX9_clear ({ frames := 1, cells := 0, slots := 0, locals := 24 } : Room) q [.ref a0] (fun q' => sx_V h L q' ∧ sx_fr h L (fun a => a = a0 ∧ h.1 a = 9 ∨ a = s0 ∧ h.1 a = 201 ∨ a = c0 ∧ h.1 a = 101 ∨ a = m0 ∧ h.1 a = 202) q q' ∧ ((q'.1 a0 6).toInt = 0 ∧ (∀ j : Nat, j < 3 → q'.2.2.2.2 s0 j = 0) ∧ (∀ j : Nat, j < 3 → q'.2.2.2.1 c0 j = 0) ∧ (∀ j : Nat, j < 15 → q'.2.2.2.2 m0 j = 0))) := by
  refine cm_v (cc := cX9_clear) (mL := 1) (own := RX9) hN (by decide) rfl rfl (Nat.le_of_ble_eq_true rfl) (fun Z B hret => ?_)
  have hF : sx_fr h L (fun a => a = a0 ∧ h.1 a = 9 ∨ a = s0 ∧ h.1 a = 201 ∨ a = c0 ∧ h.1 a = 101 ∨ a = m0 ∧ h.1 a = 202) q q := sx_fr.rf
  obtain ⟨hs0, ks0, ls0⟩ : s0 ∈ L ∧ h.1 s0 = 201 ∧ h.2.1 s0 = 3 := by obtain ⟨r9, e9, z1, z2, z3⟩ := hV.refn (t := 201) (n := 3) ha0 ka0 0 rfl (by decide) rfl (by decide); rw [← es0, e9]; exact ⟨z1, z2, z3⟩
  obtain ⟨hc0, kc0, lc0⟩ : c0 ∈ L ∧ h.1 c0 = 101 ∧ h.2.1 c0 = 3 := by obtain ⟨r9, e9, z1, z2, z3⟩ := hV.refn (t := 101) (n := 3) ha0 ka0 1 rfl (by decide) rfl (by decide); rw [← ec0, e9]; exact ⟨z1, z2, z3⟩
  obtain ⟨hm0, km0, lm0⟩ : m0 ∈ L ∧ h.1 m0 = 202 ∧ h.2.1 m0 = 15 := by obtain ⟨r9, e9, z1, z2, z3⟩ := hV.refn (t := 202) (n := 15) ha0 ka0 2 rfl (by decide) rfl (by decide); rw [← em0, e9]; exact ⟨z1, z2, z3⟩
  show WA l dC dI h L ({ frames := 1, cells := 0, slots := 0, locals := 24 } : Room) 1 Z q 0 [(0, .ref a0)] []
  refine wa_aload_n B dX9_clear_0 rfl 0 rfl ?_
  refine wa_iconst B 0 dX9_clear_1 (by decide) ?_
  refine wa_putI B (C := RX9) (T := TX9) (N := 7) iq_X9_clear_X9 ha0 ka0 (by decide) rfl 6 (by decide) (by decide) (by decide +kernel) rfl (by decide) (v := 0) (ty := .int) tyX9 tyX9_ok nmX9 rfl (by decide +kernel) rfl rfl dX9_clear_2 (fun q_1 eq_1 => ?_)
  have hV_q_1 : sx_V h L q_1 := by rw [eq_1]; exact hV.pI ka0 (show sx_in 0 (0) 3 from ⟨by decide, by decide⟩)
  have hF_q_1 : sx_fr h L (fun a => a = a0 ∧ h.1 a = 9 ∨ a = s0 ∧ h.1 a = 201 ∨ a = c0 ∧ h.1 a = 101 ∨ a = m0 ∧ h.1 a = 202) q q_1 := hF.tr (by rw [eq_1]; exact sx_fr.pI (show a0 = a0 ∧ h.1 a0 = 9 ∨ a0 = s0 ∧ h.1 a0 = 201 ∨ a0 = c0 ∧ h.1 a0 = 101 ∨ a0 = m0 ∧ h.1 a0 = 202 from (Or.inl ⟨rfl, ka0⟩)))
  have z_2 : q_1.1 a0 6 = 0 := by rw [eq_1]; exact sg_pI_e
  refine wa_aload_n B dX9_clear_5 rfl 0 rfl ?_
  have z_3 : q_1.2.2.1 a0 0 = s0 := ((show q_1.2.2.1 a0 0 = q.2.2.1 a0 0 from by rw [eq_1]; rfl)).trans (es0)
  refine wa_getR B (C := RX9) (T := TX9) (N := 7) iq_X9_clear_X9 ha0 ka0 (by decide) rfl 0 (by decide) (by decide) (by decide +kernel) rfl (fun _ _ _ => rfl) (v := s0) z_3 dX9_clear_6 ?_
  refine wa_lconst B 0 dX9_clear_9 (by decide) ?_
  refine wa_callSv B (As := [.ref s0, .long 0]) (rest := []) (k_J7_fill_d0a16_c l dC dI h L hN q_1 hV_q_1 (a0 := s0) hs0 ks0 0  (by first | assumption | omega | decide) (by first | assumption | omega | decide)) (va_cwS 2 B.1.2.2.2.2 gX9_clear_J7_fill_d0a16 rfl rfl rfl (by decide +kernel) ⟨Nat.le_of_ble_eq_true rfl, Nat.le_of_ble_eq_true rfl⟩) rfl rfl (Nat.le_of_ble_eq_true rfl) dX9_clear_10 (fun q_4 w_5 => ?_)
  obtain ⟨hV_q_4, h2_q_4, hw_5⟩ := w_5
  have hF_q_4 : sx_fr h L (fun a => a = a0 ∧ h.1 a = 9 ∨ a = s0 ∧ h.1 a = 201 ∨ a = c0 ∧ h.1 a = 101 ∨ a = m0 ∧ h.1 a = 202) q q_4 := hF_q_1.tr (h2_q_4.mono (fun a (z : a = s0 ∧ h.1 a = 201) => ((fun z => (Or.inr (Or.inl z))) z)))
  refine wa_aload_n B dX9_clear_13 rfl 0 rfl ?_
  have z_6 : q_4.2.2.1 a0 1 = c0 := (h2_q_4.R ha0 (fun z9 => absurd z9.2 (by omega)) 1).trans (((show q_1.2.2.1 a0 1 = q.2.2.1 a0 1 from by rw [eq_1]; rfl)).trans (ec0))
  refine wa_getR B (C := RX9) (T := TX9) (N := 7) iq_X9_clear_X9 ha0 ka0 (by decide) rfl 1 (by decide) (by decide) (by decide +kernel) rfl (fun _ _ _ => rfl) (v := c0) z_6 dX9_clear_14 ?_
  refine wa_iconst B 0 dX9_clear_17 (by decide) ?_
  have n_7 : (0 : Int32).toInt = 0 := rfl
  refine wa_callSv B (As := [.ref c0, .int 0]) (rest := []) (k_J7_fill_53178_c l dC dI h L hN q_4 hV_q_4 (a0 := c0) hc0 kc0 0  (by first | assumption | omega | decide) (by first | assumption | omega | decide) (show sx_E 101 0 from ⟨by decide, by decide⟩)) (va_cwS 2 B.1.2.2.2.2 gX9_clear_J7_fill_53178 rfl rfl rfl (by decide +kernel) ⟨Nat.le_of_ble_eq_true rfl, Nat.le_of_ble_eq_true rfl⟩) rfl rfl (Nat.le_of_ble_eq_true rfl) dX9_clear_18 (fun q_8 w_9 => ?_)
  obtain ⟨hV_q_8, h2_q_8, hw_9⟩ := w_9
  have hF_q_8 : sx_fr h L (fun a => a = a0 ∧ h.1 a = 9 ∨ a = s0 ∧ h.1 a = 201 ∨ a = c0 ∧ h.1 a = 101 ∨ a = m0 ∧ h.1 a = 202) q q_8 := hF_q_4.tr (h2_q_8.mono (fun a (z : a = c0 ∧ h.1 a = 101 ∧ ¬ 101 = 100) => (show a = a0 ∧ h.1 a = 9 ∨ a = s0 ∧ h.1 a = 201 ∨ a = c0 ∧ h.1 a = 101 ∨ a = m0 ∧ h.1 a = 202 from by omega)))
  refine wa_aload_n B dX9_clear_21 rfl 0 rfl ?_
  have z_10 : q_8.2.2.1 a0 2 = m0 := (h2_q_8.R ha0 (fun z9 => absurd z9.2 (by omega)) 2).trans ((h2_q_4.R ha0 (fun z9 => absurd z9.2 (by omega)) 2).trans (((show q_1.2.2.1 a0 2 = q.2.2.1 a0 2 from by rw [eq_1]; rfl)).trans (em0)))
  refine wa_getR B (C := RX9) (T := TX9) (N := 7) iq_X9_clear_X9 ha0 ka0 (by decide) rfl 2 (by decide) (by decide) (by decide +kernel) rfl (fun _ _ _ => rfl) (v := m0) z_10 dX9_clear_22 ?_
  refine wa_lconst B 0 dX9_clear_25 (by decide) ?_
  refine wa_callSv B (As := [.ref m0, .long 0]) (rest := []) (k_J7_fill_d0a16_c l dC dI h L hN q_8 hV_q_8 (a0 := m0) hm0 km0 0  (by first | assumption | omega | decide) (by first | assumption | omega | decide)) (va_cwS 2 B.1.2.2.2.2 gX9_clear_J7_fill_d0a16 rfl rfl rfl (by decide +kernel) ⟨Nat.le_of_ble_eq_true rfl, Nat.le_of_ble_eq_true rfl⟩) rfl rfl (Nat.le_of_ble_eq_true rfl) dX9_clear_26 (fun q_11 w_12 => ?_)
  obtain ⟨hV_q_11, h2_q_11, hw_12⟩ := w_12
  have hF_q_11 : sx_fr h L (fun a => a = a0 ∧ h.1 a = 9 ∨ a = s0 ∧ h.1 a = 201 ∨ a = c0 ∧ h.1 a = 101 ∨ a = m0 ∧ h.1 a = 202) q q_11 := hF_q_8.tr (h2_q_11.mono (fun a (z : a = m0 ∧ h.1 a = 202) => ((fun z => (Or.inr (Or.inr (Or.inr z)))) z)))
  have z_13 : q_11.1 a0 6 = 0 := (h2_q_11.I ha0 (show ¬ (a0 = m0 ∧ h.1 a0 = 202) from (fun z => absurd (z.2.symm.trans ka0) (by decide))) 6).trans ((h2_q_8.I ha0 (show ¬ (a0 = c0 ∧ h.1 a0 = 101 ∧ ¬ 101 = 100) from by omega) 6).trans ((h2_q_4.I ha0 (show ¬ (a0 = s0 ∧ h.1 a0 = 201) from (fun z => absurd (z.2.symm.trans ka0) (by decide))) 6).trans (z_2)))
  have y_14 : (q_11.1 a0 6).toInt = 0 := by rw [z_13]; rfl
  have z_15 : q_11.2.2.2.2 s0 = q_4.2.2.2.2 s0 := (h2_q_11.Lg hs0 (show ¬ (s0 = m0 ∧ h.1 s0 = 202) from (fun z => absurd (z.2.symm.trans ks0) (by decide))) (by rw [ks0]; decide)).trans (h2_q_8.Lg hs0 (show ¬ (s0 = c0 ∧ h.1 s0 = 101 ∧ ¬ 101 = 100) from by omega) (by rw [ks0]; decide))
  have z_16 : q_11.2.2.2.1 c0 = q_8.2.2.2.1 c0 := h2_q_11.G hc0 (show ¬ (c0 = m0 ∧ h.1 c0 = 202) from (fun z => absurd (z.2.symm.trans kc0) (by decide))) (by rw [kc0]; decide)
  exact hret _ _ _ dX9_clear_29 ⟨hV_q_11, hF_q_11, ⟨by rw [z_13]; rfl, fun j hj => by rw [z_15]; exact hw_5 j (by omega), fun j hj => by rw [z_16]; exact hw_9 j (by omega), fun j hj => by exact hw_12 j (by omega)⟩⟩
