set_option maxHeartbeats 4000000 in
set_option maxRecDepth 100000 in
theorem k_X10_takeSystemName_c (l : Launch) (dC : Nat → ClassId) (dI : Nat → Nat → Nat) (h : Sh) (L : List Nat) (hN : sx_nd L) (q : Sg) (hV : sx_V h L q) {a0 : Nat} (ha0 : a0 ∈ L) (ka0 : h.1 a0 = 10) {a1 : Nat} (ha1 : a1 ∈ L) (ka1 : h.1 a1 = 9) {k0 : Nat} (ek0 : q.2.2.1 a0 0 = k0) {s0 : Nat} (es0 : q.2.2.1 a1 0 = s0) {c0 : Nat} (ec0 : q.2.2.1 a1 1 = c0) {m0 : Nat} (em0 : q.2.2.1 a1 2 = m0) {f0 : Nat} (ef0 : q.2.2.1 a1 3 = f0) {w0 : Nat} (ew0 : q.2.2.1 a1 4 = w0) {x0 : Nat} (ex0 : q.2.2.1 a1 5 = x0)  (F : Nat → Int32) (n9 : Nat) (k9 : Nat) (R9 : Option Nat × PU) (A9 : Nat) (hT : pz_T F n9 A9 (q.1 k0 0) (q.1 k0 1) (q.1 k0 10) (q.2.1 k0 2) (q.1 k0 3) (q.1 k0 4)) (hC : pm_c F n9 (k9 + 1) R9 A9 (q.1 a0 1) (q.1 a0 2) (q.1 a1 6) (q.2.2.2.2 s0) (q.2.2.2.1 c0) (q.2.2.2.2 m0) (q.2.2.2.1 f0) (q.2.2.2.1 w0)) (hy0 : (q.1 a0 1).toInt = 1) : CMi l dC dI h L yX10_takeSystemName wsX10_takeSystemName ({ frames := 3, cells := 0, slots := 0, locals := 67 } : Room) q [.ref a0, .ref a1] (fun r q' => sx_V h L q' ∧ sx_fr h L (fun a => a = a0 ∧ h.1 a = 10 ∨ a = k0 ∧ h.1 a = 8 ∨ a = a1 ∧ h.1 a = 9 ∨ a = s0 ∧ h.1 a = 201 ∨ a = c0 ∧ h.1 a = 101 ∨ a = m0 ∧ h.1 a = 202 ∨ a = f0 ∧ h.1 a = 102 ∨ a = w0 ∧ h.1 a = 103 ∨ a = x0 ∧ h.1 a = 104) q q' ∧ sx_kg k0 [5, 6] q q' ∧ (r.toInt = 0 ∧ 0 ≤ (q'.1 k0 6).toInt ∧ R9.1 = some (q'.1 k0 6).toInt.toNat ∨ r.toInt = 1 ∧ ¬ (q.1 k0 0).toInt = 0 ∧ pm_c F n9 k9 R9 (pz_E F n9 A9) (q'.1 a0 1) (q'.1 a0 2) (q'.1 a1 6) (q'.2.2.2.2 s0) (q'.2.2.2.1 c0) (q'.2.2.2.2 m0) (q'.2.2.2.1 f0) (q'.2.2.2.1 w0))) := by
  refine cm_z (cc := cX10_takeSystemName) (mL := 2) (own := RX10) hN (by decide) rfl rfl (Nat.le_of_ble_eq_true rfl) (fun Z B hret => ?_)
  have hF : sx_fr h L (fun a => a = a0 ∧ h.1 a = 10 ∨ a = k0 ∧ h.1 a = 8 ∨ a = a1 ∧ h.1 a = 9 ∨ a = s0 ∧ h.1 a = 201 ∨ a = c0 ∧ h.1 a = 101 ∨ a = m0 ∧ h.1 a = 202 ∨ a = f0 ∧ h.1 a = 102 ∨ a = w0 ∧ h.1 a = 103 ∨ a = x0 ∧ h.1 a = 104) q q := sx_fr.rf
  obtain ⟨hk0, kk0⟩ : k0 ∈ L ∧ h.1 k0 = 8 := by obtain ⟨r9, e9, z1, z2⟩ := hV.ref (t := 8) ha0 ka0 0 rfl (by decide); rw [← ek0, e9]; exact ⟨z1, z2⟩
  obtain ⟨hs0, ks0, ls0⟩ : s0 ∈ L ∧ h.1 s0 = 201 ∧ h.2.1 s0 = 3 := by obtain ⟨r9, e9, z1, z2, z3⟩ := hV.refn (t := 201) (n := 3) ha1 ka1 0 rfl (by decide) rfl (by decide); rw [← es0, e9]; exact ⟨z1, z2, z3⟩
  obtain ⟨hc0, kc0, lc0⟩ : c0 ∈ L ∧ h.1 c0 = 101 ∧ h.2.1 c0 = 3 := by obtain ⟨r9, e9, z1, z2, z3⟩ := hV.refn (t := 101) (n := 3) ha1 ka1 1 rfl (by decide) rfl (by decide); rw [← ec0, e9]; exact ⟨z1, z2, z3⟩
  obtain ⟨hm0, km0, lm0⟩ : m0 ∈ L ∧ h.1 m0 = 202 ∧ h.2.1 m0 = 15 := by obtain ⟨r9, e9, z1, z2, z3⟩ := hV.refn (t := 202) (n := 15) ha1 ka1 2 rfl (by decide) rfl (by decide); rw [← em0, e9]; exact ⟨z1, z2, z3⟩
  obtain ⟨hf0, kf0, lf0⟩ : f0 ∈ L ∧ h.1 f0 = 102 ∧ h.2.1 f0 = 15 := by obtain ⟨r9, e9, z1, z2, z3⟩ := hV.refn (t := 102) (n := 15) ha1 ka1 3 rfl (by decide) rfl (by decide); rw [← ef0, e9]; exact ⟨z1, z2, z3⟩
  obtain ⟨hw0, kw0, lw0⟩ : w0 ∈ L ∧ h.1 w0 = 103 ∧ h.2.1 w0 = 15 := by obtain ⟨r9, e9, z1, z2, z3⟩ := hV.refn (t := 103) (n := 15) ha1 ka1 4 rfl (by decide) rfl (by decide); rw [← ew0, e9]; exact ⟨z1, z2, z3⟩
  obtain ⟨hx0, kx0, lx0⟩ : x0 ∈ L ∧ h.1 x0 = 104 ∧ h.2.1 x0 = 15 := by obtain ⟨r9, e9, z1, z2, z3⟩ := hV.refn (t := 104) (n := 15) ha1 ka1 5 rfl (by decide) rfl (by decide); rw [← ex0, e9]; exact ⟨z1, z2, z3⟩
  show WA l dC dI h L ({ frames := 3, cells := 0, slots := 0, locals := 67 } : Room) 2 Z q 0 [(0, .ref a0), (1, .ref a1)] []
  have hlt := pc_lt hC
  have hpl := hT.2.1
  refine wa_aload_n B dX10_takeSystemName_0 rfl 0 rfl ?_
  refine wa_aload_n B dX10_takeSystemName_1 rfl 1 rfl ?_
  refine wa_callVi B (x := (RX10, TX10, 3)) (As := [.ref a1]) (rest := []) (k_X10_isNewName_c l dC dI h L hN q hV (a0 := a0) ha0 ka0 (a1 := a1) ha1 ka1 (k0 := k0) ek0 (s0 := s0) es0 (c0 := c0) ec0 (m0 := m0) em0 (f0 := f0) ef0 (w0 := w0) ew0 (x0 := x0) ex0  ) (cwV 1 B.1.2.2.2.2 gX10_takeSystemName_X10_isNewName rfl rfl rfl (by decide +kernel) ⟨Nat.le_of_ble_eq_true rfl, Nat.le_of_ble_eq_true rfl⟩) ha0 ka0 (by decide) rfl rfl rfl (Nat.le_of_ble_eq_true rfl) dX10_takeSystemName_2 (fun r_2 q_1 w_3 => ?_)
  obtain ⟨hV_q_1, h2_q_1, h4_q_1, hw_3⟩ := w_3
  have hF_q_1 : sx_fr h L (fun a => a = a0 ∧ h.1 a = 10 ∨ a = k0 ∧ h.1 a = 8 ∨ a = a1 ∧ h.1 a = 9 ∨ a = s0 ∧ h.1 a = 201 ∨ a = c0 ∧ h.1 a = 101 ∨ a = m0 ∧ h.1 a = 202 ∨ a = f0 ∧ h.1 a = 102 ∨ a = w0 ∧ h.1 a = 103 ∨ a = x0 ∧ h.1 a = 104) q q_1 := hF.tr (h2_q_1.mono (fun a (z : a = k0 ∧ h.1 a = 8) => ((fun z => (Or.inr (Or.inl z))) z)))
  refine wa_if_ne B 10 dX10_takeSystemName_5 (by decide) (fun (t_4 : ¬ r_2.toInt = 0) => ?_) (fun (t_4 : r_2.toInt = 0) => ?_)
  · refine wa_aload_n B dX10_takeSystemName_10 rfl 1 rfl ?_
    refine wa_aload_n B dX10_takeSystemName_11 rfl 0 rfl ?_
    have z_5 : q_1.2.2.1 a0 0 = k0 := (h2_q_1.R ha0 (fun z9 => absurd z9.2 (by omega)) 0).trans (ek0)
    refine wa_getR B (C := RX10) (T := TX10) (N := 3) iq_X10_takeSystemName_X10 ha0 ka0 (by decide) rfl 0 (by decide) (by decide) (by decide +kernel) rfl (fun _ _ _ => rfl) (v := k0) z_5 dX10_takeSystemName_12 ?_
    have z_6 : q_1.2.1 k0 2 = q.2.1 k0 2 := h4_q_1.2.1 2 (by decide)
    refine wa_getJ B (C := RX8) (T := TX8) (N := 11) iq_X10_takeSystemName_X8 hk0 kk0 (by decide) rfl 2 (by decide) (by decide) (by decide +kernel) rfl (by decide) (v := (q.2.1 k0 2)) z_6 dX10_takeSystemName_15 ?_
    have z_7 : q_1.1 a0 1 = q.1 a0 1 := h2_q_1.I ha0 (show ¬ (a0 = k0 ∧ h.1 a0 = 8) from (fun z => absurd (z.2.symm.trans ka0) (by decide))) 1
    have z_8 : q_1.1 a0 2 = q.1 a0 2 := h2_q_1.I ha0 (show ¬ (a0 = k0 ∧ h.1 a0 = 8) from (fun z => absurd (z.2.symm.trans ka0) (by decide))) 2
    have z_9 : q_1.1 a1 6 = q.1 a1 6 := h2_q_1.I ha1 (show ¬ (a1 = k0 ∧ h.1 a1 = 8) from (fun z => absurd (z.2.symm.trans ka1) (by decide))) 6
    have z_10 : q_1.2.2.2.2 s0 = q.2.2.2.2 s0 := h2_q_1.Lg hs0 (show ¬ (s0 = k0 ∧ h.1 s0 = 8) from (fun z => absurd (z.2.symm.trans ks0) (by decide))) (by rw [ks0]; decide)
    have z_11 : q_1.2.2.2.1 c0 = q.2.2.2.1 c0 := h2_q_1.G hc0 (show ¬ (c0 = k0 ∧ h.1 c0 = 8) from (fun z => absurd (z.2.symm.trans kc0) (by decide))) (by rw [kc0]; decide)
    have z_12 : q_1.2.2.2.2 m0 = q.2.2.2.2 m0 := h2_q_1.Lg hm0 (show ¬ (m0 = k0 ∧ h.1 m0 = 8) from (fun z => absurd (z.2.symm.trans km0) (by decide))) (by rw [km0]; decide)
    have z_13 : q_1.2.2.2.1 f0 = q.2.2.2.1 f0 := h2_q_1.G hf0 (show ¬ (f0 = k0 ∧ h.1 f0 = 8) from (fun z => absurd (z.2.symm.trans kf0) (by decide))) (by rw [kf0]; decide)
    have z_14 : q_1.2.2.2.1 w0 = q.2.2.2.1 w0 := h2_q_1.G hw0 (show ¬ (w0 = k0 ∧ h.1 w0 = 8) from (fun z => absurd (z.2.symm.trans kw0) (by decide))) (by rw [kw0]; decide)
    have z_15 : q_1.2.2.1 a1 0 = s0 := (h2_q_1.R ha1 (fun z9 => absurd z9.2 (by omega)) 0).trans (es0)
    have y_16 : (q_1.1 a1 6).toInt = (q.1 a1 6).toInt := by rw [z_9]
    refine wa_callVv B (x := (RX9, TX9, 7)) (As := [.long (q.2.1 k0 2)]) (rest := []) (k_X9_addSystem_c l dC dI h L hN q_1 hV_q_1 (a0 := a1) ha1 ka1 (q.2.1 k0 2) (s0 := s0) z_15  (by first | assumption | omega | decide)) (cwV 1 B.1.2.2.2.2 gX10_takeSystemName_X9_addSystem rfl rfl rfl (by decide +kernel) ⟨Nat.le_of_ble_eq_true rfl, Nat.le_of_ble_eq_true rfl⟩) ha1 ka1 (by decide) rfl rfl rfl (Nat.le_of_ble_eq_true rfl) dX10_takeSystemName_18 (fun q_17 w_18 => ?_)
    obtain ⟨hV_q_17, h2_q_17, hw_18⟩ := w_18
    have hF_q_17 : sx_fr h L (fun a => a = a0 ∧ h.1 a = 10 ∨ a = k0 ∧ h.1 a = 8 ∨ a = a1 ∧ h.1 a = 9 ∨ a = s0 ∧ h.1 a = 201 ∨ a = c0 ∧ h.1 a = 101 ∨ a = m0 ∧ h.1 a = 202 ∨ a = f0 ∧ h.1 a = 102 ∨ a = w0 ∧ h.1 a = 103 ∨ a = x0 ∧ h.1 a = 104) q q_17 := hF_q_1.tr (h2_q_17.mono (fun a (z : a = a1 ∧ h.1 a = 9 ∨ a = s0 ∧ h.1 a = 201) => ((fun z => z.elim (fun z => (Or.inr (Or.inr (Or.inl z)))) (fun z => (Or.inr (Or.inr (Or.inr (Or.inl z)))))) z)))
    simp only [z_7, z_8, z_9, z_10, z_11, z_12, z_13, z_14] at hw_18
    refine wa_aload_n B dX10_takeSystemName_21 rfl 0 rfl ?_
    refine wa_iconst B 2 dX10_takeSystemName_22 (by decide) ?_
    refine wa_putI B (C := RX10) (T := TX10) (N := 3) iq_X10_takeSystemName_X10 ha0 ka0 (by decide) rfl 1 (by decide) (by decide) (by decide +kernel) rfl (by decide) (v := 2) (ty := .int) tyX10 tyX10_ok nmX10 rfl (by decide +kernel) rfl rfl dX10_takeSystemName_23 (fun q_19 eq_19 => ?_)
    have hV_q_19 : sx_V h L q_19 := by rw [eq_19]; exact hV_q_17.pI ka0 trivial
    have hF_q_19 : sx_fr h L (fun a => a = a0 ∧ h.1 a = 10 ∨ a = k0 ∧ h.1 a = 8 ∨ a = a1 ∧ h.1 a = 9 ∨ a = s0 ∧ h.1 a = 201 ∨ a = c0 ∧ h.1 a = 101 ∨ a = m0 ∧ h.1 a = 202 ∨ a = f0 ∧ h.1 a = 102 ∨ a = w0 ∧ h.1 a = 103 ∨ a = x0 ∧ h.1 a = 104) q q_19 := hF_q_17.tr (by rw [eq_19]; exact sx_fr.pI (show a0 = a0 ∧ h.1 a0 = 10 ∨ a0 = k0 ∧ h.1 a0 = 8 ∨ a0 = a1 ∧ h.1 a0 = 9 ∨ a0 = s0 ∧ h.1 a0 = 201 ∨ a0 = c0 ∧ h.1 a0 = 101 ∨ a0 = m0 ∧ h.1 a0 = 202 ∨ a0 = f0 ∧ h.1 a0 = 102 ∨ a0 = w0 ∧ h.1 a0 = 103 ∨ a0 = x0 ∧ h.1 a0 = 104 from (Or.inl ⟨rfl, ka0⟩)))
    have z_20 : q_19.1 a0 1 = 2 := by rw [eq_19]; exact sg_pI_e
    refine wa_iconst B 1 dX10_takeSystemName_26 (by decide) ?_
    have y_21 : (q_19.1 a0 1).toInt = 2 := by rw [z_20]; rfl
    have z_22 : q_19.1 a0 2 = (q.1 a0 2) := ((show q_19.1 a0 2 = q_17.1 a0 2 from by rw [eq_19]; exact sg_pI_k (by decide))).trans ((h2_q_17.I ha0 (show ¬ (a0 = a1 ∧ h.1 a0 = 9 ∨ a0 = s0 ∧ h.1 a0 = 201) from (fun z => z.elim (fun z => absurd (z.2.symm.trans ka0) (by decide)) (fun z => absurd (z.2.symm.trans ka0) (by decide)))) 2).trans (z_8))
    have y_23 : (q_19.1 a0 2).toInt = (q.1 a0 2).toInt := by rw [z_22]
    have z_24 : q_19.1 a1 6 = q_17.1 a1 6 := (show q_19.1 a1 6 = q_17.1 a1 6 from by rw [eq_19]; exact sg_pI_k (by decide))
    have y_25 : (q_19.1 a1 6).toInt = (q_17.1 a1 6).toInt := by rw [z_24]
    have z_26 : q_19.1 k0 6 = q_1.1 k0 6 := ((show q_19.1 k0 6 = q_17.1 k0 6 from by rw [eq_19]; exact sg_pI_k (by decide))).trans (h2_q_17.I hk0 (show ¬ (k0 = a1 ∧ h.1 k0 = 9 ∨ k0 = s0 ∧ h.1 k0 = 201) from (fun z => z.elim (fun z => absurd (z.2.symm.trans kk0) (by decide)) (fun z => absurd (z.2.symm.trans kk0) (by decide)))) 6)
    have y_27 : (q_19.1 k0 6).toInt = (q_1.1 k0 6).toInt := by rw [z_26]
    have z_28 : q_19.1 k0 1 = q.1 k0 1 := ((show q_19.1 k0 1 = q_17.1 k0 1 from by rw [eq_19]; exact sg_pI_a (sx_ka h kk0 ka0 (by decide)))).trans ((h2_q_17.I hk0 (show ¬ (k0 = a1 ∧ h.1 k0 = 9 ∨ k0 = s0 ∧ h.1 k0 = 201) from (fun z => z.elim (fun z => absurd (z.2.symm.trans kk0) (by decide)) (fun z => absurd (z.2.symm.trans kk0) (by decide)))) 1).trans (h4_q_1.1 1 (by decide)))
    have y_29 : (q_19.1 k0 1).toInt = (q.1 k0 1).toInt := by rw [z_28]
    have y_30 : (q_19.1 k0 6).toInt = (q_1.1 k0 6).toInt := by rw [z_26]
    have z_31 : q_19.2.2.2.2 s0 = q_17.2.2.2.2 s0 := (show q_19.2.2.2.2 s0 = q_17.2.2.2.2 s0 from by rw [eq_19]; rfl)
    have z_32 : q_19.2.2.2.1 c0 = (q.2.2.2.1 c0) := ((show q_19.2.2.2.1 c0 = q_17.2.2.2.1 c0 from by rw [eq_19]; rfl)).trans ((h2_q_17.G hc0 (show ¬ (c0 = a1 ∧ h.1 c0 = 9 ∨ c0 = s0 ∧ h.1 c0 = 201) from (fun z => z.elim (fun z => absurd (z.2.symm.trans kc0) (by decide)) (fun z => absurd (z.2.symm.trans kc0) (by decide)))) (by rw [kc0]; decide)).trans (z_11))
    have z_33 : q_19.2.2.2.2 m0 = (q.2.2.2.2 m0) := ((show q_19.2.2.2.2 m0 = q_17.2.2.2.2 m0 from by rw [eq_19]; rfl)).trans ((h2_q_17.Lg hm0 (show ¬ (m0 = a1 ∧ h.1 m0 = 9 ∨ m0 = s0 ∧ h.1 m0 = 201) from (fun z => z.elim (fun z => absurd (z.2.symm.trans km0) (by decide)) (fun z => absurd (z.2.symm.trans km0) (by decide)))) (by rw [km0]; decide)).trans (z_12))
    have z_34 : q_19.2.2.2.1 f0 = (q.2.2.2.1 f0) := ((show q_19.2.2.2.1 f0 = q_17.2.2.2.1 f0 from by rw [eq_19]; rfl)).trans ((h2_q_17.G hf0 (show ¬ (f0 = a1 ∧ h.1 f0 = 9 ∨ f0 = s0 ∧ h.1 f0 = 201) from (fun z => z.elim (fun z => absurd (z.2.symm.trans kf0) (by decide)) (fun z => absurd (z.2.symm.trans kf0) (by decide)))) (by rw [kf0]; decide)).trans (z_13))
    have z_35 : q_19.2.2.2.1 w0 = (q.2.2.2.1 w0) := ((show q_19.2.2.2.1 w0 = q_17.2.2.2.1 w0 from by rw [eq_19]; rfl)).trans ((h2_q_17.G hw0 (show ¬ (w0 = a1 ∧ h.1 w0 = 9 ∨ w0 = s0 ∧ h.1 w0 = 201) from (fun z => z.elim (fun z => absurd (z.2.symm.trans kw0) (by decide)) (fun z => absurd (z.2.symm.trans kw0) (by decide)))) (by rw [kw0]; decide)).trans (z_14))
    exact hret _ _ _ _ dX10_takeSystemName_27 (Or.inr rfl) ⟨hV_q_19, hF_q_19, (sx_kg.tr (sx_kg.tr (h4_q_1.mono (by decide)) (sx_kg.fr h2_q_17 hk0 (show ¬ (k0 = a1 ∧ h.1 k0 = 9 ∨ k0 = s0 ∧ h.1 k0 = 201) from (fun z => z.elim (fun z => absurd (z.2.symm.trans kk0) (by decide)) (fun z => absurd (z.2.symm.trans kk0) (by decide)))))) (show sx_kg k0 [5, 6] q_17 q_19 from by rw [eq_19]; exact sx_kg.pIo (sx_ka h kk0 ka0 (by decide)))), (by have y8 := (hw_3.resolve_right (fun y => absurd y.1 (by omega))).2; exact (Or.inr ⟨rfl, by omega, by rw [z_20, z_22, z_24, z_31, z_32, z_33, z_34, z_35]; exact pc_name hC (by omega) hT y8 rfl hw_18.1 hw_18.2⟩))⟩
  · refine wa_iconst B 0 dX10_takeSystemName_8 (by decide) ?_
    have z_36 : q_1.1 a0 1 = q.1 a0 1 := h2_q_1.I ha0 (show ¬ (a0 = k0 ∧ h.1 a0 = 8) from (fun z => absurd (z.2.symm.trans ka0) (by decide))) 1
    have y_37 : (q_1.1 a0 1).toInt = (q.1 a0 1).toInt := by rw [z_36]
    have z_38 : q_1.1 a0 2 = q.1 a0 2 := h2_q_1.I ha0 (show ¬ (a0 = k0 ∧ h.1 a0 = 8) from (fun z => absurd (z.2.symm.trans ka0) (by decide))) 2
    have y_39 : (q_1.1 a0 2).toInt = (q.1 a0 2).toInt := by rw [z_38]
    have z_40 : q_1.1 a1 6 = q.1 a1 6 := h2_q_1.I ha1 (show ¬ (a1 = k0 ∧ h.1 a1 = 8) from (fun z => absurd (z.2.symm.trans ka1) (by decide))) 6
    have y_41 : (q_1.1 a1 6).toInt = (q.1 a1 6).toInt := by rw [z_40]
    have z_42 : q_1.1 k0 1 = q.1 k0 1 := h4_q_1.1 1 (by decide)
    have y_43 : (q_1.1 k0 1).toInt = (q.1 k0 1).toInt := by rw [z_42]
    exact hret _ _ _ _ dX10_takeSystemName_9 (Or.inl rfl) ⟨hV_q_1, hF_q_1, (h4_q_1.mono (by decide)), (by have y8 := (hw_3.resolve_left (fun y => absurd y.1 (by omega))).2; exact (Or.inl ⟨rfl, by omega, (pc_name_bad hC (Or.inl (by omega)) hT y8.1).trans (congrArg some (by omega))⟩))⟩
