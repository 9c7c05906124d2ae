set_option maxHeartbeats 4000000 in
set_option maxRecDepth 100000 in
theorem k_X10_isNewName_c (l : Launch) (dC : Nat → ClassId) (dI : Nat → Nat → Nat) (h : Sh) (L : List Nat) (hN : sx_nd L) (q : Sg) (hV : sx_V h L q) {a0 : Nat} (ha0 : a0 ∈ L) (ka0 : h.1 a0 = 10) {a1 : Nat} (ha1 : a1 ∈ L) (ka1 : h.1 a1 = 9) {k0 : Nat} (ek0 : q.2.2.1 a0 0 = k0) {s0 : Nat} (es0 : q.2.2.1 a1 0 = s0) {c0 : Nat} (ec0 : q.2.2.1 a1 1 = c0) {m0 : Nat} (em0 : q.2.2.1 a1 2 = m0) {f0 : Nat} (ef0 : q.2.2.1 a1 3 = f0) {w0 : Nat} (ew0 : q.2.2.1 a1 4 = w0) {x0 : Nat} (ex0 : q.2.2.1 a1 5 = x0)    : CMi l dC dI h L yX10_isNewName wsX10_isNewName ({ frames := 2, cells := 0, slots := 0, locals := 46 } : Room) q [.ref a0, .ref a1] (fun r q' => sx_V h L q' ∧ sx_fr h L (fun a => a = k0 ∧ h.1 a = 8) q q' ∧ sx_kg k0 [5, 6] q q' ∧ (r.toInt = 1 ∧ ((q.1 k0 0).toInt = 2 ∧ ¬ r8_tk (q.2.2.2.2 s0) (q.2.2.2.2 m0) (q.2.1 k0 2)) ∨ r.toInt = 0 ∧ ¬ ((q.1 k0 0).toInt = 2 ∧ ¬ r8_tk (q.2.2.2.2 s0) (q.2.2.2.2 m0) (q.2.1 k0 2)) ∧ (q'.1 k0 6).toInt = (q.1 k0 1).toInt)) := by
  refine cm_z (cc := cX10_isNewName) (mL := 2) (own := RX10) hN (by decide) rfl rfl (Nat.le_of_ble_eq_true rfl) (fun Z B hret => ?_)
  have hF : sx_fr h L (fun a => a = k0 ∧ h.1 a = 8) q q := sx_fr.rf
  obtain ⟨hk0, kk0⟩ : k0 ∈ L ∧ h.1 k0 = 8 := by obtain ⟨r9, e9, z1, z2⟩ := hV.ref (t := 8) ha0 ka0 0 rfl (by decide); rw [← ek0, e9]; exact ⟨z1, z2⟩
  obtain ⟨hs0, ks0, ls0⟩ : s0 ∈ L ∧ h.1 s0 = 201 ∧ h.2.1 s0 = 3 := by obtain ⟨r9, e9, z1, z2, z3⟩ := hV.refn (t := 201) (n := 3) ha1 ka1 0 rfl (by decide) rfl (by decide); rw [← es0, e9]; exact ⟨z1, z2, z3⟩
  obtain ⟨hc0, kc0, lc0⟩ : c0 ∈ L ∧ h.1 c0 = 101 ∧ h.2.1 c0 = 3 := by obtain ⟨r9, e9, z1, z2, z3⟩ := hV.refn (t := 101) (n := 3) ha1 ka1 1 rfl (by decide) rfl (by decide); rw [← ec0, e9]; exact ⟨z1, z2, z3⟩
  obtain ⟨hm0, km0, lm0⟩ : m0 ∈ L ∧ h.1 m0 = 202 ∧ h.2.1 m0 = 15 := by obtain ⟨r9, e9, z1, z2, z3⟩ := hV.refn (t := 202) (n := 15) ha1 ka1 2 rfl (by decide) rfl (by decide); rw [← em0, e9]; exact ⟨z1, z2, z3⟩
  obtain ⟨hf0, kf0, lf0⟩ : f0 ∈ L ∧ h.1 f0 = 102 ∧ h.2.1 f0 = 15 := by obtain ⟨r9, e9, z1, z2, z3⟩ := hV.refn (t := 102) (n := 15) ha1 ka1 3 rfl (by decide) rfl (by decide); rw [← ef0, e9]; exact ⟨z1, z2, z3⟩
  obtain ⟨hw0, kw0, lw0⟩ : w0 ∈ L ∧ h.1 w0 = 103 ∧ h.2.1 w0 = 15 := by obtain ⟨r9, e9, z1, z2, z3⟩ := hV.refn (t := 103) (n := 15) ha1 ka1 4 rfl (by decide) rfl (by decide); rw [← ew0, e9]; exact ⟨z1, z2, z3⟩
  obtain ⟨hx0, kx0, lx0⟩ : x0 ∈ L ∧ h.1 x0 = 104 ∧ h.2.1 x0 = 15 := by obtain ⟨r9, e9, z1, z2, z3⟩ := hV.refn (t := 104) (n := 15) ha1 ka1 5 rfl (by decide) rfl (by decide); rw [← ex0, e9]; exact ⟨z1, z2, z3⟩
  show WA l dC dI h L ({ frames := 2, cells := 0, slots := 0, locals := 46 } : Room) 2 Z q 0 [(0, .ref a0), (1, .ref a1)] []
  refine wa_aload_n B dX10_isNewName_0 rfl 0 rfl ?_
  refine wa_getR B (C := RX10) (T := TX10) (N := 3) iq_X10_isNewName_X10 ha0 ka0 (by decide) rfl 0 (by decide) (by decide) (by decide +kernel) rfl (fun _ _ _ => rfl) (v := k0) ek0 dX10_isNewName_1 ?_
  refine wa_iconst B 2 dX10_isNewName_4 (by decide) ?_
  have n_1 : (2 : Int32).toInt = 2 := rfl
  refine wa_callVi B (x := (RX8, TX8, 11)) (As := [.int 2]) (rest := []) (k_X8_demand_c l dC dI h L hN q hV (a0 := k0) hk0 kk0 2  ) (cwV 1 B.1.2.2.2.2 gX10_isNewName_X8_demand rfl rfl rfl (by decide +kernel) ⟨Nat.le_of_ble_eq_true rfl, Nat.le_of_ble_eq_true rfl⟩) hk0 kk0 (by decide) rfl rfl rfl (Nat.le_of_ble_eq_true rfl) dX10_isNewName_5 (fun r_3 q_2 w_4 => ?_)
  obtain ⟨hV_q_2, h2_q_2, h3_q_2, hw_4⟩ := w_4
  have hF_q_2 : sx_fr h L (fun a => a = k0 ∧ h.1 a = 8) q q_2 := hF.tr (h2_q_2.mono (fun a (z : a = k0 ∧ h.1 a = 8) => ((fun z => z) z)))
  refine wa_if_ne B 13 dX10_isNewName_8 (by decide) (fun (t_5 : ¬ r_3.toInt = 0) => ?_) (fun (t_5 : r_3.toInt = 0) => ?_)
  · refine wa_aload_n B dX10_isNewName_13 rfl 1 rfl ?_
    refine wa_aload_n B dX10_isNewName_14 rfl 0 rfl ?_
    have z_6 : q_2.2.2.1 a0 0 = k0 := (h2_q_2.R ha0 (fun z9 => absurd z9.2 (by omega)) 0).trans (ek0)
    refine wa_getR B (C := RX10) (T := TX10) (N := 3) iq_X10_isNewName_X10 ha0 ka0 (by decide) rfl 0 (by decide) (by decide) (by decide +kernel) rfl (fun _ _ _ => rfl) (v := k0) z_6 dX10_isNewName_15 ?_
    have z_7 : q_2.2.1 k0 2 = q.2.1 k0 2 := h3_q_2.2.1 2 (by decide)
    refine wa_getJ B (C := RX8) (T := TX8) (N := 11) iq_X10_isNewName_X8 hk0 kk0 (by decide) rfl 2 (by decide) (by decide) (by decide +kernel) rfl (by decide) (v := (q.2.1 k0 2)) z_7 dX10_isNewName_18 ?_
    have z_8 : q_2.2.2.1 a1 0 = s0 := (h2_q_2.R ha1 (fun z9 => absurd z9.2 (by omega)) 0).trans (es0)
    have z_9 : q_2.2.2.1 a1 2 = m0 := (h2_q_2.R ha1 (fun z9 => absurd z9.2 (by omega)) 2).trans (em0)
    refine wa_callVi B (x := (RX9, TX9, 7)) (As := [.long (q.2.1 k0 2)]) (rest := []) (k_X9_isTaken_c l dC dI h L hN q_2 hV_q_2 (a0 := a1) ha1 ka1 (q.2.1 k0 2) (s0 := s0) z_8 (m0 := m0) z_9  ) (cwV 1 B.1.2.2.2.2 gX10_isNewName_X9_isTaken rfl rfl rfl (by decide +kernel) ⟨Nat.le_of_ble_eq_true rfl, Nat.le_of_ble_eq_true rfl⟩) ha1 ka1 (by decide) rfl rfl rfl (Nat.le_of_ble_eq_true rfl) dX10_isNewName_21 (fun r_11 q_10 w_12 => ?_)
    obtain ⟨ew_12, hw_12⟩ := w_12
    subst ew_12
    have z_13 : q_2.2.2.2.2 s0 = q.2.2.2.2 s0 := h2_q_2.Lg hs0 (show ¬ (s0 = k0 ∧ h.1 s0 = 8) from (fun z => absurd (z.2.symm.trans ks0) (by decide))) (by rw [ks0]; decide)
    have z_14 : q_2.2.2.2.2 m0 = q.2.2.2.2 m0 := h2_q_2.Lg hm0 (show ¬ (m0 = k0 ∧ h.1 m0 = 8) from (fun z => absurd (z.2.symm.trans km0) (by decide))) (by rw [km0]; decide)
    rw [z_13, z_14] at hw_12
    refine wa_if_eq B 45 dX10_isNewName_24 (by decide) (fun (t_15 : r_11.toInt = 0) => ?_) (fun (t_15 : ¬ r_11.toInt = 0) => ?_)
    · refine wa_iconst B 1 dX10_isNewName_45 (by decide) ?_
      refine wa_goto B 50 dX10_isNewName_46 (by decide) ?_
      exact hret _ _ _ _ dX10_isNewName_50 (Or.inr rfl) ⟨hV_q_2, hF_q_2, (h3_q_2.mono (by decide)), (Or.inl ⟨rfl, by omega, (hw_12.resolve_left (fun y => absurd y.1 (by omega))).2⟩)⟩
    · refine wa_aload_n B dX10_isNewName_27 rfl 0 rfl ?_
      refine wa_getR B (C := RX10) (T := TX10) (N := 3) iq_X10_isNewName_X10 ha0 ka0 (by decide) rfl 0 (by decide) (by decide) (by decide +kernel) rfl (fun _ _ _ => rfl) (v := k0) z_6 dX10_isNewName_28 ?_
      refine wa_iconst B 3 dX10_isNewName_31 (by decide) ?_
      refine wa_aload_n B dX10_isNewName_32 rfl 0 rfl ?_
      refine wa_getR B (C := RX10) (T := TX10) (N := 3) iq_X10_isNewName_X10 ha0 ka0 (by decide) rfl 0 (by decide) (by decide) (by decide +kernel) rfl (fun _ _ _ => rfl) (v := k0) z_6 dX10_isNewName_33 ?_
      have z_16 : q_2.1 k0 1 = q.1 k0 1 := h3_q_2.1 1 (by decide)
      refine wa_getI B (C := RX8) (T := TX8) (N := 11) iq_X10_isNewName_X8 hk0 kk0 (by decide) rfl 1 (by decide) (by decide) (by decide +kernel) rfl (by decide) (v := (q.1 k0 1)) z_16 dX10_isNewName_36 ?_
      refine wa_callVi B (x := (RX8, TX8, 11)) (As := [.int 3, .int (q.1 k0 1)]) (rest := []) (k_X8_refuse_c l dC dI h L hN q_2 hV_q_2 (a0 := k0) hk0 kk0 3 (q.1 k0 1)  ) (cwV 2 B.1.2.2.2.2 gX10_isNewName_X8_refuse rfl rfl rfl (by decide +kernel) ⟨Nat.le_of_ble_eq_true rfl, Nat.le_of_ble_eq_true rfl⟩) hk0 kk0 (by decide) rfl rfl rfl (Nat.le_of_ble_eq_true rfl) dX10_isNewName_39 (fun r_18 q_17 w_19 => ?_)
      obtain ⟨hV_q_17, h2_q_17, h3_q_17, hw_19⟩ := w_19
      have hF_q_17 : sx_fr h L (fun a => a = k0 ∧ h.1 a = 8) q q_17 := hF_q_2.tr (h2_q_17.mono (fun a (z : a = k0 ∧ h.1 a = 8) => ((fun z => z) z)))
      refine wa_if_eq B 49 dX10_isNewName_42 (by decide) (fun (t_20 : r_18.toInt = 0) => ?_) (fun (t_20 : ¬ r_18.toInt = 0) => ?_)
      · refine wa_iconst B 0 dX10_isNewName_49 (by decide) ?_
        exact hret _ _ _ _ dX10_isNewName_50 (Or.inl rfl) ⟨hV_q_17, hF_q_17, (sx_kg.tr (h3_q_2.mono (by decide)) (h3_q_17.mono (by decide))), (Or.inr ⟨rfl, fun z => z.2 (hw_12.resolve_right (fun y => absurd y.1 (by omega))).2, by omega⟩)⟩
      · refine wa_iconst B 1 dX10_isNewName_45 (by decide) ?_
        refine wa_goto B 50 dX10_isNewName_46 (by decide) ?_
        exact hret _ _ _ _ dX10_isNewName_50 (Or.inr rfl) ⟨hV_q_17, hF_q_17, (sx_kg.tr (h3_q_2.mono (by decide)) (h3_q_17.mono (by decide))), (by exfalso; omega)⟩
  · refine wa_iconst B 0 dX10_isNewName_11 (by decide) ?_
    exact hret _ _ _ _ dX10_isNewName_12 (Or.inl rfl) ⟨hV_q_2, hF_q_2, (h3_q_2.mono (by decide)), (Or.inr ⟨rfl, fun z => absurd z.1 (by omega), by omega⟩)⟩
