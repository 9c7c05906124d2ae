set_option maxHeartbeats 4000000 in
set_option maxRecDepth 100000 in
theorem k_X10_endSystem_c (l : Launch) (dC : Nat → ClassId) (dI : Nat → Nat → Nat) (h : Sh) (L : List Nat) (hN : sx_nd L) (q : Sg) (hV : sx_V h L q) {a0 : Nat} (ha0 : a0 ∈ L) (ka0 : h.1 a0 = 10) {k0 : Nat} (ek0 : q.2.2.1 a0 0 = k0)    : CMi l dC dI h L yX10_endSystem wsX10_endSystem ({ frames := 1, cells := 0, slots := 0, locals := 21 } : Room) q [.ref a0] (fun r q' => sx_V h L q' ∧ sx_fr h L (fun a => a = a0 ∧ h.1 a = 10 ∨ a = k0 ∧ h.1 a = 8) q q' ∧ sx_kg k0 [5, 6] q q' ∧ (q'.1 a0 1 = 0 ∧ (r.toInt = 1 ∧ (q.1 k0 0).toInt = 5 ∨ r.toInt = 0 ∧ ¬ (q.1 k0 0).toInt = 5 ∧ (q'.1 k0 6).toInt = (q.1 k0 1).toInt))) := by
  refine cm_z (cc := cX10_endSystem) (mL := 1) (own := RX10) hN (by decide) rfl rfl (Nat.le_of_ble_eq_true rfl) (fun Z B hret => ?_)
  have hF : sx_fr h L (fun a => a = a0 ∧ h.1 a = 10 ∨ a = k0 ∧ h.1 a = 8) q q := sx_fr.rf
  obtain ⟨hk0, kk0⟩ : k0 ∈ L ∧ h.1 k0 = 8 := by obtain ⟨r9, e9, z1, z2⟩ := hV.ref (t := 8) ha0 ka0 0 rfl (by decide); rw [← ek0, e9]; exact ⟨z1, z2⟩
  show WA l dC dI h L ({ frames := 1, cells := 0, slots := 0, locals := 21 } : Room) 1 Z q 0 [(0, .ref a0)] []
  refine wa_aload_n B dX10_endSystem_0 rfl 0 rfl ?_
  refine wa_iconst B 0 dX10_endSystem_1 (by decide) ?_
  refine wa_putI B (C := RX10) (T := TX10) (N := 3) iq_X10_endSystem_X10 ha0 ka0 (by decide) rfl 1 (by decide) (by decide) (by decide +kernel) rfl (by decide) (v := 0) (ty := .int) tyX10 tyX10_ok nmX10 rfl (by decide +kernel) rfl rfl dX10_endSystem_2 (fun q_1 eq_1 => ?_)
  have hV_q_1 : sx_V h L q_1 := by rw [eq_1]; exact hV.pI ka0 trivial
  have hF_q_1 : sx_fr h L (fun a => a = a0 ∧ h.1 a = 10 ∨ a = k0 ∧ h.1 a = 8) q q_1 := hF.tr (by rw [eq_1]; exact sx_fr.pI (show a0 = a0 ∧ h.1 a0 = 10 ∨ a0 = k0 ∧ h.1 a0 = 8 from (Or.inl ⟨rfl, ka0⟩)))
  have z_2 : q_1.1 a0 1 = 0 := by rw [eq_1]; exact sg_pI_e
  refine wa_aload_n B dX10_endSystem_5 rfl 0 rfl ?_
  have z_3 : q_1.2.2.1 a0 0 = k0 := ((show q_1.2.2.1 a0 0 = q.2.2.1 a0 0 from by rw [eq_1]; rfl)).trans (ek0)
  refine wa_getR B (C := RX10) (T := TX10) (N := 3) iq_X10_endSystem_X10 ha0 ka0 (by decide) rfl 0 (by decide) (by decide) (by decide +kernel) rfl (fun _ _ _ => rfl) (v := k0) z_3 dX10_endSystem_6 ?_
  refine wa_iconst B 5 dX10_endSystem_9 (by decide) ?_
  have n_4 : (5 : Int32).toInt = 5 := rfl
  have z_5 : q_1.1 k0 0 = q.1 k0 0 := (show q_1.1 k0 0 = q.1 k0 0 from by rw [eq_1]; exact sg_pI_k (by decide))
  have y_6 : (q_1.1 k0 0).toInt = (q.1 k0 0).toInt := by rw [z_5]
  have z_7 : q_1.1 k0 1 = q.1 k0 1 := (show q_1.1 k0 1 = q.1 k0 1 from by rw [eq_1]; exact sg_pI_a (sx_ka h kk0 ka0 (by decide)))
  have y_8 : (q_1.1 k0 1).toInt = (q.1 k0 1).toInt := by rw [z_7]
  refine wa_callVi B (x := (RX8, TX8, 11)) (As := [.int 5]) (rest := []) (k_X8_demand_c l dC dI h L hN q_1 hV_q_1 (a0 := k0) hk0 kk0 5  ) (cwV 1 B.1.2.2.2.2 gX10_endSystem_X8_demand rfl rfl rfl (by decide +kernel) ⟨Nat.le_of_ble_eq_true rfl, Nat.le_of_ble_eq_true rfl⟩) hk0 kk0 (by decide) rfl rfl rfl (Nat.le_of_ble_eq_true rfl) dX10_endSystem_10 (fun r_10 q_9 w_11 => ?_)
  obtain ⟨hV_q_9, h2_q_9, h3_q_9, hw_11⟩ := w_11
  have hF_q_9 : sx_fr h L (fun a => a = a0 ∧ h.1 a = 10 ∨ a = k0 ∧ h.1 a = 8) q q_9 := hF_q_1.tr (h2_q_9.mono (fun a (z : a = k0 ∧ h.1 a = 8) => ((fun z => (Or.inr z)) z)))
  have z_12 : q_9.1 a0 1 = 0 := (h2_q_9.I ha0 (show ¬ (a0 = k0 ∧ h.1 a0 = 8) from (fun z => absurd (z.2.symm.trans ka0) (by decide))) 1).trans (z_2)
  have y_13 : (q_9.1 a0 1).toInt = 0 := by rw [z_12]; rfl
  exact hret _ _ _ _ dX10_endSystem_13 (zx_01 (by omega)) ⟨hV_q_9, hF_q_9, (sx_kg.tr (show sx_kg k0 [5, 6] q q_1 from by rw [eq_1]; exact sx_kg.pIo (sx_ka h kk0 ka0 (by decide))) (h3_q_9.mono (by decide))), ⟨z_12, by omega⟩⟩
