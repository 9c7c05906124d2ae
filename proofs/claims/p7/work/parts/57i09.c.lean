set_option maxHeartbeats 4000000 in
set_option maxRecDepth 100000 in
theorem k_X8_demand_c (l : Launch) (dC : Nat → ClassId) (dI : Nat → Nat → Nat) (h : Sh) (L : List Nat) (hN : sx_nd L) (q : Sg) (hV : sx_V h L q) {a0 : Nat} (ha0 : a0 ∈ L) (ka0 : h.1 a0 = 8) (n1 : Int32)    : CMi l dC dI h L yX8_demand wsX8_demand ({ frames := 0, cells := 0, slots := 0, locals := 0 } : Room) q [.ref a0, .int n1] (fun r q' => sx_V h L q' ∧ sx_fr h L (fun a => a = a0 ∧ h.1 a = 8) q q' ∧ sx_kg a0 [5, 6] q q' ∧ (r.toInt = 1 ∧ (q.1 a0 0).toInt = n1.toInt ∨ r.toInt = 0 ∧ ¬ (q.1 a0 0).toInt = n1.toInt ∧ (q'.1 a0 6).toInt = (q.1 a0 1).toInt)) := by
  refine cm_z (cc := cX8_demand) (mL := 2) (own := RX8) hN (by decide) rfl rfl (Nat.le_of_ble_eq_true rfl) (fun Z B hret => ?_)
  have hF : sx_fr h L (fun a => a = a0 ∧ h.1 a = 8) q q := sx_fr.rf
  have hK : sx_kg a0 [5, 6] q q := sx_kg.rf
  show WA l dC dI h L ({ frames := 0, cells := 0, slots := 0, locals := 0 } : Room) 2 Z q 0 [(0, .ref a0), (1, .int n1)] []
  refine wa_aload_n B dX8_demand_0 rfl 0 rfl ?_
  refine wa_getI B (C := RX8) (T := TX8) (N := 11) iq_X8_demand_X8 ha0 ka0 (by decide) rfl 0 (by decide) (by decide) (by decide +kernel) rfl (by decide) (v := (q.1 a0 0)) rfl dX8_demand_1 ?_
  refine wa_iload_n B dX8_demand_4 rfl 1 rfl ?_
  refine wa_icmp_eq B 21 dX8_demand_5 (by decide) (fun (t_1 : (q.1 a0 0).toInt = n1.toInt) => ?_) (fun (t_1 : ¬ (q.1 a0 0).toInt = n1.toInt) => ?_)
  · refine wa_aload_n B dX8_demand_21 rfl 0 rfl ?_
    refine wa_getI B (C := RX8) (T := TX8) (N := 11) iq_X8_demand_X8 ha0 ka0 (by decide) rfl 0 (by decide) (by decide) (by decide +kernel) rfl (by decide) (v := (q.1 a0 0)) rfl dX8_demand_22 ?_
    refine wa_iload_n B dX8_demand_25 rfl 1 rfl ?_
    refine wa_icmp_ne B 33 dX8_demand_26 (by decide) (fun (t_2 : ¬ (q.1 a0 0).toInt = n1.toInt) => ?_) (fun (t_2 : (q.1 a0 0).toInt = n1.toInt) => ?_)
    · refine wa_iconst B 0 dX8_demand_33 (by decide) ?_
      exact hret _ _ _ _ dX8_demand_34 (Or.inl rfl) ⟨hV, hF, hK, (by have h9 : (0 : Int32).toInt = 0 := rfl; first | omega | (refine ⟨?_, ?_⟩ <;> omega) | trivial)⟩
    · refine wa_iconst B 1 dX8_demand_29 (by decide) ?_
      refine wa_goto B 34 dX8_demand_30 (by decide) ?_
      exact hret _ _ _ _ dX8_demand_34 (Or.inr rfl) ⟨hV, hF, hK, (by have h9 : (1 : Int32).toInt = 1 := rfl; first | omega | (refine ⟨?_, ?_⟩ <;> omega) | trivial)⟩
  · refine wa_aload_n B dX8_demand_8 rfl 0 rfl ?_
    refine wa_iconst B 1 dX8_demand_9 (by decide) ?_
    refine wa_putI B (C := RX8) (T := TX8) (N := 11) iq_X8_demand_X8 ha0 ka0 (by decide) rfl 5 (by decide) (by decide) (by decide +kernel) rfl (by decide) (v := 1) (ty := .int) tyX8 tyX8_ok nmX8 rfl (by decide +kernel) rfl rfl dX8_demand_10 (fun q_3 eq_3 => ?_)
    have hV_q_3 : sx_V h L q_3 := by rw [eq_3]; exact hV.pI ka0 trivial
    have hF_q_3 : sx_fr h L (fun a => a = a0 ∧ h.1 a = 8) q q_3 := hF.tr (by rw [eq_3]; exact sx_fr.pI (show a0 = a0 ∧ h.1 a0 = 8 from ⟨rfl, ka0⟩))
    have z_4 : q_3.1 a0 5 = 1 := by rw [eq_3]; exact sg_pI_e
    have hK_q_3 : sx_kg a0 [5, 6] q q_3 := hK.tr (by rw [eq_3]; exact sx_kg.pI (by decide))
    refine wa_aload_n B dX8_demand_13 rfl 0 rfl ?_
    refine wa_aload_n B dX8_demand_14 rfl 0 rfl ?_
    have z_5 : q_3.1 a0 1 = q.1 a0 1 := (show q_3.1 a0 1 = q.1 a0 1 from by rw [eq_3]; exact sg_pI_k (by decide))
    refine wa_getI B (C := RX8) (T := TX8) (N := 11) iq_X8_demand_X8 ha0 ka0 (by decide) rfl 1 (by decide) (by decide) (by decide +kernel) rfl (by decide) (v := (q.1 a0 1)) z_5 dX8_demand_15 ?_
    refine wa_putI B (C := RX8) (T := TX8) (N := 11) iq_X8_demand_X8 ha0 ka0 (by decide) rfl 6 (by decide) (by decide) (by decide +kernel) rfl (by decide) (v := (q.1 a0 1)) (ty := .int) tyX8 tyX8_ok nmX8 rfl (by decide +kernel) rfl rfl dX8_demand_18 (fun q_6 eq_6 => ?_)
    have hV_q_6 : sx_V h L q_6 := by rw [eq_6]; exact hV_q_3.pI ka0 trivial
    have hF_q_6 : sx_fr h L (fun a => a = a0 ∧ h.1 a = 8) q q_6 := hF_q_3.tr (by rw [eq_6]; exact sx_fr.pI (show a0 = a0 ∧ h.1 a0 = 8 from ⟨rfl, ka0⟩))
    have z_7 : q_6.1 a0 6 = (q.1 a0 1) := by rw [eq_6]; exact sg_pI_e
    have hK_q_6 : sx_kg a0 [5, 6] q q_6 := hK_q_3.tr (by rw [eq_6]; exact sx_kg.pI (by decide))
    refine wa_aload_n B dX8_demand_21 rfl 0 rfl ?_
    have z_8 : q_6.1 a0 0 = q.1 a0 0 := ((show q_6.1 a0 0 = q_3.1 a0 0 from by rw [eq_6]; exact sg_pI_k (by decide))).trans ((show q_3.1 a0 0 = q.1 a0 0 from by rw [eq_3]; exact sg_pI_k (by decide)))
    refine wa_getI B (C := RX8) (T := TX8) (N := 11) iq_X8_demand_X8 ha0 ka0 (by decide) rfl 0 (by decide) (by decide) (by decide +kernel) rfl (by decide) (v := (q.1 a0 0)) z_8 dX8_demand_22 ?_
    refine wa_iload_n B dX8_demand_25 rfl 1 rfl ?_
    refine wa_icmp_ne B 33 dX8_demand_26 (by decide) (fun (t_9 : ¬ (q.1 a0 0).toInt = n1.toInt) => ?_) (fun (t_9 : (q.1 a0 0).toInt = n1.toInt) => ?_)
    · refine wa_iconst B 0 dX8_demand_33 (by decide) ?_
      have y_10 : (q_6.1 a0 6).toInt = (q.1 a0 1).toInt := by rw [z_7]
      exact hret _ _ _ _ dX8_demand_34 (Or.inl rfl) ⟨hV_q_6, hF_q_6, hK_q_6, (by have h9 : (0 : Int32).toInt = 0 := rfl; first | omega | (refine ⟨?_, ?_⟩ <;> omega) | trivial)⟩
    · refine wa_iconst B 1 dX8_demand_29 (by decide) ?_
      refine wa_goto B 34 dX8_demand_30 (by decide) ?_
      have y_11 : (q_6.1 a0 6).toInt = (q.1 a0 1).toInt := by rw [z_7]
      exact hret _ _ _ _ dX8_demand_34 (Or.inr rfl) ⟨hV_q_6, hF_q_6, hK_q_6, (by have h9 : (1 : Int32).toInt = 1 := rfl; first | omega | (refine ⟨?_, ?_⟩ <;> omega) | trivial)⟩
