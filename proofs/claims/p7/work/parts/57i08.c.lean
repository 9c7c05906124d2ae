set_option maxHeartbeats 4000000 in
set_option maxRecDepth 100000 in
theorem k_X8_refuse_c (l : Launch) (dC : Nat → ClassId) (dI : Nat → Nat → Nat) (h : Sh) (L : List Nat) (hN : sx_nd L) (q : Sg) (hV : sx_V h L q) {a0 : Nat} (ha0 : a0 ∈ L) (ka0 : h.1 a0 = 8) (n1 : Int32) (n2 : Int32)    : CMi l dC dI h L yX8_refuse wsX8_refuse ({ frames := 0, cells := 0, slots := 0, locals := 0 } : Room) q [.ref a0, .int n1, .int n2] (fun r q' => sx_V h L q' ∧ sx_fr h L (fun a => a = a0 ∧ h.1 a = 8) q q' ∧ sx_kg a0 [5, 6] q q' ∧ (r.toInt = 0 ∧ (q'.1 a0 6).toInt = n2.toInt)) := by
  refine cm_z (cc := cX8_refuse) (mL := 3) (own := RX8) hN (by decide) rfl rfl (Nat.le_of_ble_eq_true rfl) (fun Z B hret => ?_)
  have hF : sx_fr h L (fun a => a = a0 ∧ h.1 a = 8) q q := sx_fr.rf
  have hK : sx_kg a0 [5, 6] q q := sx_kg.rf
  show WA l dC dI h L ({ frames := 0, cells := 0, slots := 0, locals := 0 } : Room) 3 Z q 0 [(0, .ref a0), (1, .int n1), (2, .int n2)] []
  refine wa_aload_n B dX8_refuse_0 rfl 0 rfl ?_
  refine wa_iload_n B dX8_refuse_1 rfl 1 rfl ?_
  refine wa_putI B (C := RX8) (T := TX8) (N := 11) iq_X8_refuse_X8 ha0 ka0 (by decide) rfl 5 (by decide) (by decide) (by decide +kernel) rfl (by decide) (v := n1) (ty := .int) tyX8 tyX8_ok nmX8 rfl (by decide +kernel) rfl rfl dX8_refuse_2 (fun q_1 eq_1 => ?_)
  have hV_q_1 : sx_V h L q_1 := by rw [eq_1]; exact hV.pI ka0 trivial
  have hF_q_1 : sx_fr h L (fun a => a = a0 ∧ h.1 a = 8) q q_1 := hF.tr (by rw [eq_1]; exact sx_fr.pI (show a0 = a0 ∧ h.1 a0 = 8 from ⟨rfl, ka0⟩))
  have z_2 : q_1.1 a0 5 = n1 := by rw [eq_1]; exact sg_pI_e
  have hK_q_1 : sx_kg a0 [5, 6] q q_1 := hK.tr (by rw [eq_1]; exact sx_kg.pI (by decide))
  refine wa_aload_n B dX8_refuse_5 rfl 0 rfl ?_
  refine wa_iload_n B dX8_refuse_6 rfl 2 rfl ?_
  refine wa_putI B (C := RX8) (T := TX8) (N := 11) iq_X8_refuse_X8 ha0 ka0 (by decide) rfl 6 (by decide) (by decide) (by decide +kernel) rfl (by decide) (v := n2) (ty := .int) tyX8 tyX8_ok nmX8 rfl (by decide +kernel) rfl rfl dX8_refuse_7 (fun q_3 eq_3 => ?_)
  have hV_q_3 : sx_V h L q_3 := by rw [eq_3]; exact hV_q_1.pI ka0 trivial
  have hF_q_3 : sx_fr h L (fun a => a = a0 ∧ h.1 a = 8) q q_3 := hF_q_1.tr (by rw [eq_3]; exact sx_fr.pI (show a0 = a0 ∧ h.1 a0 = 8 from ⟨rfl, ka0⟩))
  have z_4 : q_3.1 a0 6 = n2 := by rw [eq_3]; exact sg_pI_e
  have hK_q_3 : sx_kg a0 [5, 6] q q_3 := hK_q_1.tr (by rw [eq_3]; exact sx_kg.pI (by decide))
  refine wa_iconst B 0 dX8_refuse_10 (by decide) ?_
  have y_5 : (q_3.1 a0 6).toInt = n2.toInt := by rw [z_4]
  exact hret _ _ _ _ dX8_refuse_11 (Or.inl rfl) ⟨hV_q_3, hF_q_3, hK_q_3, (by have h9 : (0 : Int32).toInt = 0 := rfl; first | omega | (refine ⟨?_, ?_⟩ <;> omega) | trivial)⟩
