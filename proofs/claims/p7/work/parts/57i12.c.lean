set_option maxHeartbeats 4000000 in
set_option maxRecDepth 100000 in
theorem k_X8_begin_c (l : Launch) (dC : Nat → ClassId) (dI : Nat → Nat → Nat) (h : Sh) (L : List Nat) (hN : sx_nd L) (q : Sg) (hV : sx_V h L q) {a0 : Nat} (ha0 : a0 ∈ L) (ka0 : h.1 a0 = 8) {a1 : Nat} (ha1 : a1 ∈ L) (ka1 : h.1 a1 = 7) (n1 : Int32) (n2 : Int32)   (hy0 : n2.toInt = 0 ∨ n2.toInt = 1) : CMv l dC dI h L yX8_begin wsX8_begin ({ frames := 0, cells := 0, slots := 0, locals := 0 } : Room) q [.ref a0, .ref a1, .int n1, .int n2] (fun q' => sx_V h L q' ∧ sx_fr h L (fun a => a = a0 ∧ h.1 a = 8) q q' ∧ (q'.2.2.1 a0 7 = a1 ∧ (q'.1 a0 8).toInt = n1.toInt ∧ (q'.1 a0 9).toInt = n2.toInt ∧ (q'.1 a0 10).toInt = 0)) := by
  refine cm_v (cc := cX8_begin) (mL := 4) (own := RX8) hN (by decide) rfl rfl (Nat.le_of_ble_eq_true rfl) (fun Z B hret => ?_)
  have hF : sx_fr h L (fun a => a = a0 ∧ h.1 a = 8) q q := sx_fr.rf
  show WA l dC dI h L ({ frames := 0, cells := 0, slots := 0, locals := 0 } : Room) 4 Z q 0 [(0, .ref a0), (1, .ref a1), (2, .int n1), (3, .int n2)] []
  refine wa_aload_n B dX8_begin_0 rfl 0 rfl ?_
  refine wa_aload_n B dX8_begin_1 rfl 1 rfl ?_
  refine wa_putR B (C := RX8) (T := TX8) (N := 11) iq_X8_begin_X8 ha0 ka0 (by decide) rfl 7 (by decide) (by decide) (by decide +kernel) rfl (fun _ _ _ => rfl) (v := a1) (ty := (.object "ClayAccounts$Text")) tyX8 tyX8_ok nmX8 rfl (by decide +kernel) rfl rfl dX8_begin_2 (fun q_1 eq_1 => ?_)
  have hV_q_1 : sx_V h L q_1 := by rw [eq_1]; exact hV.pR (by rw [ka0]; decide) (fun _ => ⟨ha1, by rw [ka1, ka0]; rfl, fun z => by rw [ka0] at z; exact absurd rfl z⟩)
  have hF_q_1 : sx_fr h L (fun a => a = a0 ∧ h.1 a = 8) q q_1 := hF.tr (by rw [eq_1]; exact sx_fr.pR (show (a0 = a0 ∧ h.1 a0 = 8) ∧ (h.1 a0 = 8 ∨ h.1 a0 = 11) from ⟨⟨rfl, ka0⟩, Or.inl ka0⟩))
  have z_2 : q_1.2.2.1 a0 7 = a1 := by rw [eq_1]; exact sg_pR_e
  refine wa_aload_n B dX8_begin_5 rfl 0 rfl ?_
  refine wa_iload_n B dX8_begin_6 rfl 2 rfl ?_
  refine wa_putI B (C := RX8) (T := TX8) (N := 11) iq_X8_begin_X8 ha0 ka0 (by decide) rfl 8 (by decide) (by decide) (by decide +kernel) rfl (by decide) (v := n1) (ty := .int) tyX8 tyX8_ok nmX8 rfl (by decide +kernel) rfl rfl dX8_begin_7 (fun q_3 eq_3 => ?_)
  have hV_q_3 : sx_V h L q_3 := by rw [eq_3]; exact hV_q_1.pI ka0 trivial
  have hF_q_3 : sx_fr h L (fun a => a = a0 ∧ h.1 a = 8) q q_3 := hF_q_1.tr (by rw [eq_3]; exact sx_fr.pI (show a0 = a0 ∧ h.1 a0 = 8 from ⟨rfl, ka0⟩))
  have z_4 : q_3.1 a0 8 = n1 := by rw [eq_3]; exact sg_pI_e
  refine wa_aload_n B dX8_begin_10 rfl 0 rfl ?_
  refine wa_iload_n B dX8_begin_11 rfl 3 rfl ?_
  refine wa_putI B (C := RX8) (T := TX8) (N := 11) iq_X8_begin_X8 ha0 ka0 (by decide) rfl 9 (by decide) (by decide) (by decide +kernel) rfl (by decide) (v := n2) (ty := .boolean) tyX8 tyX8_ok nmX8 rfl (by decide +kernel) (by rcases zx_01 (show n2.toInt = 0 ∨ n2.toInt = 1 by omega) with z | z <;> rw [z] <;> rfl) (by rcases zx_01 (show n2.toInt = 0 ∨ n2.toInt = 1 by omega) with z | z <;> rw [z] <;> rfl) dX8_begin_12 (fun q_5 eq_5 => ?_)
  have hV_q_5 : sx_V h L q_5 := by rw [eq_5]; exact hV_q_3.pI ka0 trivial
  have hF_q_5 : sx_fr h L (fun a => a = a0 ∧ h.1 a = 8) q q_5 := hF_q_3.tr (by rw [eq_5]; exact sx_fr.pI (show a0 = a0 ∧ h.1 a0 = 8 from ⟨rfl, ka0⟩))
  have z_6 : q_5.1 a0 9 = n2 := by rw [eq_5]; exact sg_pI_e
  refine wa_aload_n B dX8_begin_15 rfl 0 rfl ?_
  refine wa_iconst B 0 dX8_begin_16 (by decide) ?_
  refine wa_putI B (C := RX8) (T := TX8) (N := 11) iq_X8_begin_X8 ha0 ka0 (by decide) rfl 10 (by decide) (by decide) (by decide +kernel) rfl (by decide) (v := 0) (ty := .int) tyX8 tyX8_ok nmX8 rfl (by decide +kernel) rfl rfl dX8_begin_17 (fun q_7 eq_7 => ?_)
  have hV_q_7 : sx_V h L q_7 := by rw [eq_7]; exact hV_q_5.pI ka0 trivial
  have hF_q_7 : sx_fr h L (fun a => a = a0 ∧ h.1 a = 8) q q_7 := hF_q_5.tr (by rw [eq_7]; exact sx_fr.pI (show a0 = a0 ∧ h.1 a0 = 8 from ⟨rfl, ka0⟩))
  have z_8 : q_7.1 a0 10 = 0 := by rw [eq_7]; exact sg_pI_e
  refine wa_aload_n B dX8_begin_20 rfl 0 rfl ?_
  refine wa_iconst B 0 dX8_begin_21 (by decide) ?_
  refine wa_putI B (C := RX8) (T := TX8) (N := 11) iq_X8_begin_X8 ha0 ka0 (by decide) rfl 5 (by decide) (by decide) (by decide +kernel) rfl (by decide) (v := 0) (ty := .int) tyX8 tyX8_ok nmX8 rfl (by decide +kernel) rfl rfl dX8_begin_22 (fun q_9 eq_9 => ?_)
  have hV_q_9 : sx_V h L q_9 := by rw [eq_9]; exact hV_q_7.pI ka0 trivial
  have hF_q_9 : sx_fr h L (fun a => a = a0 ∧ h.1 a = 8) q q_9 := hF_q_7.tr (by rw [eq_9]; exact sx_fr.pI (show a0 = a0 ∧ h.1 a0 = 8 from ⟨rfl, ka0⟩))
  have z_10 : q_9.1 a0 5 = 0 := by rw [eq_9]; exact sg_pI_e
  refine wa_aload_n B dX8_begin_25 rfl 0 rfl ?_
  refine wa_iconst B 0 dX8_begin_26 (by decide) ?_
  refine wa_putI B (C := RX8) (T := TX8) (N := 11) iq_X8_begin_X8 ha0 ka0 (by decide) rfl 6 (by decide) (by decide) (by decide +kernel) rfl (by decide) (v := 0) (ty := .int) tyX8 tyX8_ok nmX8 rfl (by decide +kernel) rfl rfl dX8_begin_27 (fun q_11 eq_11 => ?_)
  have hV_q_11 : sx_V h L q_11 := by rw [eq_11]; exact hV_q_9.pI ka0 trivial
  have hF_q_11 : sx_fr h L (fun a => a = a0 ∧ h.1 a = 8) q q_11 := hF_q_9.tr (by rw [eq_11]; exact sx_fr.pI (show a0 = a0 ∧ h.1 a0 = 8 from ⟨rfl, ka0⟩))
  have z_12 : q_11.1 a0 6 = 0 := by rw [eq_11]; exact sg_pI_e
  have z_13 : q_11.1 a0 10 = 0 := ((show q_11.1 a0 10 = q_9.1 a0 10 from by rw [eq_11]; exact sg_pI_k (by decide))).trans (((show q_9.1 a0 10 = q_7.1 a0 10 from by rw [eq_9]; exact sg_pI_k (by decide))).trans (z_8))
  have y_14 : (q_11.1 a0 10).toInt = 0 := by rw [z_13]; rfl
  have z_15 : q_11.1 a0 8 = n1 := ((show q_11.1 a0 8 = q_9.1 a0 8 from by rw [eq_11]; exact sg_pI_k (by decide))).trans (((show q_9.1 a0 8 = q_7.1 a0 8 from by rw [eq_9]; exact sg_pI_k (by decide))).trans (((show q_7.1 a0 8 = q_5.1 a0 8 from by rw [eq_7]; exact sg_pI_k (by decide))).trans (((show q_5.1 a0 8 = q_3.1 a0 8 from by rw [eq_5]; exact sg_pI_k (by decide))).trans (z_4))))
  have y_16 : (q_11.1 a0 8).toInt = n1.toInt := by rw [z_15]
  have z_17 : q_11.1 a0 9 = n2 := ((show q_11.1 a0 9 = q_9.1 a0 9 from by rw [eq_11]; exact sg_pI_k (by decide))).trans (((show q_9.1 a0 9 = q_7.1 a0 9 from by rw [eq_9]; exact sg_pI_k (by decide))).trans (((show q_7.1 a0 9 = q_5.1 a0 9 from by rw [eq_7]; exact sg_pI_k (by decide))).trans (z_6)))
  have y_18 : (q_11.1 a0 9).toInt = n2.toInt := by rw [z_17]
  have z_19 : q_11.2.2.1 a0 7 = a1 := ((show q_11.2.2.1 a0 7 = q_9.2.2.1 a0 7 from by rw [eq_11]; rfl)).trans (((show q_9.2.2.1 a0 7 = q_7.2.2.1 a0 7 from by rw [eq_9]; rfl)).trans (((show q_7.2.2.1 a0 7 = q_5.2.2.1 a0 7 from by rw [eq_7]; rfl)).trans (((show q_5.2.2.1 a0 7 = q_3.2.2.1 a0 7 from by rw [eq_5]; rfl)).trans (((show q_3.2.2.1 a0 7 = q_1.2.2.1 a0 7 from by rw [eq_3]; rfl)).trans (z_2)))))
  exact hret _ _ _ dX8_begin_30 ⟨hV_q_11, hF_q_11, ⟨z_19, by omega, by omega, by omega⟩⟩
