set_option maxHeartbeats 4000000 in
set_option maxRecDepth 100000 in
theorem k_X12_outByte_c (l : Launch) (dC : Nat → ClassId) (dI : Nat → Nat → Nat) (h : Sh) (L : List Nat) (hN : sx_nd L) (q : Sg) (hV : sx_V h L q) {a0 : Nat} (ha0 : a0 ∈ L) (ka0 : h.1 a0 = 12) (n1 : Int32) {m21 : Nat} (em21 : q.2.2.1 a0 21 = m21)   (hy0 : (q.1 a0 22).toInt ≤ 79) : CMv l dC dI h L yX12_outByte wsX12_outByte ({ frames := 0, cells := 0, slots := 0, locals := 0 } : Room) q [.ref a0, .int n1] (fun q' => sx_V h L q' ∧ sx_fr h L (fun a => h.1 a = 12 ∨ h.1 a = 131) q q' ∧ sx_kf a0 [22] q q' ∧ ((q'.1 a0 22).toInt = (q.1 a0 22).toInt + 1 ∧ q'.2.2.2.1 m21 = upd (q.2.2.2.1 m21) (q.1 a0 22).toNatClampNeg n1)) := by
  refine cm_v (cc := cX12_outByte) (mL := 2) (own := RX12) hN (by decide) rfl rfl (Nat.le_of_ble_eq_true rfl) (fun Z B hret => ?_)
  have hF : sx_fr h L (fun a => h.1 a = 12 ∨ h.1 a = 131) q q := sx_fr.rf
  have hK : sx_kf a0 [22] q q := sx_kf.rf
  obtain ⟨hm21, km21, lm21⟩ : m21 ∈ L ∧ h.1 m21 = 131 ∧ h.2.1 m21 = 80 := by obtain ⟨r9, e9, z1, z2, z3⟩ := hV.refn (t := 131) (n := 80) ha0 ka0 21 rfl (by decide) rfl (by decide); rw [← em21, e9]; exact ⟨z1, z2, z3⟩
  show WA l dC dI h L ({ frames := 0, cells := 0, slots := 0, locals := 0 } : Room) 2 Z q 0 [(0, .ref a0), (1, .int n1)] []
  refine wa_aload_n B dX12_outByte_0 rfl 0 rfl ?_
  refine wa_getR B (C := RX12) (T := TX12) (N := 51) iq_X12_outByte_X12 ha0 ka0 (by decide) rfl 21 (by decide) (by decide) (by decide +kernel) rfl (fun _ _ _ => rfl) (v := m21) em21 dX12_outByte_1 ?_
  refine wa_aload_n B dX12_outByte_4 rfl 0 rfl ?_
  refine wa_getI B (C := RX12) (T := TX12) (N := 51) iq_X12_outByte_X12 ha0 ka0 (by decide) rfl 22 (by decide) (by decide) (by decide +kernel) rfl (by decide) (v := (q.1 a0 22)) rfl dX12_outByte_5 ?_
  have g_1 : (0 : Int) ≤ (q.1 a0 22).toInt ∧ (q.1 a0 22).toInt ≤ 80 := hV.int ha0 ka0 22
  refine wa_iload_n B dX12_outByte_8 rfl 1 rfl ?_
  refine wa_iastore B hm21 km21 (by decide) (by decide) (show 0 ≤ (q.1 a0 22).toInt by omega) (show (q.1 a0 22).toInt < (h.2.1 m21 : Int) by omega) dX12_outByte_9 (fun q_2 eq_2 => ?_)
  have hV_q_2 : sx_V h L q_2 := by rw [eq_2]; exact hV.up1 hm21 km21 trivial
  have hF_q_2 : sx_fr h L (fun a => h.1 a = 12 ∨ h.1 a = 131) q q_2 := hF.tr (by rw [eq_2]; exact sx_fr.pG (show h.1 m21 = 100 ∨ (h.1 m21 = 12 ∨ h.1 m21 = 131) from Or.inr (Or.inr km21)))
  have z_3 : q_2.2.2.2.1 m21 = (upd (q.2.2.2.1 m21) ((q.1 a0 22) : Int32).toNatClampNeg n1) := by rw [eq_2, sg_pG_e]
  have z_4 : q_2.2.2.2.1 m21 ((q.1 a0 22) : Int32).toNatClampNeg = n1 := by rw [eq_2, sg_pG_e]; exact if_pos rfl
  have hK_q_2 : sx_kf a0 [22] q q_2 := hK.tr (sx_kf.eq (by rw [eq_2]; rfl) (by rw [eq_2]; rfl))
  refine wa_aload_n B dX12_outByte_10 rfl 0 rfl ?_
  refine wa_dup B dX12_outByte_11 rfl ?_
  have z_5 : q_2.1 a0 22 = q.1 a0 22 := (show q_2.1 a0 22 = q.1 a0 22 from by rw [eq_2]; rfl)
  refine wa_getI B (C := RX12) (T := TX12) (N := 51) iq_X12_outByte_X12 ha0 ka0 (by decide) rfl 22 (by decide) (by decide) (by decide +kernel) rfl (by decide) (v := (q.1 a0 22)) z_5 dX12_outByte_12 ?_
  refine wa_iconst B 1 dX12_outByte_15 (by decide) ?_
  refine wa_iadd B dX12_outByte_16 (fun v_6 ev_6 => ?_)
  have tv_6 : v_6.toInt = (q.1 a0 22).toInt + 1 := by have b0 := zx_bd (q.1 a0 22); rw [ev_6]; exact zx_add (show (-2147483648 : Int) ≤ (q.1 a0 22).toInt + 1 by omega) (show (q.1 a0 22).toInt + 1 < (2147483648 : Int) by omega)
  refine wa_putI B (C := RX12) (T := TX12) (N := 51) iq_X12_outByte_X12 ha0 ka0 (by decide) rfl 22 (by decide) (by decide) (by decide +kernel) rfl (by decide) (v := v_6) (ty := .int) tyX12 tyX12_ok nmX12 rfl (by decide +kernel) rfl rfl dX12_outByte_17 (fun q_7 eq_7 => ?_)
  have hV_q_7 : sx_V h L q_7 := by rw [eq_7]; exact hV_q_2.pI ka0 (show sx_in v_6 (0) 80 from ⟨by omega, by omega⟩)
  have hF_q_7 : sx_fr h L (fun a => h.1 a = 12 ∨ h.1 a = 131) q q_7 := hF_q_2.tr (by rw [eq_7]; exact sx_fr.pI (show h.1 a0 = 12 ∨ h.1 a0 = 131 from (Or.inl ka0)))
  have z_8 : q_7.1 a0 22 = v_6 := by rw [eq_7]; exact sg_pI_e
  have hK_q_7 : sx_kf a0 [22] q q_7 := hK_q_2.tr (by rw [eq_7]; exact sx_kf.pI (by decide))
  have y_9 : (q_7.1 a0 22).toInt = v_6.toInt := by rw [z_8]
  have z_10 : q_7.2.2.2.1 m21 = (upd (q.2.2.2.1 m21) ((q.1 a0 22) : Int32).toNatClampNeg n1) := ((show q_7.2.2.2.1 m21 = q_2.2.2.2.1 m21 from by rw [eq_7]; rfl)).trans (z_3)
  exact hret _ _ _ dX12_outByte_20 ⟨hV_q_7, hF_q_7, hK_q_7, ⟨by omega, z_10⟩⟩
