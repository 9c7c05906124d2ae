set_option maxHeartbeats 4000000 in
set_option maxRecDepth 100000 in
theorem k_X12_bad_c (l : Launch) (dC : Nat → ClassId) (dI : Nat → Nat → Nat) (h : Sh) (L : List Nat) (hN : sx_nd L) (q : Sg) (hV : sx_V h L q) {a0 : Nat} (ha0 : a0 ∈ L) (ka0 : h.1 a0 = 12) (n1 : Int32)    : CMi l dC dI h L yX12_bad wsX12_bad ({ frames := 0, cells := 0, slots := 0, locals := 0 } : Room) q [.ref a0, .int n1] (fun r q' => sx_V h L q' ∧ sx_fr h L (fun a => h.1 a = 12) q q' ∧ sx_kf a0 [14, 15] q q' ∧ (r.toInt = 0 ∧ (q'.1 a0 15).toInt = (q.1 a0 7).toInt)) := by
  refine cm_z (cc := cX12_bad) (mL := 2) (own := RX12) hN (by decide) rfl rfl (Nat.le_of_ble_eq_true rfl) (fun Z B hret => ?_)
  have hF : sx_fr h L (fun a => h.1 a = 12) q q := sx_fr.rf
  have hK : sx_kf a0 [14, 15] q q := sx_kf.rf
  show WA l dC dI h L ({ frames := 0, cells := 0, slots := 0, locals := 0 } : Room) 2 Z q 0 [(0, .ref a0), (1, .int n1)] []
  refine wa_aload_n B dX12_bad_0 rfl 0 rfl ?_
  refine wa_aload_n B dX12_bad_1 rfl 0 rfl ?_
  refine wa_getI B (C := RX12) (T := TX12) (N := 51) iq_X12_bad_X12 ha0 ka0 (by decide) rfl 8 (by decide) (by decide) (by decide +kernel) rfl (by decide) (v := (q.1 a0 8)) rfl dX12_bad_2 ?_
  refine wa_iconst B 1 dX12_bad_5 (by decide) ?_
  refine wa_icmp_ne B 13 dX12_bad_6 (by decide) (fun (t_1 : ¬ (q.1 a0 8).toInt = 1) => ?_) (fun (t_1 : (q.1 a0 8).toInt = 1) => ?_)
  · refine wa_iload_n B dX12_bad_13 rfl 1 rfl ?_
    refine wa_putI B (C := RX12) (T := TX12) (N := 51) iq_X12_bad_X12 ha0 ka0 (by decide) rfl 14 (by decide) (by decide) (by decide +kernel) rfl (by decide) (v := n1) (ty := .int) tyX12 tyX12_ok nmX12 rfl (by decide +kernel) rfl rfl dX12_bad_14 (fun q_2 eq_2 => ?_)
    have hV_q_2 : sx_V h L q_2 := by rw [eq_2]; exact hV.pI ka0 trivial
    have hF_q_2 : sx_fr h L (fun a => h.1 a = 12) q q_2 := hF.tr (by rw [eq_2]; exact sx_fr.pI (show h.1 a0 = 12 from ka0))
    have z_3 : q_2.1 a0 14 = n1 := by rw [eq_2]; exact sg_pI_e
    have hK_q_2 : sx_kf a0 [14, 15] q q_2 := hK.tr (by rw [eq_2]; exact sx_kf.pI (by decide))
    refine wa_aload_n B dX12_bad_17 rfl 0 rfl ?_
    refine wa_aload_n B dX12_bad_18 rfl 0 rfl ?_
    have z_4 : q_2.1 a0 7 = q.1 a0 7 := (show q_2.1 a0 7 = q.1 a0 7 from by rw [eq_2]; exact sg_pI_k (by decide))
    refine wa_getI B (C := RX12) (T := TX12) (N := 51) iq_X12_bad_X12 ha0 ka0 (by decide) rfl 7 (by decide) (by decide) (by decide +kernel) rfl (by decide) (v := (q.1 a0 7)) z_4 dX12_bad_19 ?_
    have g_5 : (0 : Int) ≤ (q.1 a0 7).toInt ∧ (q.1 a0 7).toInt ≤ 500 := by rw [← z_4]; exact hV_q_2.int ha0 ka0 7
    refine wa_putI B (C := RX12) (T := TX12) (N := 51) iq_X12_bad_X12 ha0 ka0 (by decide) rfl 15 (by decide) (by decide) (by decide +kernel) rfl (by decide) (v := (q.1 a0 7)) (ty := .int) tyX12 tyX12_ok nmX12 rfl (by decide +kernel) rfl rfl dX12_bad_22 (fun q_6 eq_6 => ?_)
    have hV_q_6 : sx_V h L q_6 := by rw [eq_6]; exact hV_q_2.pI ka0 trivial
    have hF_q_6 : sx_fr h L (fun a => h.1 a = 12) q q_6 := hF_q_2.tr (by rw [eq_6]; exact sx_fr.pI (show h.1 a0 = 12 from ka0))
    have z_7 : q_6.1 a0 15 = (q.1 a0 7) := by rw [eq_6]; exact sg_pI_e
    have hK_q_6 : sx_kf a0 [14, 15] q q_6 := hK_q_2.tr (by rw [eq_6]; exact sx_kf.pI (by decide))
    refine wa_iconst B 0 dX12_bad_25 (by decide) ?_
    have y_8 : (q_6.1 a0 15).toInt = (q.1 a0 7).toInt := by rw [z_7]
    exact hret _ _ _ _ dX12_bad_26 (Or.inl rfl) ⟨hV_q_6, hF_q_6, hK_q_6, (by have h9 : (0 : Int32).toInt = 0 := rfl; first | omega | (refine ⟨?_, ?_⟩ <;> omega) | trivial)⟩
  · refine wa_iconst B 1 dX12_bad_9 (by decide) ?_
    refine wa_goto B 14 dX12_bad_10 (by decide) ?_
    refine wa_putI B (C := RX12) (T := TX12) (N := 51) iq_X12_bad_X12 ha0 ka0 (by decide) rfl 14 (by decide) (by decide) (by decide +kernel) rfl (by decide) (v := 1) (ty := .int) tyX12 tyX12_ok nmX12 rfl (by decide +kernel) rfl rfl dX12_bad_14 (fun q_9 eq_9 => ?_)
    have hV_q_9 : sx_V h L q_9 := by rw [eq_9]; exact hV.pI ka0 trivial
    have hF_q_9 : sx_fr h L (fun a => h.1 a = 12) q q_9 := hF.tr (by rw [eq_9]; exact sx_fr.pI (show h.1 a0 = 12 from ka0))
    have z_10 : q_9.1 a0 14 = 1 := by rw [eq_9]; exact sg_pI_e
    have hK_q_9 : sx_kf a0 [14, 15] q q_9 := hK.tr (by rw [eq_9]; exact sx_kf.pI (by decide))
    refine wa_aload_n B dX12_bad_17 rfl 0 rfl ?_
    refine wa_aload_n B dX12_bad_18 rfl 0 rfl ?_
    have z_11 : q_9.1 a0 7 = q.1 a0 7 := (show q_9.1 a0 7 = q.1 a0 7 from by rw [eq_9]; exact sg_pI_k (by decide))
    refine wa_getI B (C := RX12) (T := TX12) (N := 51) iq_X12_bad_X12 ha0 ka0 (by decide) rfl 7 (by decide) (by decide) (by decide +kernel) rfl (by decide) (v := (q.1 a0 7)) z_11 dX12_bad_19 ?_
    have g_12 : (0 : Int) ≤ (q.1 a0 7).toInt ∧ (q.1 a0 7).toInt ≤ 500 := by rw [← z_11]; exact hV_q_9.int ha0 ka0 7
    refine wa_putI B (C := RX12) (T := TX12) (N := 51) iq_X12_bad_X12 ha0 ka0 (by decide) rfl 15 (by decide) (by decide) (by decide +kernel) rfl (by decide) (v := (q.1 a0 7)) (ty := .int) tyX12 tyX12_ok nmX12 rfl (by decide +kernel) rfl rfl dX12_bad_22 (fun q_13 eq_13 => ?_)
    have hV_q_13 : sx_V h L q_13 := by rw [eq_13]; exact hV_q_9.pI ka0 trivial
    have hF_q_13 : sx_fr h L (fun a => h.1 a = 12) q q_13 := hF_q_9.tr (by rw [eq_13]; exact sx_fr.pI (show h.1 a0 = 12 from ka0))
    have z_14 : q_13.1 a0 15 = (q.1 a0 7) := by rw [eq_13]; exact sg_pI_e
    have hK_q_13 : sx_kf a0 [14, 15] q q_13 := hK_q_9.tr (by rw [eq_13]; exact sx_kf.pI (by decide))
    refine wa_iconst B 0 dX12_bad_25 (by decide) ?_
    have y_15 : (q_13.1 a0 15).toInt = (q.1 a0 7).toInt := by rw [z_14]
    exact hret _ _ _ _ dX12_bad_26 (Or.inl rfl) ⟨hV_q_13, hF_q_13, hK_q_13, (by have h9 : (0 : Int32).toInt = 0 := rfl; first | omega | (refine ⟨?_, ?_⟩ <;> omega) | trivial)⟩
def r27_row (SN UN : Nat → Int64) (UC : Nat → Int32) (s : Nat) (x : Int64) : Prop := SN (3 + s) = x ∨ ∃ u : Nat, (u : Int) < (UC (3 + s)).toInt ∧ UN (5 * (3 + s) + u) = x
