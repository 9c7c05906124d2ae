set_option maxHeartbeats 4000000 in
set_option maxRecDepth 100000 in
theorem k_X12_refuse_c (l : Launch) (dC : Nat → ClassId) (dI : Nat → Nat → Nat) (h : Sh) (L : List Nat) (hN : sx_nd L) (q : Sg) (hV : sx_V h L q) {a0 : Nat} (ha0 : a0 ∈ L) (ka0 : h.1 a0 = 12)    : CMi l dC dI h L yX12_refuse wsX12_refuse ({ frames := 0, cells := 0, slots := 0, locals := 0 } : Room) q [.ref a0] (fun r q' => sx_V h L q' ∧ sx_fr h L (fun a => h.1 a = 12) q q' ∧ sx_kf a0 [0] q q' ∧ (r.toInt = 0 ∧ q'.1 a0 0 = 1 ∧ q'.2.2.2.2 = q.2.2.2.2)) := by
  refine cm_i (cc := cX12_refuse) (mL := 1) (own := RX12) hN (by decide) rfl rfl (Nat.le_of_ble_eq_true rfl) (fun Z B hret => ?_)
  have hF : sx_fr h L (fun a => h.1 a = 12) q q := sx_fr.rf
  have hK : sx_kf a0 [0] q q := sx_kf.rf
  show WA l dC dI h L ({ frames := 0, cells := 0, slots := 0, locals := 0 } : Room) 1 Z q 0 [(0, .ref a0)] []
  refine wa_aload_n B dX12_refuse_0 rfl 0 rfl ?_
  refine wa_iconst B 1 dX12_refuse_1 (by decide) ?_
  refine wa_putI B (C := RX12) (T := TX12) (N := 51) iq_X12_refuse_X12 ha0 ka0 (by decide) rfl 0 (by decide) (by decide) (by decide +kernel) rfl (by decide) (v := 1) (ty := .int) tyX12 tyX12_ok nmX12 rfl (by decide +kernel) rfl rfl dX12_refuse_2 (fun q_1 eq_1 => ?_)
  have hV_q_1 : sx_V h L q_1 := by rw [eq_1]; exact hV.pI ka0 trivial
  have hF_q_1 : sx_fr h L (fun a => h.1 a = 12) q q_1 := hF.tr (by rw [eq_1]; exact sx_fr.pI (show h.1 a0 = 12 from ka0))
  have z_2 : q_1.1 a0 0 = 1 := by rw [eq_1]; exact sg_pI_e
  have hK_q_1 : sx_kf a0 [0] q q_1 := hK.tr (by rw [eq_1]; exact sx_kf.pI (by decide))
  refine wa_iconst B 0 dX12_refuse_5 (by decide) ?_
  have y_3 : (q_1.1 a0 0).toInt = 1 := by rw [z_2]; rfl
  exact hret _ _ _ _ dX12_refuse_6 ⟨hV_q_1, hF_q_1, hK_q_1, ⟨rfl, z_2, (show q_1.2.2.2.2 = q.2.2.2.2 from by rw [eq_1]; rfl)⟩⟩
