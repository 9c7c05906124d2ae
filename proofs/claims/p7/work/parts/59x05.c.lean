set_option maxHeartbeats 4000000 in
set_option maxRecDepth 100000 in
theorem k_X12_octet_c (l : Launch) (dC : Nat → ClassId) (dI : Nat → Nat → Nat) (h : Sh) (L : List Nat) (hN : sx_nd L) (q : Sg) (hV : sx_V h L q) {a0 : Nat} (ha0 : a0 ∈ L) (ka0 : h.1 a0 = 12) (n1 : Int32) {m21 : Nat} (em21 : q.2.2.1 a0 21 = m21)    : CMi l dC dI h L yX12_octet wsX12_octet ({ frames := 1, cells := 0, slots := 0, locals := 20 } : Room) q [.ref a0, .int n1] (fun r q' => sx_V h L q' ∧ sx_fr h L (fun a => h.1 a = 12) q q' ∧ sx_kf a0 [0] q q' ∧ (((0 ≤ n1.toInt ∧ n1.toInt < (q.1 a0 22).toInt) ∧ (q'.1 a0 0).toInt = 0 ∧ r = q.2.2.2.1 m21 n1.toNatClampNeg ∨ ¬ (0 ≤ n1.toInt ∧ n1.toInt < (q.1 a0 22).toInt) ∧ (q'.1 a0 0).toInt = 1) ∧ q'.2.2.2.2 = q.2.2.2.2)) := by
  refine cm_i (cc := cX12_octet) (mL := 2) (own := RX12) hN (by decide) rfl rfl (Nat.le_of_ble_eq_true rfl) (fun Z B hret => ?_)
  have hF : sx_fr h L (fun a => h.1 a = 12) q q := sx_fr.rf
  have hK : sx_kf a0 [0] q q := sx_kf.rf
  obtain ⟨hm21, km21, lm21⟩ : m21 ∈ L ∧ h.1 m21 = 131 ∧ h.2.1 m21 = 80 := by obtain ⟨r9, e9, z1, z2, z3⟩ := hV.refn (t := 131) (n := 80) ha0 ka0 21 rfl (by decide) rfl (by decide); rw [← em21, e9]; exact ⟨z1, z2, z3⟩
  show WA l dC dI h L ({ frames := 1, cells := 0, slots := 0, locals := 20 } : Room) 2 Z q 0 [(0, .ref a0), (1, .int n1)] []
  refine wa_iload_n B dX12_octet_0 rfl 1 rfl ?_
  refine wa_if_lt B 12 dX12_octet_1 (by decide) (fun (t_1 : n1.toInt < 0) => ?_) (fun (t_1 : ¬ n1.toInt < 0) => ?_)
  · refine wa_aload_n B dX12_octet_12 rfl 0 rfl ?_
    refine wa_callVi B (x := (RX12, TX12, 51)) (As := []) (rest := []) (k_X12_refuse_c l dC dI h L hN q hV (a0 := a0) ha0 ka0  ) (cwV 0 B.1.2.2.2.2 gX12_octet_X12_refuse rfl rfl rfl (by decide +kernel) ⟨Nat.le_of_ble_eq_true rfl, Nat.le_of_ble_eq_true rfl⟩) ha0 ka0 (by decide) rfl rfl rfl (Nat.le_of_ble_eq_true rfl) dX12_octet_13 (fun r_3 q_2 w_4 => ?_)
    obtain ⟨hV_q_2, h2_q_2, h3_q_2, hw_4⟩ := w_4
    have hF_q_2 : sx_fr h L (fun a => h.1 a = 12) q q_2 := hF.tr (h2_q_2.mono (fun a (z : h.1 a = 12) => ((fun z => z) z)))
    have hK_q_2 : sx_kf a0 [0] q q_2 := hK.tr (h3_q_2.mono (by decide))
    have z_5 : q_2.1 a0 22 = q.1 a0 22 := h3_q_2.1 22 (by decide)
    have y_6 : (q_2.1 a0 22).toInt = (q.1 a0 22).toInt := by rw [z_5]
    exact hret _ _ _ _ dX12_octet_16 ⟨hV_q_2, hF_q_2, hK_q_2, ⟨Or.inr ⟨by omega, by rw [hw_4.2.1]; rfl⟩, (show q_2.2.2.2.2 = q.2.2.2.2 from hw_4.2.2)⟩⟩
  · refine wa_iload_n B dX12_octet_4 rfl 1 rfl ?_
    refine wa_aload_n B dX12_octet_5 rfl 0 rfl ?_
    refine wa_getI B (C := RX12) (T := TX12) (N := 51) iq_X12_octet_X12 ha0 ka0 (by decide) rfl 22 (by decide) (by decide) (by decide +kernel) rfl (by decide) (v := (q.1 a0 22)) rfl dX12_octet_6 ?_
    have g_7 : (0 : Int) ≤ (q.1 a0 22).toInt ∧ (q.1 a0 22).toInt ≤ 80 := hV.int ha0 ka0 22
    refine wa_icmp_lt B 17 dX12_octet_9 (by decide) (fun (t_8 : n1.toInt < (q.1 a0 22).toInt) => ?_) (fun (t_8 : ¬ n1.toInt < (q.1 a0 22).toInt) => ?_)
    · refine wa_aload_n B dX12_octet_17 rfl 0 rfl ?_
      refine wa_iconst B 0 dX12_octet_18 (by decide) ?_
      refine wa_putI B (C := RX12) (T := TX12) (N := 51) iq_X12_octet_X12 ha0 ka0 (by decide) rfl 0 (by decide) (by decide) (by decide +kernel) rfl (by decide) (v := 0) (ty := .int) tyX12 tyX12_ok nmX12 rfl (by decide +kernel) rfl rfl dX12_octet_19 (fun q_9 eq_9 => ?_)
      have hV_q_9 : sx_V h L q_9 := by rw [eq_9]; exact hV.pI ka0 trivial
      have hF_q_9 : sx_fr h L (fun a => h.1 a = 12) q q_9 := hF.tr (by rw [eq_9]; exact sx_fr.pI (show h.1 a0 = 12 from ka0))
      have z_10 : q_9.1 a0 0 = 0 := by rw [eq_9]; exact sg_pI_e
      have hK_q_9 : sx_kf a0 [0] q q_9 := hK.tr (by rw [eq_9]; exact sx_kf.pI (by decide))
      refine wa_aload_n B dX12_octet_22 rfl 0 rfl ?_
      have z_11 : q_9.2.2.1 a0 21 = m21 := ((show q_9.2.2.1 a0 21 = q.2.2.1 a0 21 from by rw [eq_9]; rfl)).trans (em21)
      refine wa_getR B (C := RX12) (T := TX12) (N := 51) iq_X12_octet_X12 ha0 ka0 (by decide) rfl 21 (by decide) (by decide) (by decide +kernel) rfl (fun _ _ _ => rfl) (v := m21) z_11 dX12_octet_23 ?_
      refine wa_iload_n B dX12_octet_26 rfl 1 rfl ?_
      have z_12 : q_9.2.2.2.1 m21 = q.2.2.2.1 m21 := (show q_9.2.2.2.1 m21 = q.2.2.2.1 m21 from by rw [eq_9]; rfl)
      have z_13 : q_9.2.2.2.1 m21 (n1 : Int32).toNatClampNeg = (q.2.2.2.1 m21 (n1 : Int32).toNatClampNeg) := congrFun z_12 _
      refine wa_iaload B hm21 km21 (by decide) (by decide) (show 0 ≤ n1.toInt by omega) (show n1.toInt < (h.2.1 m21 : Int) by omega) (v := (q.2.2.2.1 m21 (n1 : Int32).toNatClampNeg)) z_13 dX12_octet_27 ?_
      have y_14 : (q_9.1 a0 0).toInt = 0 := by rw [z_10]; rfl
      have y_15 : (q_9.1 a0 0).toInt = 0 := by rw [z_10]; rfl
      have z_16 : q_9.1 a0 22 = q.1 a0 22 := (show q_9.1 a0 22 = q.1 a0 22 from by rw [eq_9]; exact sg_pI_k (by decide))
      have y_17 : (q_9.1 a0 22).toInt = (q.1 a0 22).toInt := by rw [z_16]
      exact hret _ _ _ _ dX12_octet_28 ⟨hV_q_9, hF_q_9, hK_q_9, ⟨Or.inl ⟨by omega, by omega, rfl⟩, (show q_9.2.2.2.2 = q.2.2.2.2 from by rw [eq_9]; rfl)⟩⟩
    · refine wa_aload_n B dX12_octet_12 rfl 0 rfl ?_
      refine wa_callVi B (x := (RX12, TX12, 51)) (As := []) (rest := []) (k_X12_refuse_c l dC dI h L hN q hV (a0 := a0) ha0 ka0  ) (cwV 0 B.1.2.2.2.2 gX12_octet_X12_refuse rfl rfl rfl (by decide +kernel) ⟨Nat.le_of_ble_eq_true rfl, Nat.le_of_ble_eq_true rfl⟩) ha0 ka0 (by decide) rfl rfl rfl (Nat.le_of_ble_eq_true rfl) dX12_octet_13 (fun r_19 q_18 w_20 => ?_)
      obtain ⟨hV_q_18, h2_q_18, h3_q_18, hw_20⟩ := w_20
      have hF_q_18 : sx_fr h L (fun a => h.1 a = 12) q q_18 := hF.tr (h2_q_18.mono (fun a (z : h.1 a = 12) => ((fun z => z) z)))
      have hK_q_18 : sx_kf a0 [0] q q_18 := hK.tr (h3_q_18.mono (by decide))
      have z_21 : q_18.1 a0 22 = q.1 a0 22 := h3_q_18.1 22 (by decide)
      have y_22 : (q_18.1 a0 22).toInt = (q.1 a0 22).toInt := by rw [z_21]
      exact hret _ _ _ _ dX12_octet_16 ⟨hV_q_18, hF_q_18, hK_q_18, ⟨Or.inr ⟨by omega, by rw [hw_20.2.1]; rfl⟩, (show q_18.2.2.2.2 = q.2.2.2.2 from hw_20.2.2)⟩⟩
