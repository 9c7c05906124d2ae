set_option maxHeartbeats 4000000 in
set_option maxRecDepth 100000 in
theorem k_X12_begins_c (l : Launch) (dC : Nat → ClassId) (dI : Nat → Nat → Nat) (h : Sh) (L : List Nat) (hN : sx_nd L) (q : Sg) (hV : sx_V h L q) {a0 : Nat} (ha0 : a0 ∈ L) (ka0 : h.1 a0 = 12) (n1 : Int32) (n2 : Int32) {m3 : Nat} (em3 : q.2.2.1 a0 3 = m3)  (F : Nat → Int32) (n9 : Nat) (hy0 : n1.toInt = 400) (hy1 : n2.toInt = 0) (hn9 : (n9 : Int) = (q.1 a0 4).toInt) (hFF : ∀ j : Nat, j < n9 → q.2.2.2.1 m3 j = F j) : CMv l dC dI h L yX12_begins wsX12_begins ({ frames := 3, cells := 0, slots := 0, locals := 65 } : Room) q [.ref a0, .int n1, .int n2] (fun q' => sx_V h L q' ∧ sx_fr h L (fun a => h.1 a = 12) q q' ∧ sx_kf a0 [5, 10, 6, 7, 8, 9, 11, 12, 13] q q' ∧ mv_N a0 q' ∧ ((q'.1 a0 4).toInt = (q.1 a0 4).toInt ∧ (q'.1 a0 5).toInt = 400 ∧ (q'.1 a0 10).toInt = 0 ∧ (q'.1 a0 6).toInt ≤ (q'.1 a0 4).toInt ∧ pz_R F n9 0 (q'.1 a0 8) (q'.1 a0 9) (q'.1 a0 7) (q'.1 a0 6) (q'.1 a0 12) (q'.1 a0 13) (q'.2.1 a0 11))) := by
  refine cm_v (cc := cX12_begins) (mL := 3) (own := RX12) hN (by decide) rfl rfl (Nat.le_of_ble_eq_true rfl) (fun Z B hret => ?_)
  have hF : sx_fr h L (fun a => h.1 a = 12) q q := sx_fr.rf
  have hK : sx_kf a0 [5, 10, 6, 7, 8, 9, 11, 12, 13] q q := sx_kf.rf
  obtain ⟨hm3, km3, lm3⟩ : m3 ∈ L ∧ h.1 m3 = 113 ∧ h.2.1 m3 = 500 := by obtain ⟨r9, e9, z1, z2, z3⟩ := hV.refn (t := 113) (n := 500) ha0 ka0 3 rfl (by decide) rfl (by decide); rw [← em3, e9]; exact ⟨z1, z2, z3⟩
  show WA l dC dI h L ({ frames := 3, cells := 0, slots := 0, locals := 65 } : Room) 3 Z q 0 [(0, .ref a0), (1, .int n1), (2, .int n2)] []
  refine wa_aload_n B dX12_begins_0 rfl 0 rfl ?_
  refine wa_iload_n B dX12_begins_1 rfl 1 rfl ?_
  refine wa_putI B (C := RX12) (T := TX12) (N := 51) iq_X12_begins_X12 ha0 ka0 (by decide) rfl 5 (by decide) (by decide) (by decide +kernel) rfl (by decide) (v := n1) (ty := .int) tyX12 tyX12_ok nmX12 rfl (by decide +kernel) rfl rfl dX12_begins_2 (fun q_1 eq_1 => ?_)
  have hV_q_1 : sx_V h L q_1 := by rw [eq_1]; exact hV.pI ka0 (show sx_in n1 (0) 500 from ⟨by omega, by omega⟩)
  have hF_q_1 : sx_fr h L (fun a => h.1 a = 12) q q_1 := hF.tr (by rw [eq_1]; exact sx_fr.pI (show h.1 a0 = 12 from ka0))
  have z_2 : q_1.1 a0 5 = n1 := by rw [eq_1]; exact sg_pI_e
  have hK_q_1 : sx_kf a0 [5, 10, 6, 7, 8, 9, 11, 12, 13] q q_1 := hK.tr (by rw [eq_1]; exact sx_kf.pI (by decide))
  refine wa_aload_n B dX12_begins_5 rfl 0 rfl ?_
  refine wa_iload_n B dX12_begins_6 rfl 2 rfl ?_
  refine wa_putI B (C := RX12) (T := TX12) (N := 51) iq_X12_begins_X12 ha0 ka0 (by decide) rfl 10 (by decide) (by decide) (by decide +kernel) rfl (by decide) (v := n2) (ty := .boolean) tyX12 tyX12_ok nmX12 rfl (by decide +kernel) (by rcases zx_01 (show n2.toInt = 0 ∨ n2.toInt = 1 by omega) with z | z <;> rw [z] <;> rfl) (by rcases zx_01 (show n2.toInt = 0 ∨ n2.toInt = 1 by omega) with z | z <;> rw [z] <;> rfl) dX12_begins_7 (fun q_3 eq_3 => ?_)
  have hV_q_3 : sx_V h L q_3 := by rw [eq_3]; exact hV_q_1.pI ka0 trivial
  have hF_q_3 : sx_fr h L (fun a => h.1 a = 12) q q_3 := hF_q_1.tr (by rw [eq_3]; exact sx_fr.pI (show h.1 a0 = 12 from ka0))
  have z_4 : q_3.1 a0 10 = n2 := by rw [eq_3]; exact sg_pI_e
  have hK_q_3 : sx_kf a0 [5, 10, 6, 7, 8, 9, 11, 12, 13] q q_3 := hK_q_1.tr (by rw [eq_3]; exact sx_kf.pI (by decide))
  refine wa_aload_n B dX12_begins_10 rfl 0 rfl ?_
  refine wa_iconst B 0 dX12_begins_11 (by decide) ?_
  refine wa_putI B (C := RX12) (T := TX12) (N := 51) iq_X12_begins_X12 ha0 ka0 (by decide) rfl 6 (by decide) (by decide) (by decide +kernel) rfl (by decide) (v := 0) (ty := .int) tyX12 tyX12_ok nmX12 rfl (by decide +kernel) rfl rfl dX12_begins_12 (fun q_5 eq_5 => ?_)
  have hV_q_5 : sx_V h L q_5 := by rw [eq_5]; exact hV_q_3.pI ka0 (show sx_in 0 (0) 500 from ⟨by decide, by decide⟩)
  have hF_q_5 : sx_fr h L (fun a => h.1 a = 12) q q_5 := hF_q_3.tr (by rw [eq_5]; exact sx_fr.pI (show h.1 a0 = 12 from ka0))
  have z_6 : q_5.1 a0 6 = 0 := by rw [eq_5]; exact sg_pI_e
  have hK_q_5 : sx_kf a0 [5, 10, 6, 7, 8, 9, 11, 12, 13] q q_5 := hK_q_3.tr (by rw [eq_5]; exact sx_kf.pI (by decide))
  refine wa_aload_n B dX12_begins_15 rfl 0 rfl ?_
  have z_7 : q_5.2.2.1 a0 3 = m3 := ((show q_5.2.2.1 a0 3 = q_3.2.2.1 a0 3 from by rw [eq_5]; rfl)).trans (((show q_3.2.2.1 a0 3 = q_1.2.2.1 a0 3 from by rw [eq_3]; rfl)).trans (((show q_1.2.2.1 a0 3 = q.2.2.1 a0 3 from by rw [eq_1]; rfl)).trans (em3)))
  have z_8 : q_5.1 a0 5 = n1 := ((show q_5.1 a0 5 = q_3.1 a0 5 from by rw [eq_5]; exact sg_pI_k (by decide))).trans (((show q_3.1 a0 5 = q_1.1 a0 5 from by rw [eq_3]; exact sg_pI_k (by decide))).trans (z_2))
  have y_9 : (q_5.1 a0 5).toInt = n1.toInt := by rw [z_8]
  have z_10 : q_5.1 a0 4 = q.1 a0 4 := ((show q_5.1 a0 4 = q_3.1 a0 4 from by rw [eq_5]; exact sg_pI_k (by decide))).trans (((show q_3.1 a0 4 = q_1.1 a0 4 from by rw [eq_3]; exact sg_pI_k (by decide))).trans ((show q_1.1 a0 4 = q.1 a0 4 from by rw [eq_1]; exact sg_pI_k (by decide))))
  have y_11 : (q_5.1 a0 4).toInt = (q.1 a0 4).toInt := by rw [z_10]
  have y_12 : (q_5.1 a0 6).toInt = 0 := by rw [z_6]; rfl
  have z_13 : q_5.1 a0 10 = n2 := ((show q_5.1 a0 10 = q_3.1 a0 10 from by rw [eq_5]; exact sg_pI_k (by decide))).trans (z_4)
  have y_14 : (q_5.1 a0 10).toInt = n2.toInt := by rw [z_13]
  have z_15 : q_5.2.2.2.1 m3 = q.2.2.2.1 m3 := ((show q_5.2.2.2.1 m3 = q_3.2.2.2.1 m3 from by rw [eq_5]; rfl)).trans (((show q_3.2.2.2.1 m3 = q_1.2.2.2.1 m3 from by rw [eq_3]; rfl)).trans ((show q_1.2.2.2.1 m3 = q.2.2.2.1 m3 from by rw [eq_1]; rfl)))
  refine wa_callVv B (x := (RX12, TX12, 51)) (As := []) (rest := []) (k_X12_go_c l dC dI h L hN q_5 hV_q_5 (a0 := a0) ha0 ka0 (m3 := m3) z_7 F n9 (by first | assumption | omega | decide) (fun j hj => by rw [z_15]; exact hFF j hj) (by first | assumption | omega | decide) (by first | assumption | omega | decide) (by first | assumption | omega | decide)) (cwV 0 B.1.2.2.2.2 gX12_begins_X12_go rfl rfl rfl (by decide +kernel) ⟨Nat.le_of_ble_eq_true rfl, Nat.le_of_ble_eq_true rfl⟩) ha0 ka0 (by decide) rfl rfl rfl (Nat.le_of_ble_eq_true rfl) dX12_begins_16 (fun q_16 w_17 => ?_)
  obtain ⟨hV_q_16, h2_q_16, h3_q_16, mN_q_16, hw_17⟩ := w_17
  have hF_q_16 : sx_fr h L (fun a => h.1 a = 12) q q_16 := hF_q_5.tr (h2_q_16.mono (fun a (z : h.1 a = 12) => ((fun z => z) z)))
  have hK_q_16 : sx_kf a0 [5, 10, 6, 7, 8, 9, 11, 12, 13] q q_16 := hK_q_5.tr (h3_q_16.mono (by decide))
  rw [show (q_5.1 a0 6).toInt.toNat = 0 from (by omega)] at hw_17
  have z_18 : q_16.1 a0 10 = n2 := (h3_q_16.1 10 (by decide)).trans (z_13)
  have y_19 : (q_16.1 a0 10).toInt = n2.toInt := by rw [z_18]
  have z_20 : q_16.1 a0 4 = (q.1 a0 4) := (h3_q_16.1 4 (by decide)).trans (z_10)
  have y_21 : (q_16.1 a0 4).toInt = (q.1 a0 4).toInt := by rw [z_20]
  have z_22 : q_16.1 a0 5 = n1 := (h3_q_16.1 5 (by decide)).trans (z_8)
  have y_23 : (q_16.1 a0 5).toInt = n1.toInt := by rw [z_22]
  have y_24 : (q_16.1 a0 10).toInt = n2.toInt := by rw [z_18]
  have y_25 : (q_16.1 a0 4).toInt = (q.1 a0 4).toInt := by rw [z_20]
  have y_26 : (q_16.1 a0 5).toInt = n1.toInt := by rw [z_22]
  exact hret _ _ _ dX12_begins_19 ⟨hV_q_16, hF_q_16, hK_q_16, mN_q_16, ⟨by omega, by omega, by omega, by omega, hw_17.2⟩⟩
