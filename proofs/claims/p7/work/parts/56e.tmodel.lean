set_option maxHeartbeats 4000000 in
set_option maxRecDepth 100000 in
theorem k_X12_come_c (l : Launch) (dC : Nat → ClassId) (dI : Nat → Nat → Nat) (h : Sh) (L : List Nat) (hN : sx_nd L) (q : Sg) (hV : sx_V h L q) {a0 : Nat} (ha0 : a0 ∈ L) (ka0 : h.1 a0 = 12) (n1 : Int32) {m1 : Nat} (em1 : q.2.2.1 a0 1 = m1)   (hy0 : (q.1 a0 2).toInt ≤ 436) : CMv l dC dI h L yX12_come wsX12_come ({ frames := 0, cells := 0, slots := 0, locals := 0 } : Room) q [.ref a0, .int n1] (fun q' => sx_V h L q' ∧ sx_fr h L (fun a => h.1 a = 12 ∨ h.1 a = 111) q q' ∧ sx_kf a0 [2] q q' ∧ ((q'.1 a0 2).toInt = (q.1 a0 2).toInt + 4 ∧ q'.2.2.2.1 m1 = tm_4 (q.2.2.2.1 m1) (q.1 a0 2).toInt.toNat n1)) := by
  refine cm_v (cc := cX12_come) (mL := 3) (own := RX12) hN (by decide) rfl rfl (Nat.le_of_ble_eq_true rfl) (fun Z B hret => ?_)
  have hF : sx_fr h L (fun a => h.1 a = 12 ∨ h.1 a = 111) q q := sx_fr.rf
  have hK : sx_kf a0 [2] q q := sx_kf.rf
  obtain ⟨hm1, km1, lm1⟩ : m1 ∈ L ∧ h.1 m1 = 111 ∧ h.2.1 m1 = 440 := by obtain ⟨r9, e9, z1, z2, z3⟩ := hV.refn (t := 111) (n := 440) ha0 ka0 1 rfl (by decide) rfl (by decide); rw [← em1, e9]; exact ⟨z1, z2, z3⟩
  show WA l dC dI h L ({ frames := 0, cells := 0, slots := 0, locals := 0 } : Room) 3 Z q 0 [(0, .ref a0), (1, .int n1)] []
  have g_1 : (0 : Int) ≤ (q.1 a0 2).toInt ∧ (q.1 a0 2).toInt ≤ 440 := hV.int ha0 ka0 2
  refine wa_bipush B 24 dX12_come_0 (by decide) ?_
  refine wa_istore_n B [(2, .int 24), (0, .ref a0), (1, .int n1)] dX12_come_2 rfl (by decide) rfl ?_
  refine wa_iload_n B dX12_come_3 rfl 0 rfl ?_
  refine wa_if_lt B 39 dX12_come_4 (by decide) (fun z => absurd z (by decide)) (fun _ => ?_)
  refine wa_aload_n B dX12_come_7 rfl 1 rfl ?_
  refine wa_getR B (C := RX12) (T := TX12) (N := 51) iq_X12_come_X12 ha0 ka0 (by decide) rfl 1 (by decide) (by decide) (by decide +kernel) rfl (fun _ _ _ => rfl) (v := m1) em1 dX12_come_8 ?_
  refine wa_aload_n B dX12_come_11 rfl 1 rfl ?_
  refine wa_getI B (C := RX12) (T := TX12) (N := 51) iq_X12_come_X12 ha0 ka0 (by decide) rfl 2 (by decide) (by decide) (by decide +kernel) rfl (by decide) (v := (q.1 a0 2)) rfl dX12_come_12 ?_
  refine wa_iload_n B dX12_come_15 rfl 2 rfl ?_
  refine wa_iload_n B dX12_come_16 rfl 0 rfl ?_
  refine wa_iushr B dX12_come_17 (fun v_2 ev_2 => ?_)
  refine wa_sipush B 255 dX12_come_18 (by decide) ?_
  refine wa_iand B dX12_come_21 (fun v_3 ev_3 => ?_)
  have gv_3 : 0 ≤ v_3.toInt ∧ v_3.toInt ≤ 255 := by rw [ev_3]; exact zx_and255 _
  refine wa_iastore B hm1 km1 (by decide) (by decide) (show 0 ≤ (q.1 a0 2).toInt by omega) (show (q.1 a0 2).toInt < (h.2.1 m1 : Int) by omega) dX12_come_22 (fun q_4 eq_4 => ?_)
  have hV_q_4 : sx_V h L q_4 := by rw [eq_4]; exact hV.up1 hm1 km1 (show sx_in v_3 (0) 255 from ⟨by omega, by omega⟩)
  have hF_q_4 : sx_fr h L (fun a => h.1 a = 12 ∨ h.1 a = 111) q q_4 := hF.tr (by rw [eq_4]; exact sx_fr.pG (show h.1 m1 = 100 ∨ (h.1 m1 = 12 ∨ h.1 m1 = 111) from Or.inr (Or.inr km1)))
  have z_5 : q_4.2.2.2.1 m1 = (upd (q.2.2.2.1 m1) ((q.1 a0 2) : Int32).toNatClampNeg v_3) := by rw [eq_4, sg_pG_e]
  have z_6 : q_4.2.2.2.1 m1 ((q.1 a0 2) : Int32).toNatClampNeg = v_3 := by rw [eq_4, sg_pG_e]; exact if_pos rfl
  have hK_q_4 : sx_kf a0 [2] q q_4 := hK.tr (sx_kf.eq (by rw [eq_4]; rfl) (by rw [eq_4]; rfl))
  refine wa_aload_n B dX12_come_23 rfl 1 rfl ?_
  refine wa_dup B dX12_come_24 rfl ?_
  have z_7 : q_4.1 a0 2 = q.1 a0 2 := (show q_4.1 a0 2 = q.1 a0 2 from by rw [eq_4]; rfl)
  refine wa_getI B (C := RX12) (T := TX12) (N := 51) iq_X12_come_X12 ha0 ka0 (by decide) rfl 2 (by decide) (by decide) (by decide +kernel) rfl (by decide) (v := (q.1 a0 2)) z_7 dX12_come_25 ?_
  refine wa_iconst B 1 dX12_come_28 (by decide) ?_
  refine wa_iadd B dX12_come_29 (fun v_8 ev_8 => ?_)
  have tv_8 : v_8.toInt = (q.1 a0 2).toInt + 1 := by have b0 := zx_bd (q.1 a0 2); rw [ev_8]; exact zx_add (show (-2147483648 : Int) ≤ (q.1 a0 2).toInt + 1 by omega) (show (q.1 a0 2).toInt + 1 < (2147483648 : Int) by omega)
  refine wa_putI B (C := RX12) (T := TX12) (N := 51) iq_X12_come_X12 ha0 ka0 (by decide) rfl 2 (by decide) (by decide) (by decide +kernel) rfl (by decide) (v := v_8) (ty := .int) tyX12 tyX12_ok nmX12 rfl (by decide +kernel) rfl rfl dX12_come_30 (fun q_9 eq_9 => ?_)
  have hV_q_9 : sx_V h L q_9 := by rw [eq_9]; exact hV_q_4.pI ka0 (show sx_in v_8 (0) 440 from ⟨by omega, by omega⟩)
  have hF_q_9 : sx_fr h L (fun a => h.1 a = 12 ∨ h.1 a = 111) q q_9 := hF_q_4.tr (by rw [eq_9]; exact sx_fr.pI (show h.1 a0 = 12 ∨ h.1 a0 = 111 from (Or.inl ka0)))
  have z_10 : q_9.1 a0 2 = v_8 := by rw [eq_9]; exact sg_pI_e
  have hK_q_9 : sx_kf a0 [2] q q_9 := hK_q_4.tr (by rw [eq_9]; exact sx_kf.pI (by decide))
  refine wa_iinc B [(2, .int 16), (0, .ref a0), (1, .int n1)] 16 dX12_come_33 0 rfl (by decide) (by decide) rfl ?_
  refine wa_goto B 3 dX12_come_36 (by decide) ?_
  refine wa_iload_n B dX12_come_3 rfl 0 rfl ?_
  refine wa_if_lt B 39 dX12_come_4 (by decide) (fun z => absurd z (by decide)) (fun _ => ?_)
  refine wa_aload_n B dX12_come_7 rfl 1 rfl ?_
  have z_12 : q_9.2.2.1 a0 1 = m1 := ((show q_9.2.2.1 a0 1 = q_4.2.2.1 a0 1 from by rw [eq_9]; rfl)).trans (((show q_4.2.2.1 a0 1 = q.2.2.1 a0 1 from by rw [eq_4]; rfl)).trans (em1))
  refine wa_getR B (C := RX12) (T := TX12) (N := 51) iq_X12_come_X12 ha0 ka0 (by decide) rfl 1 (by decide) (by decide) (by decide +kernel) rfl (fun _ _ _ => rfl) (v := m1) z_12 dX12_come_8 ?_
  refine wa_aload_n B dX12_come_11 rfl 1 rfl ?_
  refine wa_getI B (C := RX12) (T := TX12) (N := 51) iq_X12_come_X12 ha0 ka0 (by decide) rfl 2 (by decide) (by decide) (by decide +kernel) rfl (by decide) (v := v_8) z_10 dX12_come_12 ?_
  have g_13 : (0 : Int) ≤ v_8.toInt ∧ v_8.toInt ≤ 440 := by rw [← z_10]; exact hV_q_9.int ha0 ka0 2
  refine wa_iload_n B dX12_come_15 rfl 2 rfl ?_
  refine wa_iload_n B dX12_come_16 rfl 0 rfl ?_
  refine wa_iushr B dX12_come_17 (fun v_14 ev_14 => ?_)
  refine wa_sipush B 255 dX12_come_18 (by decide) ?_
  refine wa_iand B dX12_come_21 (fun v_15 ev_15 => ?_)
  have gv_15 : 0 ≤ v_15.toInt ∧ v_15.toInt ≤ 255 := by rw [ev_15]; exact zx_and255 _
  refine wa_iastore B hm1 km1 (by decide) (by decide) (show 0 ≤ v_8.toInt by omega) (show v_8.toInt < (h.2.1 m1 : Int) by omega) dX12_come_22 (fun q_16 eq_16 => ?_)
  have hV_q_16 : sx_V h L q_16 := by rw [eq_16]; exact hV_q_9.up1 hm1 km1 (show sx_in v_15 (0) 255 from ⟨by omega, by omega⟩)
  have hF_q_16 : sx_fr h L (fun a => h.1 a = 12 ∨ h.1 a = 111) q q_16 := hF_q_9.tr (by rw [eq_16]; exact sx_fr.pG (show h.1 m1 = 100 ∨ (h.1 m1 = 12 ∨ h.1 m1 = 111) from Or.inr (Or.inr km1)))
  have z_17 : q_9.2.2.2.1 m1 = (upd (q.2.2.2.1 m1) ((q.1 a0 2) : Int32).toNatClampNeg v_3) := ((show q_9.2.2.2.1 m1 = q_4.2.2.2.1 m1 from by rw [eq_9]; rfl)).trans (z_5)
  have z_18 : q_16.2.2.2.1 m1 = (upd (upd (q.2.2.2.1 m1) ((q.1 a0 2) : Int32).toNatClampNeg v_3) (v_8 : Int32).toNatClampNeg v_15) := by rw [eq_16, sg_pG_e, z_17]
  have z_19 : q_16.2.2.2.1 m1 (v_8 : Int32).toNatClampNeg = v_15 := by rw [eq_16, sg_pG_e]; exact if_pos rfl
  have hK_q_16 : sx_kf a0 [2] q q_16 := hK_q_9.tr (sx_kf.eq (by rw [eq_16]; rfl) (by rw [eq_16]; rfl))
  refine wa_aload_n B dX12_come_23 rfl 1 rfl ?_
  refine wa_dup B dX12_come_24 rfl ?_
  have z_20 : q_16.1 a0 2 = v_8 := ((show q_16.1 a0 2 = q_9.1 a0 2 from by rw [eq_16]; rfl)).trans (z_10)
  refine wa_getI B (C := RX12) (T := TX12) (N := 51) iq_X12_come_X12 ha0 ka0 (by decide) rfl 2 (by decide) (by decide) (by decide +kernel) rfl (by decide) (v := v_8) z_20 dX12_come_25 ?_
  refine wa_iconst B 1 dX12_come_28 (by decide) ?_
  refine wa_iadd B dX12_come_29 (fun v_21 ev_21 => ?_)
  have tv_21 : v_21.toInt = v_8.toInt + 1 := by have b0 := zx_bd v_8; rw [ev_21]; exact zx_add (show (-2147483648 : Int) ≤ v_8.toInt + 1 by omega) (show v_8.toInt + 1 < (2147483648 : Int) by omega)
  refine wa_putI B (C := RX12) (T := TX12) (N := 51) iq_X12_come_X12 ha0 ka0 (by decide) rfl 2 (by decide) (by decide) (by decide +kernel) rfl (by decide) (v := v_21) (ty := .int) tyX12 tyX12_ok nmX12 rfl (by decide +kernel) rfl rfl dX12_come_30 (fun q_22 eq_22 => ?_)
  have hV_q_22 : sx_V h L q_22 := by rw [eq_22]; exact hV_q_16.pI ka0 (show sx_in v_21 (0) 440 from ⟨by omega, by omega⟩)
  have hF_q_22 : sx_fr h L (fun a => h.1 a = 12 ∨ h.1 a = 111) q q_22 := hF_q_16.tr (by rw [eq_22]; exact sx_fr.pI (show h.1 a0 = 12 ∨ h.1 a0 = 111 from (Or.inl ka0)))
  have z_23 : q_22.1 a0 2 = v_21 := by rw [eq_22]; exact sg_pI_e
  have hK_q_22 : sx_kf a0 [2] q q_22 := hK_q_16.tr (by rw [eq_22]; exact sx_kf.pI (by decide))
  refine wa_iinc B [(2, .int 8), (0, .ref a0), (1, .int n1)] 8 dX12_come_33 0 rfl (by decide) (by decide) rfl ?_
  refine wa_goto B 3 dX12_come_36 (by decide) ?_
  refine wa_iload_n B dX12_come_3 rfl 0 rfl ?_
  refine wa_if_lt B 39 dX12_come_4 (by decide) (fun z => absurd z (by decide)) (fun _ => ?_)
  refine wa_aload_n B dX12_come_7 rfl 1 rfl ?_
  have z_25 : q_22.2.2.1 a0 1 = m1 := ((show q_22.2.2.1 a0 1 = q_16.2.2.1 a0 1 from by rw [eq_22]; rfl)).trans (((show q_16.2.2.1 a0 1 = q_9.2.2.1 a0 1 from by rw [eq_16]; rfl)).trans (z_12))
  refine wa_getR B (C := RX12) (T := TX12) (N := 51) iq_X12_come_X12 ha0 ka0 (by decide) rfl 1 (by decide) (by decide) (by decide +kernel) rfl (fun _ _ _ => rfl) (v := m1) z_25 dX12_come_8 ?_
  refine wa_aload_n B dX12_come_11 rfl 1 rfl ?_
  refine wa_getI B (C := RX12) (T := TX12) (N := 51) iq_X12_come_X12 ha0 ka0 (by decide) rfl 2 (by decide) (by decide) (by decide +kernel) rfl (by decide) (v := v_21) z_23 dX12_come_12 ?_
  have g_26 : (0 : Int) ≤ v_21.toInt ∧ v_21.toInt ≤ 440 := by rw [← z_23]; exact hV_q_22.int ha0 ka0 2
  refine wa_iload_n B dX12_come_15 rfl 2 rfl ?_
  refine wa_iload_n B dX12_come_16 rfl 0 rfl ?_
  refine wa_iushr B dX12_come_17 (fun v_27 ev_27 => ?_)
  refine wa_sipush B 255 dX12_come_18 (by decide) ?_
  refine wa_iand B dX12_come_21 (fun v_28 ev_28 => ?_)
  have gv_28 : 0 ≤ v_28.toInt ∧ v_28.toInt ≤ 255 := by rw [ev_28]; exact zx_and255 _
  refine wa_iastore B hm1 km1 (by decide) (by decide) (show 0 ≤ v_21.toInt by omega) (show v_21.toInt < (h.2.1 m1 : Int) by omega) dX12_come_22 (fun q_29 eq_29 => ?_)
  have hV_q_29 : sx_V h L q_29 := by rw [eq_29]; exact hV_q_22.up1 hm1 km1 (show sx_in v_28 (0) 255 from ⟨by omega, by omega⟩)
  have hF_q_29 : sx_fr h L (fun a => h.1 a = 12 ∨ h.1 a = 111) q q_29 := hF_q_22.tr (by rw [eq_29]; exact sx_fr.pG (show h.1 m1 = 100 ∨ (h.1 m1 = 12 ∨ h.1 m1 = 111) from Or.inr (Or.inr km1)))
  have z_30 : q_22.2.2.2.1 m1 = (upd (upd (q.2.2.2.1 m1) ((q.1 a0 2) : Int32).toNatClampNeg v_3) (v_8 : Int32).toNatClampNeg v_15) := ((show q_22.2.2.2.1 m1 = q_16.2.2.2.1 m1 from by rw [eq_22]; rfl)).trans (z_18)
  have z_31 : q_29.2.2.2.1 m1 = (upd (upd (upd (q.2.2.2.1 m1) ((q.1 a0 2) : Int32).toNatClampNeg v_3) (v_8 : Int32).toNatClampNeg v_15) (v_21 : Int32).toNatClampNeg v_28) := by rw [eq_29, sg_pG_e, z_30]
  have z_32 : q_29.2.2.2.1 m1 (v_21 : Int32).toNatClampNeg = v_28 := by rw [eq_29, sg_pG_e]; exact if_pos rfl
  have hK_q_29 : sx_kf a0 [2] q q_29 := hK_q_22.tr (sx_kf.eq (by rw [eq_29]; rfl) (by rw [eq_29]; rfl))
  refine wa_aload_n B dX12_come_23 rfl 1 rfl ?_
  refine wa_dup B dX12_come_24 rfl ?_
  have z_33 : q_29.1 a0 2 = v_21 := ((show q_29.1 a0 2 = q_22.1 a0 2 from by rw [eq_29]; rfl)).trans (z_23)
  refine wa_getI B (C := RX12) (T := TX12) (N := 51) iq_X12_come_X12 ha0 ka0 (by decide) rfl 2 (by decide) (by decide) (by decide +kernel) rfl (by decide) (v := v_21) z_33 dX12_come_25 ?_
  refine wa_iconst B 1 dX12_come_28 (by decide) ?_
  refine wa_iadd B dX12_come_29 (fun v_34 ev_34 => ?_)
  have tv_34 : v_34.toInt = v_21.toInt + 1 := by have b0 := zx_bd v_21; rw [ev_34]; exact zx_add (show (-2147483648 : Int) ≤ v_21.toInt + 1 by omega) (show v_21.toInt + 1 < (2147483648 : Int) by omega)
  refine wa_putI B (C := RX12) (T := TX12) (N := 51) iq_X12_come_X12 ha0 ka0 (by decide) rfl 2 (by decide) (by decide) (by decide +kernel) rfl (by decide) (v := v_34) (ty := .int) tyX12 tyX12_ok nmX12 rfl (by decide +kernel) rfl rfl dX12_come_30 (fun q_35 eq_35 => ?_)
  have hV_q_35 : sx_V h L q_35 := by rw [eq_35]; exact hV_q_29.pI ka0 (show sx_in v_34 (0) 440 from ⟨by omega, by omega⟩)
  have hF_q_35 : sx_fr h L (fun a => h.1 a = 12 ∨ h.1 a = 111) q q_35 := hF_q_29.tr (by rw [eq_35]; exact sx_fr.pI (show h.1 a0 = 12 ∨ h.1 a0 = 111 from (Or.inl ka0)))
  have z_36 : q_35.1 a0 2 = v_34 := by rw [eq_35]; exact sg_pI_e
  have hK_q_35 : sx_kf a0 [2] q q_35 := hK_q_29.tr (by rw [eq_35]; exact sx_kf.pI (by decide))
  refine wa_iinc B [(2, .int 0), (0, .ref a0), (1, .int n1)] 0 dX12_come_33 0 rfl (by decide) (by decide) rfl ?_
  refine wa_goto B 3 dX12_come_36 (by decide) ?_
  refine wa_iload_n B dX12_come_3 rfl 0 rfl ?_
  refine wa_if_lt B 39 dX12_come_4 (by decide) (fun z => absurd z (by decide)) (fun _ => ?_)
  refine wa_aload_n B dX12_come_7 rfl 1 rfl ?_
  have z_38 : q_35.2.2.1 a0 1 = m1 := ((show q_35.2.2.1 a0 1 = q_29.2.2.1 a0 1 from by rw [eq_35]; rfl)).trans (((show q_29.2.2.1 a0 1 = q_22.2.2.1 a0 1 from by rw [eq_29]; rfl)).trans (z_25))
  refine wa_getR B (C := RX12) (T := TX12) (N := 51) iq_X12_come_X12 ha0 ka0 (by decide) rfl 1 (by decide) (by decide) (by decide +kernel) rfl (fun _ _ _ => rfl) (v := m1) z_38 dX12_come_8 ?_
  refine wa_aload_n B dX12_come_11 rfl 1 rfl ?_
  refine wa_getI B (C := RX12) (T := TX12) (N := 51) iq_X12_come_X12 ha0 ka0 (by decide) rfl 2 (by decide) (by decide) (by decide +kernel) rfl (by decide) (v := v_34) z_36 dX12_come_12 ?_
  have g_39 : (0 : Int) ≤ v_34.toInt ∧ v_34.toInt ≤ 440 := by rw [← z_36]; exact hV_q_35.int ha0 ka0 2
  refine wa_iload_n B dX12_come_15 rfl 2 rfl ?_
  refine wa_iload_n B dX12_come_16 rfl 0 rfl ?_
  refine wa_iushr B dX12_come_17 (fun v_40 ev_40 => ?_)
  refine wa_sipush B 255 dX12_come_18 (by decide) ?_
  refine wa_iand B dX12_come_21 (fun v_41 ev_41 => ?_)
  have gv_41 : 0 ≤ v_41.toInt ∧ v_41.toInt ≤ 255 := by rw [ev_41]; exact zx_and255 _
  refine wa_iastore B hm1 km1 (by decide) (by decide) (show 0 ≤ v_34.toInt by omega) (show v_34.toInt < (h.2.1 m1 : Int) by omega) dX12_come_22 (fun q_42 eq_42 => ?_)
  have hV_q_42 : sx_V h L q_42 := by rw [eq_42]; exact hV_q_35.up1 hm1 km1 (show sx_in v_41 (0) 255 from ⟨by omega, by omega⟩)
  have hF_q_42 : sx_fr h L (fun a => h.1 a = 12 ∨ h.1 a = 111) q q_42 := hF_q_35.tr (by rw [eq_42]; exact sx_fr.pG (show h.1 m1 = 100 ∨ (h.1 m1 = 12 ∨ h.1 m1 = 111) from Or.inr (Or.inr km1)))
  have z_43 : q_35.2.2.2.1 m1 = (upd (upd (upd (q.2.2.2.1 m1) ((q.1 a0 2) : Int32).toNatClampNeg v_3) (v_8 : Int32).toNatClampNeg v_15) (v_21 : Int32).toNatClampNeg v_28) := ((show q_35.2.2.2.1 m1 = q_29.2.2.2.1 m1 from by rw [eq_35]; rfl)).trans (z_31)
  have z_44 : q_42.2.2.2.1 m1 = (upd (upd (upd (upd (q.2.2.2.1 m1) ((q.1 a0 2) : Int32).toNatClampNeg v_3) (v_8 : Int32).toNatClampNeg v_15) (v_21 : Int32).toNatClampNeg v_28) (v_34 : Int32).toNatClampNeg v_41) := by rw [eq_42, sg_pG_e, z_43]
  have z_45 : q_42.2.2.2.1 m1 (v_34 : Int32).toNatClampNeg = v_41 := by rw [eq_42, sg_pG_e]; exact if_pos rfl
  have hK_q_42 : sx_kf a0 [2] q q_42 := hK_q_35.tr (sx_kf.eq (by rw [eq_42]; rfl) (by rw [eq_42]; rfl))
  refine wa_aload_n B dX12_come_23 rfl 1 rfl ?_
  refine wa_dup B dX12_come_24 rfl ?_
  have z_46 : q_42.1 a0 2 = v_34 := ((show q_42.1 a0 2 = q_35.1 a0 2 from by rw [eq_42]; rfl)).trans (z_36)
  refine wa_getI B (C := RX12) (T := TX12) (N := 51) iq_X12_come_X12 ha0 ka0 (by decide) rfl 2 (by decide) (by decide) (by decide +kernel) rfl (by decide) (v := v_34) z_46 dX12_come_25 ?_
  refine wa_iconst B 1 dX12_come_28 (by decide) ?_
  refine wa_iadd B dX12_come_29 (fun v_47 ev_47 => ?_)
  have tv_47 : v_47.toInt = v_34.toInt + 1 := by have b0 := zx_bd v_34; rw [ev_47]; exact zx_add (show (-2147483648 : Int) ≤ v_34.toInt + 1 by omega) (show v_34.toInt + 1 < (2147483648 : Int) by omega)
  refine wa_putI B (C := RX12) (T := TX12) (N := 51) iq_X12_come_X12 ha0 ka0 (by decide) rfl 2 (by decide) (by decide) (by decide +kernel) rfl (by decide) (v := v_47) (ty := .int) tyX12 tyX12_ok nmX12 rfl (by decide +kernel) rfl rfl dX12_come_30 (fun q_48 eq_48 => ?_)
  have hV_q_48 : sx_V h L q_48 := by rw [eq_48]; exact hV_q_42.pI ka0 (show sx_in v_47 (0) 440 from ⟨by omega, by omega⟩)
  have hF_q_48 : sx_fr h L (fun a => h.1 a = 12 ∨ h.1 a = 111) q q_48 := hF_q_42.tr (by rw [eq_48]; exact sx_fr.pI (show h.1 a0 = 12 ∨ h.1 a0 = 111 from (Or.inl ka0)))
  have z_49 : q_48.1 a0 2 = v_47 := by rw [eq_48]; exact sg_pI_e
  have hK_q_48 : sx_kf a0 [2] q q_48 := hK_q_42.tr (by rw [eq_48]; exact sx_kf.pI (by decide))
  refine wa_iinc B [(2, .int (-8)), (0, .ref a0), (1, .int n1)] (-8) dX12_come_33 0 rfl (by decide) (by decide) rfl ?_
  refine wa_goto B 3 dX12_come_36 (by decide) ?_
  refine wa_iload_n B dX12_come_3 rfl 0 rfl ?_
  refine wa_if_lt B 39 dX12_come_4 (by decide) (fun _ => ?_) (fun z => absurd z (by decide))
  have y_51 : (q_48.1 a0 2).toInt = v_47.toInt := by rw [z_49]
  have z_52 : q_48.2.2.2.1 m1 = (upd (upd (upd (upd (q.2.2.2.1 m1) ((q.1 a0 2) : Int32).toNatClampNeg v_3) (v_8 : Int32).toNatClampNeg v_15) (v_21 : Int32).toNatClampNeg v_28) (v_34 : Int32).toNatClampNeg v_41) := ((show q_48.2.2.2.1 m1 = q_42.2.2.2.1 m1 from by rw [eq_48]; rfl)).trans (z_44)
  exact hret _ _ _ dX12_come_39 ⟨hV_q_48, hF_q_48, hK_q_48, ⟨by omega, tm_4i z_52 (by rw [ev_3, ev_2]; rfl) (by rw [ev_15, ev_14]; rfl) (by rw [ev_28, ev_27]; rfl) (by rw [ev_41, ev_40]; rfl) rfl (by have a9 := zx_nc v_8; have b9 := zx_nc (q.1 a0 2); omega) (by have a9 := zx_nc v_21; have b9 := zx_nc (q.1 a0 2); omega) (by have a9 := zx_nc v_34; have b9 := zx_nc (q.1 a0 2); omega)⟩⟩
set_option maxHeartbeats 4000000 in
set_option maxRecDepth 100000 in
theorem k_X12_feed_c (l : Launch) (dC : Nat → ClassId) (dI : Nat → Nat → Nat) (h : Sh) (L : List Nat) (hN : sx_nd L) (q : Sg) (hV : sx_V h L q) {a0 : Nat} (ha0 : a0 ∈ L) (ka0 : h.1 a0 = 12) (n1 : Int32) (n2 : Int32) (n3 : Int32) (n4 : Int32) (n5 : Int32) {m1 : Nat} (em1 : q.2.2.1 a0 1 = m1)    : CMi l dC dI h L yX12_feed wsX12_feed ({ frames := 1, cells := 0, slots := 0, locals := 22 } : Room) q [.ref a0, .int n1, .int n2, .int n3, .int n4, .int n5] (fun r q' => sx_V h L q' ∧ sx_fr h L (fun a => h.1 a = 12 ∨ h.1 a = 111) q q' ∧ sx_kf a0 [0, 2] q q' ∧ (((q.1 a0 2).toInt + 20 ≤ 440 ∧ (q'.1 a0 2).toInt = (q.1 a0 2).toInt + 20 ∨ 440 < (q.1 a0 2).toInt + 20 ∧ (q'.1 a0 2).toInt = (q.1 a0 2).toInt) ∧ ((q.1 a0 2).toInt + 20 ≤ 440 ∧ r.toInt = (q.1 a0 2).toInt + 20 ∨ 440 < (q.1 a0 2).toInt + 20 ∧ r.toInt = -1) ∧ ((q.1 a0 2).toInt + 20 ≤ 440 → q'.2.2.2.1 m1 = tm_20 (q.2.2.2.1 m1) (q.1 a0 2).toInt.toNat n1 n2 n3 n4 n5) ∧ (440 < (q.1 a0 2).toInt + 20 → q'.2.2.2.1 m1 = q.2.2.2.1 m1))) := by
  refine cm_i (cc := cX12_feed) (mL := 6) (own := RX12) hN (by decide) rfl rfl (Nat.le_of_ble_eq_true rfl) (fun Z B hret => ?_)
  have hF : sx_fr h L (fun a => h.1 a = 12 ∨ h.1 a = 111) q q := sx_fr.rf
  have hK : sx_kf a0 [0, 2] q q := sx_kf.rf
  obtain ⟨hm1, km1, lm1⟩ : m1 ∈ L ∧ h.1 m1 = 111 ∧ h.2.1 m1 = 440 := by obtain ⟨r9, e9, z1, z2, z3⟩ := hV.refn (t := 111) (n := 440) ha0 ka0 1 rfl (by decide) rfl (by decide); rw [← em1, e9]; exact ⟨z1, z2, z3⟩
  show WA l dC dI h L ({ frames := 1, cells := 0, slots := 0, locals := 22 } : Room) 6 Z q 0 [(0, .ref a0), (1, .int n1), (2, .int n2), (3, .int n3), (4, .int n4), (5, .int n5)] []
  refine wa_aload_n B dX12_feed_0 rfl 0 rfl ?_
  refine wa_iconst B 0 dX12_feed_1 (by decide) ?_
  refine wa_putI B (C := RX12) (T := TX12) (N := 51) iq_X12_feed_X12 ha0 ka0 (by decide) rfl 0 (by decide) (by decide) (by decide +kernel) rfl (by decide) (v := 0) (ty := .int) tyX12 tyX12_ok nmX12 rfl (by decide +kernel) rfl rfl dX12_feed_2 (fun q_1 eq_1 => ?_)
  have hV_q_1 : sx_V h L q_1 := by rw [eq_1]; exact hV.pI ka0 trivial
  have hF_q_1 : sx_fr h L (fun a => h.1 a = 12 ∨ h.1 a = 111) q q_1 := hF.tr (by rw [eq_1]; exact sx_fr.pI (show h.1 a0 = 12 ∨ h.1 a0 = 111 from (Or.inl ka0)))
  have z_2 : q_1.1 a0 0 = 0 := by rw [eq_1]; exact sg_pI_e
  have hK_q_1 : sx_kf a0 [0, 2] q q_1 := hK.tr (by rw [eq_1]; exact sx_kf.pI (by decide))
  refine wa_aload_n B dX12_feed_5 rfl 0 rfl ?_
  have z_3 : q_1.1 a0 2 = q.1 a0 2 := (show q_1.1 a0 2 = q.1 a0 2 from by rw [eq_1]; exact sg_pI_k (by decide))
  refine wa_getI B (C := RX12) (T := TX12) (N := 51) iq_X12_feed_X12 ha0 ka0 (by decide) rfl 2 (by decide) (by decide) (by decide +kernel) rfl (by decide) (v := (q.1 a0 2)) z_3 dX12_feed_6 ?_
  have g_4 : (0 : Int) ≤ (q.1 a0 2).toInt ∧ (q.1 a0 2).toInt ≤ 440 := by rw [← z_3]; exact hV_q_1.int ha0 ka0 2
  refine wa_bipush B 20 dX12_feed_9 (by decide) ?_
  refine wa_iadd B dX12_feed_11 (fun v_5 ev_5 => ?_)
  refine wa_sipush B 440 dX12_feed_12 (by decide) ?_
  have tv_5 : v_5.toInt = (q.1 a0 2).toInt + 20 := by have b0 := zx_bd (q.1 a0 2); rw [ev_5]; exact zx_add (show (-2147483648 : Int) ≤ (q.1 a0 2).toInt + 20 by omega) (show (q.1 a0 2).toInt + 20 < (2147483648 : Int) by omega)
  refine wa_icmp_le B 20 dX12_feed_15 (by decide) (fun (t_6 : v_5.toInt ≤ 440) => ?_) (fun (t_6 : ¬ v_5.toInt ≤ 440) => ?_)
  · refine wa_aload_n B dX12_feed_20 rfl 0 rfl ?_
    refine wa_iload_n B dX12_feed_21 rfl 1 rfl ?_
    have z_7 : q_1.2.2.2.1 m1 = q.2.2.2.1 m1 := (show q_1.2.2.2.1 m1 = q.2.2.2.1 m1 from by rw [eq_1]; rfl)
    have y_8 : (q_1.1 a0 2).toInt = (q.1 a0 2).toInt := by rw [z_3]
    have z_9 : q_1.2.2.1 a0 1 = m1 := ((show q_1.2.2.1 a0 1 = q.2.2.1 a0 1 from by rw [eq_1]; rfl)).trans (em1)
    have y_10 : (q_1.1 a0 2).toInt = (q.1 a0 2).toInt := by rw [z_3]
    refine wa_callVv B (x := (RX12, TX12, 51)) (As := [.int n1]) (rest := []) (k_X12_come_c l dC dI h L hN q_1 hV_q_1 (a0 := a0) ha0 ka0 n1 (m1 := m1) z_9  (by first | assumption | omega | decide)) (cwV 1 B.1.2.2.2.2 gX12_feed_X12_come rfl rfl rfl (by decide +kernel) ⟨Nat.le_of_ble_eq_true rfl, Nat.le_of_ble_eq_true rfl⟩) ha0 ka0 (by decide) rfl rfl rfl (Nat.le_of_ble_eq_true rfl) dX12_feed_22 (fun q_11 w_12 => ?_)
    obtain ⟨hV_q_11, h2_q_11, h3_q_11, hw_12⟩ := w_12
    have hF_q_11 : sx_fr h L (fun a => h.1 a = 12 ∨ h.1 a = 111) q q_11 := hF_q_1.tr (h2_q_11.mono (fun a (z : h.1 a = 12 ∨ h.1 a = 111) => ((fun z => z.elim (fun z => (Or.inl z)) (fun z => (Or.inr z))) z)))
    have hK_q_11 : sx_kf a0 [0, 2] q q_11 := hK_q_1.tr (h3_q_11.mono (by decide))
    refine wa_aload_n B dX12_feed_25 rfl 0 rfl ?_
    refine wa_iload_n B dX12_feed_26 rfl 2 rfl ?_
    have z_13 : q_11.2.2.1 a0 1 = m1 := (h2_q_11.R ha0 (fun z9 => absurd z9.2 (by omega)) 1).trans (z_9)
    refine wa_callVv B (x := (RX12, TX12, 51)) (As := [.int n2]) (rest := []) (k_X12_come_c l dC dI h L hN q_11 hV_q_11 (a0 := a0) ha0 ka0 n2 (m1 := m1) z_13  (by first | assumption | omega | decide)) (cwV 1 B.1.2.2.2.2 gX12_feed_X12_come rfl rfl rfl (by decide +kernel) ⟨Nat.le_of_ble_eq_true rfl, Nat.le_of_ble_eq_true rfl⟩) ha0 ka0 (by decide) rfl rfl rfl (Nat.le_of_ble_eq_true rfl) dX12_feed_27 (fun q_14 w_15 => ?_)
    obtain ⟨hV_q_14, h2_q_14, h3_q_14, hw_15⟩ := w_15
    have hF_q_14 : sx_fr h L (fun a => h.1 a = 12 ∨ h.1 a = 111) q q_14 := hF_q_11.tr (h2_q_14.mono (fun a (z : h.1 a = 12 ∨ h.1 a = 111) => ((fun z => z.elim (fun z => (Or.inl z)) (fun z => (Or.inr z))) z)))
    have hK_q_14 : sx_kf a0 [0, 2] q q_14 := hK_q_11.tr (h3_q_14.mono (by decide))
    refine wa_aload_n B dX12_feed_30 rfl 0 rfl ?_
    refine wa_iload_n B dX12_feed_31 rfl 3 rfl ?_
    have z_16 : q_14.2.2.1 a0 1 = m1 := (h2_q_14.R ha0 (fun z9 => absurd z9.2 (by omega)) 1).trans (z_13)
    refine wa_callVv B (x := (RX12, TX12, 51)) (As := [.int n3]) (rest := []) (k_X12_come_c l dC dI h L hN q_14 hV_q_14 (a0 := a0) ha0 ka0 n3 (m1 := m1) z_16  (by first | assumption | omega | decide)) (cwV 1 B.1.2.2.2.2 gX12_feed_X12_come rfl rfl rfl (by decide +kernel) ⟨Nat.le_of_ble_eq_true rfl, Nat.le_of_ble_eq_true rfl⟩) ha0 ka0 (by decide) rfl rfl rfl (Nat.le_of_ble_eq_true rfl) dX12_feed_32 (fun q_17 w_18 => ?_)
    obtain ⟨hV_q_17, h2_q_17, h3_q_17, hw_18⟩ := w_18
    have hF_q_17 : sx_fr h L (fun a => h.1 a = 12 ∨ h.1 a = 111) q q_17 := hF_q_14.tr (h2_q_17.mono (fun a (z : h.1 a = 12 ∨ h.1 a = 111) => ((fun z => z.elim (fun z => (Or.inl z)) (fun z => (Or.inr z))) z)))
    have hK_q_17 : sx_kf a0 [0, 2] q q_17 := hK_q_14.tr (h3_q_17.mono (by decide))
    refine wa_aload_n B dX12_feed_35 rfl 0 rfl ?_
    refine wa_iload B dX12_feed_36 4 rfl ?_
    have z_19 : q_17.2.2.1 a0 1 = m1 := (h2_q_17.R ha0 (fun z9 => absurd z9.2 (by omega)) 1).trans (z_16)
    refine wa_callVv B (x := (RX12, TX12, 51)) (As := [.int n4]) (rest := []) (k_X12_come_c l dC dI h L hN q_17 hV_q_17 (a0 := a0) ha0 ka0 n4 (m1 := m1) z_19  (by first | assumption | omega | decide)) (cwV 1 B.1.2.2.2.2 gX12_feed_X12_come rfl rfl rfl (by decide +kernel) ⟨Nat.le_of_ble_eq_true rfl, Nat.le_of_ble_eq_true rfl⟩) ha0 ka0 (by decide) rfl rfl rfl (Nat.le_of_ble_eq_true rfl) dX12_feed_38 (fun q_20 w_21 => ?_)
    obtain ⟨hV_q_20, h2_q_20, h3_q_20, hw_21⟩ := w_21
    have hF_q_20 : sx_fr h L (fun a => h.1 a = 12 ∨ h.1 a = 111) q q_20 := hF_q_17.tr (h2_q_20.mono (fun a (z : h.1 a = 12 ∨ h.1 a = 111) => ((fun z => z.elim (fun z => (Or.inl z)) (fun z => (Or.inr z))) z)))
    have hK_q_20 : sx_kf a0 [0, 2] q q_20 := hK_q_17.tr (h3_q_20.mono (by decide))
    refine wa_aload_n B dX12_feed_41 rfl 0 rfl ?_
    refine wa_iload B dX12_feed_42 5 rfl ?_
    have z_22 : q_20.2.2.1 a0 1 = m1 := (h2_q_20.R ha0 (fun z9 => absurd z9.2 (by omega)) 1).trans (z_19)
    refine wa_callVv B (x := (RX12, TX12, 51)) (As := [.int n5]) (rest := []) (k_X12_come_c l dC dI h L hN q_20 hV_q_20 (a0 := a0) ha0 ka0 n5 (m1 := m1) z_22  (by first | assumption | omega | decide)) (cwV 1 B.1.2.2.2.2 gX12_feed_X12_come rfl rfl rfl (by decide +kernel) ⟨Nat.le_of_ble_eq_true rfl, Nat.le_of_ble_eq_true rfl⟩) ha0 ka0 (by decide) rfl rfl rfl (Nat.le_of_ble_eq_true rfl) dX12_feed_44 (fun q_23 w_24 => ?_)
    obtain ⟨hV_q_23, h2_q_23, h3_q_23, hw_24⟩ := w_24
    have hF_q_23 : sx_fr h L (fun a => h.1 a = 12 ∨ h.1 a = 111) q q_23 := hF_q_20.tr (h2_q_23.mono (fun a (z : h.1 a = 12 ∨ h.1 a = 111) => ((fun z => z.elim (fun z => (Or.inl z)) (fun z => (Or.inr z))) z)))
    have hK_q_23 : sx_kf a0 [0, 2] q q_23 := hK_q_20.tr (h3_q_23.mono (by decide))
    refine wa_aload_n B dX12_feed_47 rfl 0 rfl ?_
    refine wa_getI B (C := RX12) (T := TX12) (N := 51) iq_X12_feed_X12 ha0 ka0 (by decide) rfl 2 (by decide) (by decide) (by decide +kernel) rfl (by decide) (v := (q_23.1 a0 2)) rfl dX12_feed_48 ?_
    have g_25 : (0 : Int) ≤ (q_23.1 a0 2).toInt ∧ (q_23.1 a0 2).toInt ≤ 440 := hV_q_23.int ha0 ka0 2
    exact hret _ _ _ _ dX12_feed_51 ⟨hV_q_23, hF_q_23, hK_q_23, ⟨by omega, by omega, fun _ => tm_20i (by rw [← z_7]; exact hw_12.2) hw_15.2 hw_18.2 hw_21.2 hw_24.2 (by have a9 := zx_nc (q_1.1 a0 2); have b9 := zx_nc (q.1 a0 2); omega) (by have a9 := zx_nc (q_11.1 a0 2); have b9 := zx_nc (q.1 a0 2); omega) (by have a9 := zx_nc (q_14.1 a0 2); have b9 := zx_nc (q.1 a0 2); omega) (by have a9 := zx_nc (q_17.1 a0 2); have b9 := zx_nc (q.1 a0 2); omega) (by have a9 := zx_nc (q_20.1 a0 2); have b9 := zx_nc (q.1 a0 2); omega), fun z9 => by exfalso; omega⟩⟩
  · refine wa_iconst B (-1) dX12_feed_18 (by decide) ?_
    have y_26 : (q_1.1 a0 2).toInt = (q.1 a0 2).toInt := by rw [z_3]
    have z_27 : q_1.2.2.2.1 m1 = q.2.2.2.1 m1 := (show q_1.2.2.2.1 m1 = q.2.2.2.1 m1 from by rw [eq_1]; rfl)
    exact hret _ _ _ _ dX12_feed_19 ⟨hV_q_1, hF_q_1, hK_q_1, ⟨by have h9 : ((-1) : Int32).toInt = (-1) := rfl; omega, by have h9 : ((-1) : Int32).toInt = (-1) := rfl; omega, fun z9 => by exfalso; omega, fun _ => z_27⟩⟩
set_option maxHeartbeats 4000000 in
set_option maxRecDepth 100000 in
theorem k_X12_fragment_c (l : Launch) (dC : Nat → ClassId) (dI : Nat → Nat → Nat) (h : Sh) (L : List Nat) (hN : sx_nd L) (q : Sg) (hV : sx_V h L q) {a0 : Nat} (ha0 : a0 ∈ L) (ka0 : h.1 a0 = 12) (n1 : Int32) (n2 : Int32) {m1 : Nat} (em1 : q.2.2.1 a0 1 = m1) {m40 : Nat} (em40 : q.2.2.1 a0 40 = m40) {m44 : Nat} (em44 : q.2.2.1 a0 44 = m44) {m41 : Nat} (em41 : q.2.2.1 a0 41 = m41) {m42 : Nat} (em42 : q.2.2.1 a0 42 = m42) {m43 : Nat} (em43 : q.2.2.1 a0 43 = m43) (mL : mv_L m40 m41 m44 a0 q)   : CMi l dC dI h L yX12_fragment wsX12_fragment ({ frames := 1, cells := 0, slots := 0, locals := 20 } : Room) q [.ref a0, .int n1, .int n2] (fun r q' => sx_V h L q' ∧ sx_fr h L (fun a => h.1 a = 12 ∨ h.1 a = 150 ∨ h.1 a = 154 ∨ h.1 a = 151 ∨ h.1 a = 152 ∨ h.1 a = 153) q q' ∧ sx_kf a0 [0, 2, 45] q q' ∧ mv_L m40 m41 m44 a0 q' ∧ ((q'.1 a0 2).toInt = 0 ∧ (((q.1 a0 45).toInt < 12 ∧ (0 ≤ n1.toInt ∧ n1.toInt ≤ 99999999) ∧ (0 ≤ n2.toInt ∧ n2.toInt ≤ 99999999) ∧ (q.1 a0 2).toInt ≤ 200) ∧ (q'.1 a0 45).toInt = (q.1 a0 45).toInt + 1 ∧ r.toInt = (q.1 a0 45).toInt ∨ ¬ ((q.1 a0 45).toInt < 12 ∧ (0 ≤ n1.toInt ∧ n1.toInt ≤ 99999999) ∧ (0 ≤ n2.toInt ∧ n2.toInt ≤ 99999999) ∧ (q.1 a0 2).toInt ≤ 200) ∧ (q'.1 a0 45).toInt = (q.1 a0 45).toInt ∧ r.toInt = -1) ∧ (((q.1 a0 45).toInt < 12 ∧ (0 ≤ n1.toInt ∧ n1.toInt ≤ 99999999) ∧ (0 ≤ n2.toInt ∧ n2.toInt ≤ 99999999) ∧ (q.1 a0 2).toInt ≤ 200) → (q'.2.2.2.1 m44 (q.1 a0 45).toNatClampNeg).toInt = 1 + ((ty_c (q.2.2.2.1 m1) (q.1 a0 2).toInt.toNat : Nat) : Int)) ∧ (∀ j : Nat, j ≠ (q.1 a0 45).toNatClampNeg → q'.2.2.2.1 m44 j = q.2.2.2.1 m44 j))) := by
  refine cm_i (cc := cX12_fragment) (mL := 6) (own := RX12) hN (by decide) rfl rfl (Nat.le_of_ble_eq_true rfl) (fun Z B hret => ?_)
  have hF : sx_fr h L (fun a => h.1 a = 12 ∨ h.1 a = 150 ∨ h.1 a = 154 ∨ h.1 a = 151 ∨ h.1 a = 152 ∨ h.1 a = 153) q q := sx_fr.rf
  have hK : sx_kf a0 [0, 2, 45] q q := sx_kf.rf
  obtain ⟨hm1, km1, lm1⟩ : m1 ∈ L ∧ h.1 m1 = 111 ∧ h.2.1 m1 = 440 := by obtain ⟨r9, e9, z1, z2, z3⟩ := hV.refn (t := 111) (n := 440) ha0 ka0 1 rfl (by decide) rfl (by decide); rw [← em1, e9]; exact ⟨z1, z2, z3⟩
  obtain ⟨hm40, km40, lm40⟩ : m40 ∈ L ∧ h.1 m40 = 150 ∧ h.2.1 m40 = 2400 := by obtain ⟨r9, e9, z1, z2, z3⟩ := hV.refn (t := 150) (n := 2400) ha0 ka0 40 rfl (by decide) rfl (by decide); rw [← em40, e9]; exact ⟨z1, z2, z3⟩
  obtain ⟨hm44, km44, lm44⟩ : m44 ∈ L ∧ h.1 m44 = 154 ∧ h.2.1 m44 = 12 := by obtain ⟨r9, e9, z1, z2, z3⟩ := hV.refn (t := 154) (n := 12) ha0 ka0 44 rfl (by decide) rfl (by decide); rw [← em44, e9]; exact ⟨z1, z2, z3⟩
  obtain ⟨hm41, km41, lm41⟩ : m41 ∈ L ∧ h.1 m41 = 151 ∧ h.2.1 m41 = 12 := by obtain ⟨r9, e9, z1, z2, z3⟩ := hV.refn (t := 151) (n := 12) ha0 ka0 41 rfl (by decide) rfl (by decide); rw [← em41, e9]; exact ⟨z1, z2, z3⟩
  obtain ⟨hm42, km42, lm42⟩ : m42 ∈ L ∧ h.1 m42 = 152 ∧ h.2.1 m42 = 12 := by obtain ⟨r9, e9, z1, z2, z3⟩ := hV.refn (t := 152) (n := 12) ha0 ka0 42 rfl (by decide) rfl (by decide); rw [← em42, e9]; exact ⟨z1, z2, z3⟩
  obtain ⟨hm43, km43, lm43⟩ : m43 ∈ L ∧ h.1 m43 = 153 ∧ h.2.1 m43 = 12 := by obtain ⟨r9, e9, z1, z2, z3⟩ := hV.refn (t := 153) (n := 12) ha0 ka0 43 rfl (by decide) rfl (by decide); rw [← em43, e9]; exact ⟨z1, z2, z3⟩
  show WA l dC dI h L ({ frames := 1, cells := 0, slots := 0, locals := 20 } : Room) 6 Z q 0 [(0, .ref a0), (1, .int n1), (2, .int n2)] []
  refine wa_aload_n B dX12_fragment_0 rfl 0 rfl ?_
  refine wa_iconst B 0 dX12_fragment_1 (by decide) ?_
  refine wa_putI B (C := RX12) (T := TX12) (N := 51) iq_X12_fragment_X12 ha0 ka0 (by decide) rfl 0 (by decide) (by decide) (by decide +kernel) rfl (by decide) (v := 0) (ty := .int) tyX12 tyX12_ok nmX12 rfl (by decide +kernel) rfl rfl dX12_fragment_2 (fun q_1 eq_1 => ?_)
  have hV_q_1 : sx_V h L q_1 := by rw [eq_1]; exact hV.pI ka0 trivial
  have hF_q_1 : sx_fr h L (fun a => h.1 a = 12 ∨ h.1 a = 150 ∨ h.1 a = 154 ∨ h.1 a = 151 ∨ h.1 a = 152 ∨ h.1 a = 153) q q_1 := hF.tr (by rw [eq_1]; exact sx_fr.pI (show h.1 a0 = 12 ∨ h.1 a0 = 150 ∨ h.1 a0 = 154 ∨ h.1 a0 = 151 ∨ h.1 a0 = 152 ∨ h.1 a0 = 153 from (Or.inl ka0)))
  have z_2 : q_1.1 a0 0 = 0 := by rw [eq_1]; exact sg_pI_e
  have hK_q_1 : sx_kf a0 [0, 2, 45] q q_1 := hK.tr (by rw [eq_1]; exact sx_kf.pI (by decide))
  have mL_q_1 : mv_L m40 m41 m44 a0 q_1 := mv_L.eq ((show q_1.2.2.2.1 m40 = q.2.2.2.1 m40 from by rw [eq_1]; rfl)) ((show q_1.2.2.2.1 m41 = q.2.2.2.1 m41 from by rw [eq_1]; rfl)) ((show q_1.2.2.2.1 m44 = q.2.2.2.1 m44 from by rw [eq_1]; rfl)) ((show q_1.1 a0 45 = q.1 a0 45 from by rw [eq_1]; exact sg_pI_k (by decide))) mL
  refine wa_aload_n B dX12_fragment_5 rfl 0 rfl ?_
  have z_3 : q_1.1 a0 2 = q.1 a0 2 := (show q_1.1 a0 2 = q.1 a0 2 from by rw [eq_1]; exact sg_pI_k (by decide))
  refine wa_getI B (C := RX12) (T := TX12) (N := 51) iq_X12_fragment_X12 ha0 ka0 (by decide) rfl 2 (by decide) (by decide) (by decide +kernel) rfl (by decide) (v := (q.1 a0 2)) z_3 dX12_fragment_6 ?_
  have g_4 : (0 : Int) ≤ (q.1 a0 2).toInt ∧ (q.1 a0 2).toInt ≤ 440 := by rw [← z_3]; exact hV_q_1.int ha0 ka0 2
  refine wa_istore_n B [(3, .int (q.1 a0 2)), (0, .ref a0), (1, .int n1), (2, .int n2)] dX12_fragment_9 rfl (by decide) rfl ?_
  refine wa_aload_n B dX12_fragment_10 rfl 1 rfl ?_
  refine wa_iconst B 0 dX12_fragment_11 (by decide) ?_
  refine wa_putI B (C := RX12) (T := TX12) (N := 51) iq_X12_fragment_X12 ha0 ka0 (by decide) rfl 2 (by decide) (by decide) (by decide +kernel) rfl (by decide) (v := 0) (ty := .int) tyX12 tyX12_ok nmX12 rfl (by decide +kernel) rfl rfl dX12_fragment_12 (fun q_5 eq_5 => ?_)
  have hV_q_5 : sx_V h L q_5 := by rw [eq_5]; exact hV_q_1.pI ka0 (show sx_in 0 (0) 440 from ⟨by decide, by decide⟩)
  have hF_q_5 : sx_fr h L (fun a => h.1 a = 12 ∨ h.1 a = 150 ∨ h.1 a = 154 ∨ h.1 a = 151 ∨ h.1 a = 152 ∨ h.1 a = 153) q q_5 := hF_q_1.tr (by rw [eq_5]; exact sx_fr.pI (show h.1 a0 = 12 ∨ h.1 a0 = 150 ∨ h.1 a0 = 154 ∨ h.1 a0 = 151 ∨ h.1 a0 = 152 ∨ h.1 a0 = 153 from (Or.inl ka0)))
  have z_6 : q_5.1 a0 2 = 0 := by rw [eq_5]; exact sg_pI_e
  have hK_q_5 : sx_kf a0 [0, 2, 45] q q_5 := hK_q_1.tr (by rw [eq_5]; exact sx_kf.pI (by decide))
  have mL_q_5 : mv_L m40 m41 m44 a0 q_5 := mv_L.eq ((show q_5.2.2.2.1 m40 = q_1.2.2.2.1 m40 from by rw [eq_5]; rfl)) ((show q_5.2.2.2.1 m41 = q_1.2.2.2.1 m41 from by rw [eq_5]; rfl)) ((show q_5.2.2.2.1 m44 = q_1.2.2.2.1 m44 from by rw [eq_5]; rfl)) ((show q_5.1 a0 45 = q_1.1 a0 45 from by rw [eq_5]; exact sg_pI_k (by decide))) mL_q_1
  refine wa_aload_n B dX12_fragment_15 rfl 1 rfl ?_
  have z_7 : q_5.1 a0 45 = q.1 a0 45 := ((show q_5.1 a0 45 = q_1.1 a0 45 from by rw [eq_5]; exact sg_pI_k (by decide))).trans ((show q_1.1 a0 45 = q.1 a0 45 from by rw [eq_1]; exact sg_pI_k (by decide)))
  refine wa_getI B (C := RX12) (T := TX12) (N := 51) iq_X12_fragment_X12 ha0 ka0 (by decide) rfl 45 (by decide) (by decide) (by decide +kernel) rfl (by decide) (v := (q.1 a0 45)) z_7 dX12_fragment_16 ?_
  have g_8 : (0 : Int) ≤ (q.1 a0 45).toInt ∧ (q.1 a0 45).toInt ≤ 12 := by rw [← z_7]; exact hV_q_5.int ha0 ka0 45
  refine wa_bipush B 12 dX12_fragment_19 (by decide) ?_
  refine wa_icmp_eq B 45 dX12_fragment_21 (by decide) (fun (t_9 : (q.1 a0 45).toInt = 12) => ?_) (fun (t_9 : ¬ (q.1 a0 45).toInt = 12) => ?_)
  · refine wa_iconst B (-1) dX12_fragment_45 (by decide) ?_
    have y_10 : (q_5.1 a0 2).toInt = 0 := by rw [z_6]; rfl
    have y_11 : (q_5.1 a0 45).toInt = (q.1 a0 45).toInt := by rw [z_7]
    have z_12 : q_5.2.2.2.1 m44 = q.2.2.2.1 m44 := ((show q_5.2.2.2.1 m44 = q_1.2.2.2.1 m44 from by rw [eq_5]; rfl)).trans ((show q_1.2.2.2.1 m44 = q.2.2.2.1 m44 from by rw [eq_1]; rfl))
    exact hret _ _ _ _ dX12_fragment_46 ⟨hV_q_5, hF_q_5, hK_q_5, mL_q_5, ⟨by have h9 : ((-1) : Int32).toInt = (-1) := rfl; omega, by have h9 : ((-1) : Int32).toInt = (-1) := rfl; omega, fun z9 => by exfalso; omega, fun j _ => by rw [z_12]⟩⟩
  · refine wa_iload_n B dX12_fragment_24 rfl 2 rfl ?_
    refine wa_callSi B (As := [.int n1]) (rest := []) (k_X12_isEdge l dC dI h L hN q_5 hV_q_5 n1  ) (va_cwS 1 B.1.2.2.2.2 gX12_fragment_X12_isEdge rfl rfl rfl (by decide +kernel) ⟨Nat.le_of_ble_eq_true rfl, Nat.le_of_ble_eq_true rfl⟩) rfl rfl (Nat.le_of_ble_eq_true rfl) dX12_fragment_25 (fun r_14 q_13 w_15 => ?_)
    obtain ⟨ew_15, hw_15⟩ := w_15
    subst ew_15
    refine wa_if_eq B 45 dX12_fragment_28 (by decide) (fun (t_16 : r_14.toInt = 0) => ?_) (fun (t_16 : ¬ r_14.toInt = 0) => ?_)
    · refine wa_iconst B (-1) dX12_fragment_45 (by decide) ?_
      have y_17 : (q_5.1 a0 2).toInt = 0 := by rw [z_6]; rfl
      have y_18 : (q_5.1 a0 45).toInt = (q.1 a0 45).toInt := by rw [z_7]
      have z_19 : q_5.2.2.2.1 m44 = q.2.2.2.1 m44 := ((show q_5.2.2.2.1 m44 = q_1.2.2.2.1 m44 from by rw [eq_5]; rfl)).trans ((show q_1.2.2.2.1 m44 = q.2.2.2.1 m44 from by rw [eq_1]; rfl))
      exact hret _ _ _ _ dX12_fragment_46 ⟨hV_q_5, hF_q_5, hK_q_5, mL_q_5, ⟨by have h9 : ((-1) : Int32).toInt = (-1) := rfl; omega, by have h9 : ((-1) : Int32).toInt = (-1) := rfl; omega, fun z9 => by exfalso; omega, fun j _ => by rw [z_19]⟩⟩
    · refine wa_iload_n B dX12_fragment_31 rfl 3 rfl ?_
      refine wa_callSi B (As := [.int n2]) (rest := []) (k_X12_isEdge l dC dI h L hN q_5 hV_q_5 n2  ) (va_cwS 1 B.1.2.2.2.2 gX12_fragment_X12_isEdge rfl rfl rfl (by decide +kernel) ⟨Nat.le_of_ble_eq_true rfl, Nat.le_of_ble_eq_true rfl⟩) rfl rfl (Nat.le_of_ble_eq_true rfl) dX12_fragment_32 (fun r_21 q_20 w_22 => ?_)
      obtain ⟨ew_22, hw_22⟩ := w_22
      subst ew_22
      refine wa_if_eq B 45 dX12_fragment_35 (by decide) (fun (t_23 : r_21.toInt = 0) => ?_) (fun (t_23 : ¬ r_21.toInt = 0) => ?_)
      · refine wa_iconst B (-1) dX12_fragment_45 (by decide) ?_
        have y_24 : (q_5.1 a0 2).toInt = 0 := by rw [z_6]; rfl
        have y_25 : (q_5.1 a0 45).toInt = (q.1 a0 45).toInt := by rw [z_7]
        have z_26 : q_5.2.2.2.1 m44 = q.2.2.2.1 m44 := ((show q_5.2.2.2.1 m44 = q_1.2.2.2.1 m44 from by rw [eq_5]; rfl)).trans ((show q_1.2.2.2.1 m44 = q.2.2.2.1 m44 from by rw [eq_1]; rfl))
        exact hret _ _ _ _ dX12_fragment_46 ⟨hV_q_5, hF_q_5, hK_q_5, mL_q_5, ⟨by have h9 : ((-1) : Int32).toInt = (-1) := rfl; omega, by have h9 : ((-1) : Int32).toInt = (-1) := rfl; omega, fun z9 => by exfalso; omega, fun j _ => by rw [z_26]⟩⟩
      · refine wa_iload_n B dX12_fragment_38 rfl 0 rfl ?_
        refine wa_sipush B 200 dX12_fragment_39 (by decide) ?_
        refine wa_icmp_le B 47 dX12_fragment_42 (by decide) (fun (t_27 : (q.1 a0 2).toInt ≤ 200) => ?_) (fun (t_27 : ¬ (q.1 a0 2).toInt ≤ 200) => ?_)
        · refine wa_aload_n B dX12_fragment_47 rfl 1 rfl ?_
          refine wa_getI B (C := RX12) (T := TX12) (N := 51) iq_X12_fragment_X12 ha0 ka0 (by decide) rfl 45 (by decide) (by decide) (by decide +kernel) rfl (by decide) (v := (q.1 a0 45)) z_7 dX12_fragment_48 ?_
          refine wa_istore B [(4, .int (q.1 a0 45)), (3, .int (q.1 a0 2)), (0, .ref a0), (1, .int n1), (2, .int n2)] dX12_fragment_51 (by decide) rfl ?_
          refine wa_aload_n B dX12_fragment_53 rfl 2 rfl ?_
          have z_28 : q_5.2.2.1 a0 44 = m44 := ((show q_5.2.2.1 a0 44 = q_1.2.2.1 a0 44 from by rw [eq_5]; rfl)).trans (((show q_1.2.2.1 a0 44 = q.2.2.1 a0 44 from by rw [eq_1]; rfl)).trans (em44))
          refine wa_getR B (C := RX12) (T := TX12) (N := 51) iq_X12_fragment_X12 ha0 ka0 (by decide) rfl 44 (by decide) (by decide) (by decide +kernel) rfl (fun _ _ _ => rfl) (v := m44) z_28 dX12_fragment_54 ?_
          refine wa_iload B dX12_fragment_57 0 rfl ?_
          refine wa_iconst B 1 dX12_fragment_59 (by decide) ?_
          have z_29 : q_5.2.2.2.1 m40 = q.2.2.2.1 m40 := ((show q_5.2.2.2.1 m40 = q_1.2.2.2.1 m40 from by rw [eq_5]; rfl)).trans ((show q_1.2.2.2.1 m40 = q.2.2.2.1 m40 from by rw [eq_1]; rfl))
          have z_30 : q_5.2.2.2.1 m41 = q.2.2.2.1 m41 := ((show q_5.2.2.2.1 m41 = q_1.2.2.2.1 m41 from by rw [eq_5]; rfl)).trans ((show q_1.2.2.2.1 m41 = q.2.2.2.1 m41 from by rw [eq_1]; rfl))
          have z_31 : q_5.2.2.2.1 m44 = q.2.2.2.1 m44 := ((show q_5.2.2.2.1 m44 = q_1.2.2.2.1 m44 from by rw [eq_5]; rfl)).trans ((show q_1.2.2.2.1 m44 = q.2.2.2.1 m44 from by rw [eq_1]; rfl))
          refine wa_iastore B hm44 km44 (by decide) (by decide) (show 0 ≤ (q.1 a0 45).toInt by omega) (show (q.1 a0 45).toInt < (h.2.1 m44 : Int) by omega) dX12_fragment_60 (fun q_32 eq_32 => ?_)
          have hV_q_32 : sx_V h L q_32 := by rw [eq_32]; exact hV_q_5.up1 hm44 km44 (show sx_in 1 (0) 201 from ⟨by decide, by decide⟩)
          have hF_q_32 : sx_fr h L (fun a => h.1 a = 12 ∨ h.1 a = 150 ∨ h.1 a = 154 ∨ h.1 a = 151 ∨ h.1 a = 152 ∨ h.1 a = 153) q q_32 := hF_q_5.tr (by rw [eq_32]; exact sx_fr.pG (show h.1 m44 = 100 ∨ (h.1 m44 = 12 ∨ h.1 m44 = 150 ∨ h.1 m44 = 154 ∨ h.1 m44 = 151 ∨ h.1 m44 = 152 ∨ h.1 m44 = 153) from Or.inr (Or.inr (Or.inr (Or.inl km44)))))
          have z_33 : q_32.2.2.2.1 m44 = (upd (q.2.2.2.1 m44) ((q.1 a0 45) : Int32).toNatClampNeg 1) := by rw [eq_32, sg_pG_e, z_31]
          have z_34 : q_32.2.2.2.1 m44 ((q.1 a0 45) : Int32).toNatClampNeg = 1 := by rw [eq_32, sg_pG_e]; exact if_pos rfl
          have hK_q_32 : sx_kf a0 [0, 2, 45] q q_32 := hK_q_5.tr (sx_kf.eq (by rw [eq_32]; rfl) (by rw [eq_32]; rfl))
          have z_35 : q_32.2.2.2.1 m40 = (q.2.2.2.1 m40) := ((show q_32.2.2.2.1 m40 = q_5.2.2.2.1 m40 from by rw [eq_32]; exact sg_pG_a (sx_ka h km40 km44 (by decide)))).trans (z_29)
          have z_36 : q_32.2.2.2.1 m41 = (q.2.2.2.1 m41) := ((show q_32.2.2.2.1 m41 = q_5.2.2.2.1 m41 from by rw [eq_32]; exact sg_pG_a (sx_ka h km41 km44 (by decide)))).trans (z_30)
          have z_37 : q_32.1 a0 45 = (q.1 a0 45) := ((show q_32.1 a0 45 = q_5.1 a0 45 from by rw [eq_32]; rfl)).trans (z_7)
          have mL_q_32 : mv_L m40 m41 m44 a0 q_32 := (((mL_q_5).f z_29 z_30 z_31 (n := (q.1 a0 45).toInt) (by rw [z_7])).rm (i := ((q.1 a0 45) : Int32).toNatClampNeg) (by have a9 := zx_nc (q.1 a0 45); omega)).L z_35 z_36 z_33 (by rw [z_37])
          refine wa_iconst B 0 dX12_fragment_61 (by decide) ?_
          refine wa_istore B [(5, .int 0), (4, .int (q.1 a0 45)), (3, .int (q.1 a0 2)), (0, .ref a0), (1, .int n1), (2, .int n2)] dX12_fragment_62 (by decide) rfl ?_
          have z_40 : q_32.1 a0 2 = 0 := ((show q_32.1 a0 2 = q_5.1 a0 2 from by rw [eq_32]; rfl)).trans (z_6)
          have z_41 : q_32.1 a0 0 = 0 := ((show q_32.1 a0 0 = q_5.1 a0 0 from by rw [eq_32]; rfl)).trans (((show q_5.1 a0 0 = q_1.1 a0 0 from by rw [eq_5]; exact sg_pI_k (by decide))).trans (z_2))
          have z_42 : q_32.2.2.1 a0 1 = m1 := ((show q_32.2.2.1 a0 1 = q_5.2.2.1 a0 1 from by rw [eq_32]; rfl)).trans (((show q_5.2.2.1 a0 1 = q_1.2.2.1 a0 1 from by rw [eq_5]; rfl)).trans (((show q_1.2.2.1 a0 1 = q.2.2.1 a0 1 from by rw [eq_1]; rfl)).trans (em1)))
          have z_43 : q_32.2.2.1 a0 40 = m40 := ((show q_32.2.2.1 a0 40 = q_5.2.2.1 a0 40 from by rw [eq_32]; rfl)).trans (((show q_5.2.2.1 a0 40 = q_1.2.2.1 a0 40 from by rw [eq_5]; rfl)).trans (((show q_1.2.2.1 a0 40 = q.2.2.1 a0 40 from by rw [eq_1]; rfl)).trans (em40)))
          have z_44 : q_32.2.2.1 a0 44 = m44 := ((show q_32.2.2.1 a0 44 = q_5.2.2.1 a0 44 from by rw [eq_32]; rfl)).trans (z_28)
          have z_45 : q_32.2.2.1 a0 41 = m41 := ((show q_32.2.2.1 a0 41 = q_5.2.2.1 a0 41 from by rw [eq_32]; rfl)).trans (((show q_5.2.2.1 a0 41 = q_1.2.2.1 a0 41 from by rw [eq_5]; rfl)).trans (((show q_1.2.2.1 a0 41 = q.2.2.1 a0 41 from by rw [eq_1]; rfl)).trans (em41)))
          have z_46 : q_32.2.2.1 a0 42 = m42 := ((show q_32.2.2.1 a0 42 = q_5.2.2.1 a0 42 from by rw [eq_32]; rfl)).trans (((show q_5.2.2.1 a0 42 = q_1.2.2.1 a0 42 from by rw [eq_5]; rfl)).trans (((show q_1.2.2.1 a0 42 = q.2.2.1 a0 42 from by rw [eq_1]; rfl)).trans (em42)))
          have z_47 : q_32.2.2.1 a0 43 = m43 := ((show q_32.2.2.1 a0 43 = q_5.2.2.1 a0 43 from by rw [eq_32]; rfl)).trans (((show q_5.2.2.1 a0 43 = q_1.2.2.1 a0 43 from by rw [eq_5]; rfl)).trans (((show q_1.2.2.1 a0 43 = q.2.2.1 a0 43 from by rw [eq_1]; rfl)).trans (em43)))
          have z_48 : q_32.2.2.2.1 m1 = q.2.2.2.1 m1 := ((show q_32.2.2.2.1 m1 = q_5.2.2.2.1 m1 from by rw [eq_32]; exact sg_pG_a (sx_ka h km1 km44 (by decide)))).trans (((show q_5.2.2.2.1 m1 = q_1.2.2.2.1 m1 from by rw [eq_5]; rfl)).trans ((show q_1.2.2.2.1 m1 = q.2.2.2.1 m1 from by rw [eq_1]; rfl)))
          have z_49 : q_32.2.2.2.1 m42 = q.2.2.2.1 m42 := ((show q_32.2.2.2.1 m42 = q_5.2.2.2.1 m42 from by rw [eq_32]; exact sg_pG_a (sx_ka h km42 km44 (by decide)))).trans (((show q_5.2.2.2.1 m42 = q_1.2.2.2.1 m42 from by rw [eq_5]; rfl)).trans ((show q_1.2.2.2.1 m42 = q.2.2.2.1 m42 from by rw [eq_1]; rfl)))
          have z_50 : q_32.2.2.2.1 m43 = q.2.2.2.1 m43 := ((show q_32.2.2.2.1 m43 = q_5.2.2.2.1 m43 from by rw [eq_32]; exact sg_pG_a (sx_ka h km43 km44 (by decide)))).trans (((show q_5.2.2.2.1 m43 = q_1.2.2.2.1 m43 from by rw [eq_5]; rfl)).trans ((show q_1.2.2.2.1 m43 = q.2.2.2.1 m43 from by rw [eq_1]; rfl)))
          have Lp_64_56 : ∀ (n : Nat) (v_38 : Int32) (q_39 : Sg), sx_V h L q_39 → sx_fr h L (fun a => h.1 a = 12 ∨ h.1 a = 150 ∨ h.1 a = 154 ∨ h.1 a = 151 ∨ h.1 a = 152 ∨ h.1 a = 153) q q_39 → sx_kf a0 [0, 2, 45] q q_39 → mv_L m40 m41 m44 a0 q_39 → q_39.1 a0 2 = 0 → q_39.1 a0 45 = (q.1 a0 45) → q_39.1 a0 0 = 0 → q_39.2.2.1 a0 1 = m1 → q_39.2.2.1 a0 40 = m40 → q_39.2.2.1 a0 44 = m44 → q_39.2.2.1 a0 41 = m41 → q_39.2.2.1 a0 42 = m42 → q_39.2.2.1 a0 43 = m43 → q_39.2.2.2.1 m1 = (q.2.2.2.1 m1) → q_39.2.2.2.1 m41 = (q.2.2.2.1 m41) → q_39.2.2.2.1 m42 = (q.2.2.2.1 m42) → q_39.2.2.2.1 m43 = (q.2.2.2.1 m43) → 0 ≤ v_38.toInt → (q_39.2.2.2.1 m44 ((q.1 a0 45)).toNatClampNeg).toInt = 1 + ((mv_c (q_39.2.2.2.1 m40) (200 * ((q.1 a0 45)).toNatClampNeg) (v_38).toNatClampNeg : Nat) : Int) → v_38.toInt ≤ (q.1 a0 2).toInt → (q_39.2.2.2.1 m44 ((q.1 a0 45)).toNatClampNeg).toInt = 1 + ((ty_c (q.2.2.2.1 m1) (v_38).toNatClampNeg : Nat) : Int) → (∀ j : Nat, j ≠ ((q.1 a0 45)).toNatClampNeg → q_39.2.2.2.1 m44 j = q.2.2.2.1 m44 j) → ((q.1 a0 2).toInt - v_38.toInt : Int).toNat < n → WA l dC dI h L ({ frames := 1, cells := 0, slots := 0, locals := 20 } : Room) 6 Z q_39 64 [(5, .int v_38), (4, .int (q.1 a0 45)), (3, .int (q.1 a0 2)), (0, .ref a0), (1, .int n1), (2, .int n2)] [] := by
            intro n
            induction n with
            | zero =>
              intro v_38 q_39 hV_q_39 hF_q_39 hK_q_39 mL_q_39 p0_q_39 p1_q_39 p2_q_39 p3_q_39 p4_q_39 p5_q_39 p6_q_39 p7_q_39 p8_q_39 p9_q_39 p10_q_39 p11_q_39 p12_q_39 x_51 x_52 x_53 x_54 x_55 hn
              exact absurd hn (Nat.not_lt_zero _)
            | succ n ih_57 =>
              intro v_38 q_39 hV_q_39 hF_q_39 hK_q_39 mL_q_39 p0_q_39 p1_q_39 p2_q_39 p3_q_39 p4_q_39 p5_q_39 p6_q_39 p7_q_39 p8_q_39 p9_q_39 p10_q_39 p11_q_39 p12_q_39 x_51 x_52 x_53 x_54 x_55 hn
              refine wa_iload B dX12_fragment_64 0 rfl ?_
              have b_58 := mv_c_b (le := (q_39.2.2.2.1 m40)) (b := 200 * ((q.1 a0 45) : Int32).toNatClampNeg) (v_38 : Int32).toNatClampNeg
              have a_59 := zx_nc v_38
              refine wa_iload_n B dX12_fragment_66 rfl 2 rfl ?_
              refine wa_icmp_ge B 120 dX12_fragment_67 (by decide) (fun (t_60 : (q.1 a0 2).toInt ≤ v_38.toInt) => ?_) (fun (t_60 : ¬ (q.1 a0 2).toInt ≤ v_38.toInt) => ?_)
              · refine wa_aload_n B dX12_fragment_120 rfl 3 rfl ?_
                refine wa_getR B (C := RX12) (T := TX12) (N := 51) iq_X12_fragment_X12 ha0 ka0 (by decide) rfl 41 (by decide) (by decide) (by decide +kernel) rfl (fun _ _ _ => rfl) (v := m41) p6_q_39 dX12_fragment_121 ?_
                refine wa_iload B dX12_fragment_124 1 rfl ?_
                refine wa_iload_n B dX12_fragment_126 rfl 2 rfl ?_
                refine wa_iastore B hm41 km41 (by decide) (by decide) (show 0 ≤ (q.1 a0 45).toInt by omega) (show (q.1 a0 45).toInt < (h.2.1 m41 : Int) by omega) dX12_fragment_127 (fun q_61 eq_61 => ?_)
                have hV_q_61 : sx_V h L q_61 := by rw [eq_61]; exact hV_q_39.up1 hm41 km41 (show sx_in (q.1 a0 2) (0) 200 from ⟨by omega, by omega⟩)
                have hF_q_61 : sx_fr h L (fun a => h.1 a = 12 ∨ h.1 a = 150 ∨ h.1 a = 154 ∨ h.1 a = 151 ∨ h.1 a = 152 ∨ h.1 a = 153) q q_61 := hF_q_39.tr (by rw [eq_61]; exact sx_fr.pG (show h.1 m41 = 100 ∨ (h.1 m41 = 12 ∨ h.1 m41 = 150 ∨ h.1 m41 = 154 ∨ h.1 m41 = 151 ∨ h.1 m41 = 152 ∨ h.1 m41 = 153) from Or.inr (Or.inr (Or.inr (Or.inr (Or.inl km41))))))
                have z_62 : q_61.2.2.2.1 m41 = (upd (q.2.2.2.1 m41) ((q.1 a0 45) : Int32).toNatClampNeg (q.1 a0 2)) := by rw [eq_61, sg_pG_e, p10_q_39]
                have z_63 : q_61.2.2.2.1 m41 ((q.1 a0 45) : Int32).toNatClampNeg = (q.1 a0 2) := by rw [eq_61, sg_pG_e]; exact if_pos rfl
                have hK_q_61 : sx_kf a0 [0, 2, 45] q q_61 := hK_q_39.tr (sx_kf.eq (by rw [eq_61]; rfl) (by rw [eq_61]; rfl))
                have z_64 : q_61.2.2.2.1 m40 = q_39.2.2.2.1 m40 := (show q_61.2.2.2.1 m40 = q_39.2.2.2.1 m40 from by rw [eq_61]; exact sg_pG_a (sx_ka h km40 km41 (by decide)))
                have z_65 : q_61.2.2.2.1 m44 = q_39.2.2.2.1 m44 := (show q_61.2.2.2.1 m44 = q_39.2.2.2.1 m44 from by rw [eq_61]; exact sg_pG_a (sx_ka h km44 km41 (by decide)))
                have z_66 : q_61.1 a0 45 = (q.1 a0 45) := ((show q_61.1 a0 45 = q_39.1 a0 45 from by rw [eq_61]; rfl)).trans (p1_q_39)
                have mL_q_61 : mv_L m40 m41 m44 a0 q_61 := (((mL_q_39).f rfl p10_q_39 rfl (n := (q.1 a0 45).toInt) (by rw [p1_q_39])).fl (i := ((q.1 a0 45) : Int32).toNatClampNeg) (by have a9 := zx_nc (q.1 a0 45); omega)).L z_64 z_62 z_65 (by rw [z_66])
                refine wa_aload_n B dX12_fragment_128 rfl 3 rfl ?_
                have z_67 : q_61.2.2.1 a0 42 = m42 := ((show q_61.2.2.1 a0 42 = q_39.2.2.1 a0 42 from by rw [eq_61]; rfl)).trans (p7_q_39)
                refine wa_getR B (C := RX12) (T := TX12) (N := 51) iq_X12_fragment_X12 ha0 ka0 (by decide) rfl 42 (by decide) (by decide) (by decide +kernel) rfl (fun _ _ _ => rfl) (v := m42) z_67 dX12_fragment_129 ?_
                refine wa_iload B dX12_fragment_132 1 rfl ?_
                refine wa_iload_n B dX12_fragment_134 rfl 4 rfl ?_
                refine wa_iastore B hm42 km42 (by decide) (by decide) (show 0 ≤ (q.1 a0 45).toInt by omega) (show (q.1 a0 45).toInt < (h.2.1 m42 : Int) by omega) dX12_fragment_135 (fun q_68 eq_68 => ?_)
                have hV_q_68 : sx_V h L q_68 := by rw [eq_68]; exact hV_q_61.up1 hm42 km42 trivial
                have hF_q_68 : sx_fr h L (fun a => h.1 a = 12 ∨ h.1 a = 150 ∨ h.1 a = 154 ∨ h.1 a = 151 ∨ h.1 a = 152 ∨ h.1 a = 153) q q_68 := hF_q_61.tr (by rw [eq_68]; exact sx_fr.pG (show h.1 m42 = 100 ∨ (h.1 m42 = 12 ∨ h.1 m42 = 150 ∨ h.1 m42 = 154 ∨ h.1 m42 = 151 ∨ h.1 m42 = 152 ∨ h.1 m42 = 153) from Or.inr (Or.inr (Or.inr (Or.inr (Or.inr (Or.inl km42)))))))
                have z_69 : q_61.2.2.2.1 m42 = (q.2.2.2.1 m42) := ((show q_61.2.2.2.1 m42 = q_39.2.2.2.1 m42 from by rw [eq_61]; exact sg_pG_a (sx_ka h km42 km41 (by decide)))).trans (p11_q_39)
                have z_70 : q_68.2.2.2.1 m42 = (upd (q.2.2.2.1 m42) ((q.1 a0 45) : Int32).toNatClampNeg n1) := by rw [eq_68, sg_pG_e, z_69]
                have z_71 : q_68.2.2.2.1 m42 ((q.1 a0 45) : Int32).toNatClampNeg = n1 := by rw [eq_68, sg_pG_e]; exact if_pos rfl
                have hK_q_68 : sx_kf a0 [0, 2, 45] q q_68 := hK_q_61.tr (sx_kf.eq (by rw [eq_68]; rfl) (by rw [eq_68]; rfl))
                have mL_q_68 : mv_L m40 m41 m44 a0 q_68 := mv_L.eq ((show q_68.2.2.2.1 m40 = q_61.2.2.2.1 m40 from by rw [eq_68]; exact sg_pG_a (sx_ka h km40 km42 (by decide)))) ((show q_68.2.2.2.1 m41 = q_61.2.2.2.1 m41 from by rw [eq_68]; exact sg_pG_a (sx_ka h km41 km42 (by decide)))) ((show q_68.2.2.2.1 m44 = q_61.2.2.2.1 m44 from by rw [eq_68]; exact sg_pG_a (sx_ka h km44 km42 (by decide)))) ((show q_68.1 a0 45 = q_61.1 a0 45 from by rw [eq_68]; rfl)) mL_q_61
                refine wa_aload_n B dX12_fragment_136 rfl 3 rfl ?_
                have z_72 : q_68.2.2.1 a0 43 = m43 := ((show q_68.2.2.1 a0 43 = q_61.2.2.1 a0 43 from by rw [eq_68]; rfl)).trans (((show q_61.2.2.1 a0 43 = q_39.2.2.1 a0 43 from by rw [eq_61]; rfl)).trans (p8_q_39))
                refine wa_getR B (C := RX12) (T := TX12) (N := 51) iq_X12_fragment_X12 ha0 ka0 (by decide) rfl 43 (by decide) (by decide) (by decide +kernel) rfl (fun _ _ _ => rfl) (v := m43) z_72 dX12_fragment_137 ?_
                refine wa_iload B dX12_fragment_140 1 rfl ?_
                refine wa_iload_n B dX12_fragment_142 rfl 5 rfl ?_
                refine wa_iastore B hm43 km43 (by decide) (by decide) (show 0 ≤ (q.1 a0 45).toInt by omega) (show (q.1 a0 45).toInt < (h.2.1 m43 : Int) by omega) dX12_fragment_143 (fun q_73 eq_73 => ?_)
                have hV_q_73 : sx_V h L q_73 := by rw [eq_73]; exact hV_q_68.up1 hm43 km43 trivial
                have hF_q_73 : sx_fr h L (fun a => h.1 a = 12 ∨ h.1 a = 150 ∨ h.1 a = 154 ∨ h.1 a = 151 ∨ h.1 a = 152 ∨ h.1 a = 153) q q_73 := hF_q_68.tr (by rw [eq_73]; exact sx_fr.pG (show h.1 m43 = 100 ∨ (h.1 m43 = 12 ∨ h.1 m43 = 150 ∨ h.1 m43 = 154 ∨ h.1 m43 = 151 ∨ h.1 m43 = 152 ∨ h.1 m43 = 153) from Or.inr (Or.inr (Or.inr (Or.inr (Or.inr (Or.inr km43)))))))
                have z_74 : q_68.2.2.2.1 m43 = (q.2.2.2.1 m43) := ((show q_68.2.2.2.1 m43 = q_61.2.2.2.1 m43 from by rw [eq_68]; exact sg_pG_a (sx_ka h km43 km42 (by decide)))).trans (((show q_61.2.2.2.1 m43 = q_39.2.2.2.1 m43 from by rw [eq_61]; exact sg_pG_a (sx_ka h km43 km41 (by decide)))).trans (p12_q_39))
                have z_75 : q_73.2.2.2.1 m43 = (upd (q.2.2.2.1 m43) ((q.1 a0 45) : Int32).toNatClampNeg n2) := by rw [eq_73, sg_pG_e, z_74]
                have z_76 : q_73.2.2.2.1 m43 ((q.1 a0 45) : Int32).toNatClampNeg = n2 := by rw [eq_73, sg_pG_e]; exact if_pos rfl
                have hK_q_73 : sx_kf a0 [0, 2, 45] q q_73 := hK_q_68.tr (sx_kf.eq (by rw [eq_73]; rfl) (by rw [eq_73]; rfl))
                have mL_q_73 : mv_L m40 m41 m44 a0 q_73 := mv_L.eq ((show q_73.2.2.2.1 m40 = q_68.2.2.2.1 m40 from by rw [eq_73]; exact sg_pG_a (sx_ka h km40 km43 (by decide)))) ((show q_73.2.2.2.1 m41 = q_68.2.2.2.1 m41 from by rw [eq_73]; exact sg_pG_a (sx_ka h km41 km43 (by decide)))) ((show q_73.2.2.2.1 m44 = q_68.2.2.2.1 m44 from by rw [eq_73]; exact sg_pG_a (sx_ka h km44 km43 (by decide)))) ((show q_73.1 a0 45 = q_68.1 a0 45 from by rw [eq_73]; rfl)) mL_q_68
                refine wa_aload_n B dX12_fragment_144 rfl 3 rfl ?_
                refine wa_dup B dX12_fragment_145 rfl ?_
                have z_77 : q_73.1 a0 45 = (q.1 a0 45) := ((show q_73.1 a0 45 = q_68.1 a0 45 from by rw [eq_73]; rfl)).trans (((show q_68.1 a0 45 = q_61.1 a0 45 from by rw [eq_68]; rfl)).trans (z_66))
                refine wa_getI B (C := RX12) (T := TX12) (N := 51) iq_X12_fragment_X12 ha0 ka0 (by decide) rfl 45 (by decide) (by decide) (by decide +kernel) rfl (by decide) (v := (q.1 a0 45)) z_77 dX12_fragment_146 ?_
                have g_78 : (0 : Int) ≤ (q.1 a0 45).toInt ∧ (q.1 a0 45).toInt ≤ 12 := by rw [← z_77]; exact hV_q_73.int ha0 ka0 45
                refine wa_iconst B 1 dX12_fragment_149 (by decide) ?_
                refine wa_iadd B dX12_fragment_150 (fun v_79 ev_79 => ?_)
                have tv_79 : v_79.toInt = (q.1 a0 45).toInt + 1 := by have b0 := zx_bd (q.1 a0 45); rw [ev_79]; exact zx_add (show (-2147483648 : Int) ≤ (q.1 a0 45).toInt + 1 by omega) (show (q.1 a0 45).toInt + 1 < (2147483648 : Int) by omega)
                have z_80 : q_73.2.2.2.1 m40 = (q_39.2.2.2.1 m40) := ((show q_73.2.2.2.1 m40 = q_68.2.2.2.1 m40 from by rw [eq_73]; exact sg_pG_a (sx_ka h km40 km43 (by decide)))).trans (((show q_68.2.2.2.1 m40 = q_61.2.2.2.1 m40 from by rw [eq_68]; exact sg_pG_a (sx_ka h km40 km42 (by decide)))).trans (z_64))
                have z_81 : q_73.2.2.2.1 m41 = (upd (q.2.2.2.1 m41) ((q.1 a0 45) : Int32).toNatClampNeg (q.1 a0 2)) := ((show q_73.2.2.2.1 m41 = q_68.2.2.2.1 m41 from by rw [eq_73]; exact sg_pG_a (sx_ka h km41 km43 (by decide)))).trans (((show q_68.2.2.2.1 m41 = q_61.2.2.2.1 m41 from by rw [eq_68]; exact sg_pG_a (sx_ka h km41 km42 (by decide)))).trans (z_62))
                have z_82 : q_73.2.2.2.1 m44 = (q_39.2.2.2.1 m44) := ((show q_73.2.2.2.1 m44 = q_68.2.2.2.1 m44 from by rw [eq_73]; exact sg_pG_a (sx_ka h km44 km43 (by decide)))).trans (((show q_68.2.2.2.1 m44 = q_61.2.2.2.1 m44 from by rw [eq_68]; exact sg_pG_a (sx_ka h km44 km42 (by decide)))).trans (z_65))
                have z_83 : q_73.2.2.2.1 m44 ((q.1 a0 45) : Int32).toNatClampNeg = (q_39.2.2.2.1 m44 ((q.1 a0 45) : Int32).toNatClampNeg) := (congrFun (((show q_73.2.2.2.1 m44 = q_68.2.2.2.1 m44 from by rw [eq_73]; exact sg_pG_a (sx_ka h km44 km43 (by decide)))).trans (((show q_68.2.2.2.1 m44 = q_61.2.2.2.1 m44 from by rw [eq_68]; exact sg_pG_a (sx_ka h km44 km42 (by decide)))).trans ((show q_61.2.2.2.1 m44 = q_39.2.2.2.1 m44 from by rw [eq_61]; exact sg_pG_a (sx_ka h km44 km41 (by decide)))))) _).trans rfl
                have z_84 : q_73.2.2.2.1 m41 ((q.1 a0 45) : Int32).toNatClampNeg = (q.1 a0 2) := (congrFun (((show q_73.2.2.2.1 m41 = q_68.2.2.2.1 m41 from by rw [eq_73]; exact sg_pG_a (sx_ka h km41 km43 (by decide)))).trans ((show q_68.2.2.2.1 m41 = q_61.2.2.2.1 m41 from by rw [eq_68]; exact sg_pG_a (sx_ka h km41 km42 (by decide))))) _).trans z_63
                refine wa_putI B (C := RX12) (T := TX12) (N := 51) iq_X12_fragment_X12 ha0 ka0 (by decide) rfl 45 (by decide) (by decide) (by decide +kernel) rfl (by decide) (v := v_79) (ty := .int) tyX12 tyX12_ok nmX12 rfl (by decide +kernel) rfl rfl dX12_fragment_151 (fun q_85 eq_85 => ?_)
                have hV_q_85 : sx_V h L q_85 := by rw [eq_85]; exact hV_q_73.pI ka0 (show sx_in v_79 (0) 12 from ⟨by omega, by omega⟩)
                have hF_q_85 : sx_fr h L (fun a => h.1 a = 12 ∨ h.1 a = 150 ∨ h.1 a = 154 ∨ h.1 a = 151 ∨ h.1 a = 152 ∨ h.1 a = 153) q q_85 := hF_q_73.tr (by rw [eq_85]; exact sx_fr.pI (show h.1 a0 = 12 ∨ h.1 a0 = 150 ∨ h.1 a0 = 154 ∨ h.1 a0 = 151 ∨ h.1 a0 = 152 ∨ h.1 a0 = 153 from (Or.inl ka0)))
                have z_86 : q_85.1 a0 45 = v_79 := by rw [eq_85]; exact sg_pI_e
                have hK_q_85 : sx_kf a0 [0, 2, 45] q q_85 := hK_q_73.tr (by rw [eq_85]; exact sx_kf.pI (by decide))
                have z_87 : q_85.2.2.2.1 m40 = (q_39.2.2.2.1 m40) := ((show q_85.2.2.2.1 m40 = q_73.2.2.2.1 m40 from by rw [eq_85]; rfl)).trans (z_80)
                have z_88 : q_85.2.2.2.1 m41 = (upd (q.2.2.2.1 m41) ((q.1 a0 45) : Int32).toNatClampNeg (q.1 a0 2)) := ((show q_85.2.2.2.1 m41 = q_73.2.2.2.1 m41 from by rw [eq_85]; rfl)).trans (z_81)
                have z_89 : q_85.2.2.2.1 m44 = (q_39.2.2.2.1 m44) := ((show q_85.2.2.2.1 m44 = q_73.2.2.2.1 m44 from by rw [eq_85]; rfl)).trans (z_82)
                have mL_q_85 : mv_L m40 m41 m44 a0 q_85 := ((((mL_q_73).f z_80 z_81 z_82 (n := (q.1 a0 45).toInt) (by rw [z_77]))).inc (i := ((q.1 a0 45) : Int32).toNatClampNeg) (by have a9 := zx_nc (q.1 a0 45); omega) (by have x9 := x_52; rw [show (v_38 : Int32).toNatClampNeg = ((q.1 a0 2)).toInt.toNat from (by have a9 := zx_nc v_38; omega)] at x9; rw [zx_u1]; exact x9)).L z_87 z_88 z_89 (show (q_85.1 a0 45).toInt = _ by rw [z_86]; omega)
                refine wa_iload B dX12_fragment_154 1 rfl ?_
                have z_90 : q_85.1 a0 2 = 0 := ((show q_85.1 a0 2 = q_73.1 a0 2 from by rw [eq_85]; exact sg_pI_k (by decide))).trans (((show q_73.1 a0 2 = q_68.1 a0 2 from by rw [eq_73]; rfl)).trans (((show q_68.1 a0 2 = q_61.1 a0 2 from by rw [eq_68]; rfl)).trans (((show q_61.1 a0 2 = q_39.1 a0 2 from by rw [eq_61]; rfl)).trans (p0_q_39))))
                have y_91 : (q_85.1 a0 2).toInt = 0 := by rw [z_90]; rfl
                have y_92 : (q_85.1 a0 45).toInt = v_79.toInt := by rw [z_86]
                exact hret _ _ _ _ dX12_fragment_156 ⟨hV_q_85, hF_q_85, hK_q_85, mL_q_85, ⟨by omega, by omega, fun _ => by rw [z_89]; have x9 := x_54; rw [show (v_38 : Int32).toNatClampNeg = (q.1 a0 2).toInt.toNat from (by have a9 := zx_nc v_38; omega)] at x9; exact x9, fun j hj => by rw [z_89]; exact x_55 j hj⟩⟩
              · refine wa_aload_n B dX12_fragment_70 rfl 3 rfl ?_
                refine wa_getR B (C := RX12) (T := TX12) (N := 51) iq_X12_fragment_X12 ha0 ka0 (by decide) rfl 40 (by decide) (by decide) (by decide +kernel) rfl (fun _ _ _ => rfl) (v := m40) p4_q_39 dX12_fragment_71 ?_
                refine wa_sipush B 200 dX12_fragment_74 (by decide) ?_
                refine wa_iload B dX12_fragment_77 1 rfl ?_
                refine wa_imul B dX12_fragment_79 (fun v_93 ev_93 => ?_)
                refine wa_iload B dX12_fragment_80 0 rfl ?_
                refine wa_iadd B dX12_fragment_82 (fun v_94 ev_94 => ?_)
                refine wa_aload_n B dX12_fragment_83 rfl 3 rfl ?_
                refine wa_getR B (C := RX12) (T := TX12) (N := 51) iq_X12_fragment_X12 ha0 ka0 (by decide) rfl 1 (by decide) (by decide) (by decide +kernel) rfl (fun _ _ _ => rfl) (v := m1) p3_q_39 dX12_fragment_84 ?_
                refine wa_iload B dX12_fragment_87 0 rfl ?_
                have z_95 : q_39.2.2.2.1 m1 (v_38 : Int32).toNatClampNeg = (q.2.2.2.1 m1 (v_38 : Int32).toNatClampNeg) := congrFun p9_q_39 _
                refine wa_iaload B hm1 km1 (by decide) (by decide) (show 0 ≤ v_38.toInt by omega) (show v_38.toInt < (h.2.1 m1 : Int) by omega) (v := (q.2.2.2.1 m1 (v_38 : Int32).toNatClampNeg)) z_95 dX12_fragment_89 ?_
                have g_96 : (0 : Int) ≤ ((q.2.2.2.1 m1 (v_38 : Int32).toNatClampNeg)).toInt ∧ ((q.2.2.2.1 m1 (v_38 : Int32).toNatClampNeg)).toInt ≤ 255 := by rw [← z_95]; exact hV_q_39.cnt hm1 km1 _
                have tv_93 : v_93.toInt = 200 * (q.1 a0 45).toInt := by have b1 := zx_bd (q.1 a0 45); rw [ev_93]; exact zx_mul (show (-2147483648 : Int) ≤ 200 * (q.1 a0 45).toInt by omega) (show 200 * (q.1 a0 45).toInt < (2147483648 : Int) by omega)
                have tv_94 : v_94.toInt = v_93.toInt + v_38.toInt := by have b0 := zx_bd v_93; have b1 := zx_bd v_38; rw [ev_94]; exact zx_add (show (-2147483648 : Int) ≤ v_93.toInt + v_38.toInt by omega) (show v_93.toInt + v_38.toInt < (2147483648 : Int) by omega)
                refine wa_iastore B hm40 km40 (by decide) (by decide) (show 0 ≤ v_94.toInt by omega) (show v_94.toInt < (h.2.1 m40 : Int) by omega) dX12_fragment_90 (fun q_97 eq_97 => ?_)
                have hV_q_97 : sx_V h L q_97 := by rw [eq_97]; exact hV_q_39.up1 hm40 km40 (show sx_in ((q.2.2.2.1 m1 (v_38 : Int32).toNatClampNeg)) (0) 255 from ⟨by omega, by omega⟩)
                have hF_q_97 : sx_fr h L (fun a => h.1 a = 12 ∨ h.1 a = 150 ∨ h.1 a = 154 ∨ h.1 a = 151 ∨ h.1 a = 152 ∨ h.1 a = 153) q q_97 := hF_q_39.tr (by rw [eq_97]; exact sx_fr.pG (show h.1 m40 = 100 ∨ (h.1 m40 = 12 ∨ h.1 m40 = 150 ∨ h.1 m40 = 154 ∨ h.1 m40 = 151 ∨ h.1 m40 = 152 ∨ h.1 m40 = 153) from Or.inr (Or.inr (Or.inl km40))))
                have z_98 : q_97.2.2.2.1 m40 = (upd (q_39.2.2.2.1 m40) (v_94 : Int32).toNatClampNeg ((q.2.2.2.1 m1 (v_38 : Int32).toNatClampNeg))) := by rw [eq_97, sg_pG_e]
                have z_99 : q_97.2.2.2.1 m40 (v_94 : Int32).toNatClampNeg = (q.2.2.2.1 m1 (v_38 : Int32).toNatClampNeg) := by rw [eq_97, sg_pG_e]; exact if_pos rfl
                have hK_q_97 : sx_kf a0 [0, 2, 45] q q_97 := hK_q_39.tr (sx_kf.eq (by rw [eq_97]; rfl) (by rw [eq_97]; rfl))
                have z_100 : q_97.2.2.2.1 m41 = (q.2.2.2.1 m41) := ((show q_97.2.2.2.1 m41 = q_39.2.2.2.1 m41 from by rw [eq_97]; exact sg_pG_a (sx_ka h km41 km40 (by decide)))).trans (p10_q_39)
                have z_101 : q_97.2.2.2.1 m44 = q_39.2.2.2.1 m44 := (show q_97.2.2.2.1 m44 = q_39.2.2.2.1 m44 from by rw [eq_97]; exact sg_pG_a (sx_ka h km44 km40 (by decide)))
                have z_102 : q_97.1 a0 45 = (q.1 a0 45) := ((show q_97.1 a0 45 = q_39.1 a0 45 from by rw [eq_97]; rfl)).trans (p1_q_39)
                have mL_q_97 : mv_L m40 m41 m44 a0 q_97 := (((mL_q_39).f rfl p10_q_39 rfl (n := (q.1 a0 45).toInt) (by rw [p1_q_39])).le (i := (v_94 : Int32).toNatClampNeg) (fun j => by have z9 := (hV_q_39.cnt hm41 km41 j : sx_in _ 0 200); rw [p10_q_39] at z9; exact z9.2) (by have a9 := zx_nc v_94; omega)).L z_98 z_100 z_101 (by rw [z_102])
                refine wa_aload_n B dX12_fragment_91 rfl 3 rfl ?_
                have z_103 : q_97.2.2.1 a0 1 = m1 := ((show q_97.2.2.1 a0 1 = q_39.2.2.1 a0 1 from by rw [eq_97]; rfl)).trans (p3_q_39)
                refine wa_getR B (C := RX12) (T := TX12) (N := 51) iq_X12_fragment_X12 ha0 ka0 (by decide) rfl 1 (by decide) (by decide) (by decide +kernel) rfl (fun _ _ _ => rfl) (v := m1) z_103 dX12_fragment_92 ?_
                refine wa_iload B dX12_fragment_95 0 rfl ?_
                have z_104 : q_97.2.2.2.1 m1 (v_38 : Int32).toNatClampNeg = (q.2.2.2.1 m1 (v_38 : Int32).toNatClampNeg) := (congrFun ((show q_97.2.2.2.1 m1 = q_39.2.2.2.1 m1 from by rw [eq_97]; exact sg_pG_a (sx_ka h km1 km40 (by decide)))) _).trans z_95
                refine wa_iaload B hm1 km1 (by decide) (by decide) (show 0 ≤ v_38.toInt by omega) (show v_38.toInt < (h.2.1 m1 : Int) by omega) (v := (q.2.2.2.1 m1 (v_38 : Int32).toNatClampNeg)) z_104 dX12_fragment_97 ?_
                refine wa_bipush B 47 dX12_fragment_98 (by decide) ?_
                refine wa_icmp_ne B 114 dX12_fragment_100 (by decide) (fun (t_105 : ¬ ((q.2.2.2.1 m1 (v_38 : Int32).toNatClampNeg)).toInt = 47) => ?_) (fun (t_105 : ((q.2.2.2.1 m1 (v_38 : Int32).toNatClampNeg)).toInt = 47) => ?_)
                · obtain ⟨v_106, ev_106⟩ : ∃ z : Int32, z = v_38 + 1 := ⟨_, rfl⟩
                  refine wa_iinc B [(5, .int v_106), (4, .int (q.1 a0 45)), (3, .int (q.1 a0 2)), (0, .ref a0), (1, .int n1), (2, .int n2)] v_106 dX12_fragment_114 0 rfl (by rw [ev_106]; rfl) (by decide) rfl ?_
                  refine wa_goto B 64 dX12_fragment_117 (by decide) ?_
                  have tv_106 : v_106.toInt = v_38.toInt + 1 := by have b0 := zx_bd v_38; rw [ev_106]; exact zx_add (show (-2147483648 : Int) ≤ v_38.toInt + 1 by omega) (show v_38.toInt + 1 < (2147483648 : Int) by omega)
                  have z_107 : q_97.1 a0 2 = 0 := ((show q_97.1 a0 2 = q_39.1 a0 2 from by rw [eq_97]; rfl)).trans (p0_q_39)
                  have z_108 : q_97.1 a0 0 = 0 := ((show q_97.1 a0 0 = q_39.1 a0 0 from by rw [eq_97]; rfl)).trans (p2_q_39)
                  have z_109 : q_97.2.2.1 a0 40 = m40 := ((show q_97.2.2.1 a0 40 = q_39.2.2.1 a0 40 from by rw [eq_97]; rfl)).trans (p4_q_39)
                  have z_110 : q_97.2.2.1 a0 44 = m44 := ((show q_97.2.2.1 a0 44 = q_39.2.2.1 a0 44 from by rw [eq_97]; rfl)).trans (p5_q_39)
                  have z_111 : q_97.2.2.1 a0 41 = m41 := ((show q_97.2.2.1 a0 41 = q_39.2.2.1 a0 41 from by rw [eq_97]; rfl)).trans (p6_q_39)
                  have z_112 : q_97.2.2.1 a0 42 = m42 := ((show q_97.2.2.1 a0 42 = q_39.2.2.1 a0 42 from by rw [eq_97]; rfl)).trans (p7_q_39)
                  have z_113 : q_97.2.2.1 a0 43 = m43 := ((show q_97.2.2.1 a0 43 = q_39.2.2.1 a0 43 from by rw [eq_97]; rfl)).trans (p8_q_39)
                  have z_114 : q_97.2.2.2.1 m1 = (q.2.2.2.1 m1) := ((show q_97.2.2.2.1 m1 = q_39.2.2.2.1 m1 from by rw [eq_97]; exact sg_pG_a (sx_ka h km1 km40 (by decide)))).trans (p9_q_39)
                  have z_115 : q_97.2.2.2.1 m42 = (q.2.2.2.1 m42) := ((show q_97.2.2.2.1 m42 = q_39.2.2.2.1 m42 from by rw [eq_97]; exact sg_pG_a (sx_ka h km42 km40 (by decide)))).trans (p11_q_39)
                  have z_116 : q_97.2.2.2.1 m43 = (q.2.2.2.1 m43) := ((show q_97.2.2.2.1 m43 = q_39.2.2.2.1 m43 from by rw [eq_97]; exact sg_pG_a (sx_ka h km43 km40 (by decide)))).trans (p12_q_39)
                  have z_117 : q_97.2.2.2.1 m44 ((q.1 a0 45) : Int32).toNatClampNeg = (q_39.2.2.2.1 m44 ((q.1 a0 45) : Int32).toNatClampNeg) := (congrFun ((show q_97.2.2.2.1 m44 = q_39.2.2.2.1 m44 from by rw [eq_97]; exact sg_pG_a (sx_ka h km44 km40 (by decide)))) _).trans rfl
                  exact ih_57 v_106 q_97 hV_q_97 hF_q_97 hK_q_97 mL_q_97 z_107 z_102 z_108 z_103 z_109 z_110 z_111 z_112 z_113 z_114 z_100 z_115 z_116 (show 0 ≤ v_106.toInt from by first | assumption | omega | decide) (show (q_97.2.2.2.1 m44 ((q.1 a0 45)).toNatClampNeg).toInt = 1 + ((mv_c (q_97.2.2.2.1 m40) (200 * ((q.1 a0 45)).toNatClampNeg) (v_106).toNatClampNeg : Nat) : Int) from by have a1 := zx_nc (q.1 a0 45); have a2 := zx_nc v_38; have a3 := zx_nc v_106; have a4 := zx_nc v_94; rw [z_117, z_98, show (v_106 : Int32).toNatClampNeg = (v_38 : Int32).toNatClampNeg + 1 by omega, mv_c_w (by omega)]; split <;> omega) (show v_106.toInt ≤ (q.1 a0 2).toInt from by first | assumption | omega | decide) (show (q_97.2.2.2.1 m44 ((q.1 a0 45)).toNatClampNeg).toInt = 1 + ((ty_c (q.2.2.2.1 m1) (v_106).toNatClampNeg : Nat) : Int) from by have a2 := zx_nc v_38; have a3 := zx_nc v_106; rw [z_117]; rw [show (v_106 : Int32).toNatClampNeg = (v_38 : Int32).toNatClampNeg + 1 by omega]; unfold ty_c; split <;> omega) (show ∀ j : Nat, j ≠ ((q.1 a0 45)).toNatClampNeg → q_97.2.2.2.1 m44 j = q.2.2.2.1 m44 j from by intro j hj; rw [z_101]; exact x_55 j hj) (show ((q.1 a0 2).toInt - v_106.toInt : Int).toNat < _ from by omega)
                · refine wa_aload_n B dX12_fragment_103 rfl 3 rfl ?_
                  have z_118 : q_97.2.2.1 a0 44 = m44 := ((show q_97.2.2.1 a0 44 = q_39.2.2.1 a0 44 from by rw [eq_97]; rfl)).trans (p5_q_39)
                  refine wa_getR B (C := RX12) (T := TX12) (N := 51) iq_X12_fragment_X12 ha0 ka0 (by decide) rfl 44 (by decide) (by decide) (by decide +kernel) rfl (fun _ _ _ => rfl) (v := m44) z_118 dX12_fragment_104 ?_
                  refine wa_iload B dX12_fragment_107 1 rfl ?_
                  refine wa_dup2 B dX12_fragment_109 rfl rfl ?_
                  have z_119 : q_97.2.2.2.1 m44 ((q.1 a0 45) : Int32).toNatClampNeg = (q_39.2.2.2.1 m44 ((q.1 a0 45) : Int32).toNatClampNeg) := (congrFun ((show q_97.2.2.2.1 m44 = q_39.2.2.2.1 m44 from by rw [eq_97]; exact sg_pG_a (sx_ka h km44 km40 (by decide)))) _).trans rfl
                  refine wa_iaload B hm44 km44 (by decide) (by decide) (show 0 ≤ (q.1 a0 45).toInt by omega) (show (q.1 a0 45).toInt < (h.2.1 m44 : Int) by omega) (v := (q_39.2.2.2.1 m44 ((q.1 a0 45) : Int32).toNatClampNeg)) z_119 dX12_fragment_110 ?_
                  have g_120 : (0 : Int) ≤ ((q_39.2.2.2.1 m44 ((q.1 a0 45) : Int32).toNatClampNeg)).toInt ∧ ((q_39.2.2.2.1 m44 ((q.1 a0 45) : Int32).toNatClampNeg)).toInt ≤ 201 := by rw [← z_119]; exact hV_q_97.cnt hm44 km44 _
                  refine wa_iconst B 1 dX12_fragment_111 (by decide) ?_
                  refine wa_iadd B dX12_fragment_112 (fun v_121 ev_121 => ?_)
                  have tv_121 : v_121.toInt = ((q_39.2.2.2.1 m44 ((q.1 a0 45) : Int32).toNatClampNeg)).toInt + 1 := by have b0 := zx_bd ((q_39.2.2.2.1 m44 ((q.1 a0 45) : Int32).toNatClampNeg)); rw [ev_121]; exact zx_add (show (-2147483648 : Int) ≤ ((q_39.2.2.2.1 m44 ((q.1 a0 45) : Int32).toNatClampNeg)).toInt + 1 by omega) (show ((q_39.2.2.2.1 m44 ((q.1 a0 45) : Int32).toNatClampNeg)).toInt + 1 < (2147483648 : Int) by omega)
                  refine wa_iastore B hm44 km44 (by decide) (by decide) (show 0 ≤ (q.1 a0 45).toInt by omega) (show (q.1 a0 45).toInt < (h.2.1 m44 : Int) by omega) dX12_fragment_113 (fun q_122 eq_122 => ?_)
                  have hV_q_122 : sx_V h L q_122 := by rw [eq_122]; exact hV_q_97.up1 hm44 km44 (show sx_in v_121 (0) 201 from ⟨by omega, by omega⟩)
                  have hF_q_122 : sx_fr h L (fun a => h.1 a = 12 ∨ h.1 a = 150 ∨ h.1 a = 154 ∨ h.1 a = 151 ∨ h.1 a = 152 ∨ h.1 a = 153) q q_122 := hF_q_97.tr (by rw [eq_122]; exact sx_fr.pG (show h.1 m44 = 100 ∨ (h.1 m44 = 12 ∨ h.1 m44 = 150 ∨ h.1 m44 = 154 ∨ h.1 m44 = 151 ∨ h.1 m44 = 152 ∨ h.1 m44 = 153) from Or.inr (Or.inr (Or.inr (Or.inl km44)))))
                  have z_123 : q_122.2.2.2.1 m44 = (upd (q_39.2.2.2.1 m44) ((q.1 a0 45) : Int32).toNatClampNeg v_121) := by rw [eq_122, sg_pG_e, z_101]
                  have z_124 : q_122.2.2.2.1 m44 ((q.1 a0 45) : Int32).toNatClampNeg = v_121 := by rw [eq_122, sg_pG_e]; exact if_pos rfl
                  have hK_q_122 : sx_kf a0 [0, 2, 45] q q_122 := hK_q_97.tr (sx_kf.eq (by rw [eq_122]; rfl) (by rw [eq_122]; rfl))
                  have z_125 : q_122.2.2.2.1 m40 = (upd (q_39.2.2.2.1 m40) (v_94 : Int32).toNatClampNeg ((q.2.2.2.1 m1 (v_38 : Int32).toNatClampNeg))) := ((show q_122.2.2.2.1 m40 = q_97.2.2.2.1 m40 from by rw [eq_122]; exact sg_pG_a (sx_ka h km40 km44 (by decide)))).trans (z_98)
                  have z_126 : q_122.2.2.2.1 m41 = (q.2.2.2.1 m41) := ((show q_122.2.2.2.1 m41 = q_97.2.2.2.1 m41 from by rw [eq_122]; exact sg_pG_a (sx_ka h km41 km44 (by decide)))).trans (z_100)
                  have z_127 : q_122.1 a0 45 = (q.1 a0 45) := ((show q_122.1 a0 45 = q_97.1 a0 45 from by rw [eq_122]; rfl)).trans (z_102)
                  have mL_q_122 : mv_L m40 m41 m44 a0 q_122 := (((mL_q_97).f z_98 z_100 z_101 (n := (q.1 a0 45).toInt) (by rw [z_102])).rm (i := ((q.1 a0 45) : Int32).toNatClampNeg) (by have a9 := zx_nc (q.1 a0 45); omega)).L z_125 z_126 z_123 (by rw [z_127])
                  obtain ⟨v_128, ev_128⟩ : ∃ z : Int32, z = v_38 + 1 := ⟨_, rfl⟩
                  refine wa_iinc B [(5, .int v_128), (4, .int (q.1 a0 45)), (3, .int (q.1 a0 2)), (0, .ref a0), (1, .int n1), (2, .int n2)] v_128 dX12_fragment_114 0 rfl (by rw [ev_128]; rfl) (by decide) rfl ?_
                  refine wa_goto B 64 dX12_fragment_117 (by decide) ?_
                  have tv_128 : v_128.toInt = v_38.toInt + 1 := by have b0 := zx_bd v_38; rw [ev_128]; exact zx_add (show (-2147483648 : Int) ≤ v_38.toInt + 1 by omega) (show v_38.toInt + 1 < (2147483648 : Int) by omega)
                  have z_129 : q_122.1 a0 2 = 0 := ((show q_122.1 a0 2 = q_97.1 a0 2 from by rw [eq_122]; rfl)).trans (((show q_97.1 a0 2 = q_39.1 a0 2 from by rw [eq_97]; rfl)).trans (p0_q_39))
                  have z_130 : q_122.1 a0 0 = 0 := ((show q_122.1 a0 0 = q_97.1 a0 0 from by rw [eq_122]; rfl)).trans (((show q_97.1 a0 0 = q_39.1 a0 0 from by rw [eq_97]; rfl)).trans (p2_q_39))
                  have z_131 : q_122.2.2.1 a0 1 = m1 := ((show q_122.2.2.1 a0 1 = q_97.2.2.1 a0 1 from by rw [eq_122]; rfl)).trans (z_103)
                  have z_132 : q_122.2.2.1 a0 40 = m40 := ((show q_122.2.2.1 a0 40 = q_97.2.2.1 a0 40 from by rw [eq_122]; rfl)).trans (((show q_97.2.2.1 a0 40 = q_39.2.2.1 a0 40 from by rw [eq_97]; rfl)).trans (p4_q_39))
                  have z_133 : q_122.2.2.1 a0 44 = m44 := ((show q_122.2.2.1 a0 44 = q_97.2.2.1 a0 44 from by rw [eq_122]; rfl)).trans (z_118)
                  have z_134 : q_122.2.2.1 a0 41 = m41 := ((show q_122.2.2.1 a0 41 = q_97.2.2.1 a0 41 from by rw [eq_122]; rfl)).trans (((show q_97.2.2.1 a0 41 = q_39.2.2.1 a0 41 from by rw [eq_97]; rfl)).trans (p6_q_39))
                  have z_135 : q_122.2.2.1 a0 42 = m42 := ((show q_122.2.2.1 a0 42 = q_97.2.2.1 a0 42 from by rw [eq_122]; rfl)).trans (((show q_97.2.2.1 a0 42 = q_39.2.2.1 a0 42 from by rw [eq_97]; rfl)).trans (p7_q_39))
                  have z_136 : q_122.2.2.1 a0 43 = m43 := ((show q_122.2.2.1 a0 43 = q_97.2.2.1 a0 43 from by rw [eq_122]; rfl)).trans (((show q_97.2.2.1 a0 43 = q_39.2.2.1 a0 43 from by rw [eq_97]; rfl)).trans (p8_q_39))
                  have z_137 : q_122.2.2.2.1 m1 = (q.2.2.2.1 m1) := ((show q_122.2.2.2.1 m1 = q_97.2.2.2.1 m1 from by rw [eq_122]; exact sg_pG_a (sx_ka h km1 km44 (by decide)))).trans (((show q_97.2.2.2.1 m1 = q_39.2.2.2.1 m1 from by rw [eq_97]; exact sg_pG_a (sx_ka h km1 km40 (by decide)))).trans (p9_q_39))
                  have z_138 : q_122.2.2.2.1 m42 = (q.2.2.2.1 m42) := ((show q_122.2.2.2.1 m42 = q_97.2.2.2.1 m42 from by rw [eq_122]; exact sg_pG_a (sx_ka h km42 km44 (by decide)))).trans (((show q_97.2.2.2.1 m42 = q_39.2.2.2.1 m42 from by rw [eq_97]; exact sg_pG_a (sx_ka h km42 km40 (by decide)))).trans (p11_q_39))
                  have z_139 : q_122.2.2.2.1 m43 = (q.2.2.2.1 m43) := ((show q_122.2.2.2.1 m43 = q_97.2.2.2.1 m43 from by rw [eq_122]; exact sg_pG_a (sx_ka h km43 km44 (by decide)))).trans (((show q_97.2.2.2.1 m43 = q_39.2.2.2.1 m43 from by rw [eq_97]; exact sg_pG_a (sx_ka h km43 km40 (by decide)))).trans (p12_q_39))
                  exact ih_57 v_128 q_122 hV_q_122 hF_q_122 hK_q_122 mL_q_122 z_129 z_127 z_130 z_131 z_132 z_133 z_134 z_135 z_136 z_137 z_126 z_138 z_139 (show 0 ≤ v_128.toInt from by first | assumption | omega | decide) (show (q_122.2.2.2.1 m44 ((q.1 a0 45)).toNatClampNeg).toInt = 1 + ((mv_c (q_122.2.2.2.1 m40) (200 * ((q.1 a0 45)).toNatClampNeg) (v_128).toNatClampNeg : Nat) : Int) from by have a1 := zx_nc (q.1 a0 45); have a2 := zx_nc v_38; have a3 := zx_nc v_128; have a4 := zx_nc v_94; rw [z_124, z_125, show (v_128 : Int32).toNatClampNeg = (v_38 : Int32).toNatClampNeg + 1 by omega, mv_c_w (by omega)]; split <;> omega) (show v_128.toInt ≤ (q.1 a0 2).toInt from by first | assumption | omega | decide) (show (q_122.2.2.2.1 m44 ((q.1 a0 45)).toNatClampNeg).toInt = 1 + ((ty_c (q.2.2.2.1 m1) (v_128).toNatClampNeg : Nat) : Int) from by have a2 := zx_nc v_38; have a3 := zx_nc v_128; rw [z_124]; rw [show (v_128 : Int32).toNatClampNeg = (v_38 : Int32).toNatClampNeg + 1 by omega]; unfold ty_c; split <;> omega) (show ∀ j : Nat, j ≠ ((q.1 a0 45)).toNatClampNeg → q_122.2.2.2.1 m44 j = q.2.2.2.1 m44 j from by intro j hj; rw [z_123, ty_u2 hj]; exact x_55 j hj) (show ((q.1 a0 2).toInt - v_128.toInt : Int).toNat < _ from by omega)
          exact Lp_64_56 _ 0 q_32 hV_q_32 hF_q_32 hK_q_32 mL_q_32 z_40 z_37 z_41 z_42 z_43 z_44 z_45 z_46 z_47 z_48 z_36 z_49 z_50 (show 0 ≤ 0 from by first | assumption | omega | decide) (show (q_32.2.2.2.1 m44 ((q.1 a0 45)).toNatClampNeg).toInt = 1 + ((mv_c (q_32.2.2.2.1 m40) (200 * ((q.1 a0 45)).toNatClampNeg) ((0 : Int32)).toNatClampNeg : Nat) : Int) from by rw [z_34]; rfl) (show 0 ≤ (q.1 a0 2).toInt from by first | assumption | omega | decide) (show (q_32.2.2.2.1 m44 ((q.1 a0 45)).toNatClampNeg).toInt = 1 + ((ty_c (q.2.2.2.1 m1) ((0 : Int32)).toNatClampNeg : Nat) : Int) from by rw [z_34]; rfl) (show ∀ j : Nat, j ≠ ((q.1 a0 45)).toNatClampNeg → q_32.2.2.2.1 m44 j = q.2.2.2.1 m44 j from by intro j hj; rw [z_33]; exact ty_u2 hj) (Nat.lt_succ_self _)
        · refine wa_iconst B (-1) dX12_fragment_45 (by decide) ?_
          have y_140 : (q_5.1 a0 2).toInt = 0 := by rw [z_6]; rfl
          have y_141 : (q_5.1 a0 45).toInt = (q.1 a0 45).toInt := by rw [z_7]
          have z_142 : q_5.2.2.2.1 m44 = q.2.2.2.1 m44 := ((show q_5.2.2.2.1 m44 = q_1.2.2.2.1 m44 from by rw [eq_5]; rfl)).trans ((show q_1.2.2.2.1 m44 = q.2.2.2.1 m44 from by rw [eq_1]; rfl))
          exact hret _ _ _ _ dX12_fragment_46 ⟨hV_q_5, hF_q_5, hK_q_5, mL_q_5, ⟨by have h9 : ((-1) : Int32).toInt = (-1) := rfl; omega, by have h9 : ((-1) : Int32).toInt = (-1) := rfl; omega, fun z9 => by exfalso; omega, fun j _ => by rw [z_142]⟩⟩
set_option maxHeartbeats 4000000 in
set_option maxRecDepth 100000 in
theorem k_X12_isFragment_c (l : Launch) (dC : Nat → ClassId) (dI : Nat → Nat → Nat) (h : Sh) (L : List Nat) (hN : sx_nd L) (q : Sg) (hV : sx_V h L q) {a0 : Nat} (ha0 : a0 ∈ L) (ka0 : h.1 a0 = 12) (n1 : Int32)    : CMi l dC dI h L yX12_isFragment wsX12_isFragment ({ frames := 0, cells := 0, slots := 0, locals := 0 } : Room) q [.ref a0, .int n1] (fun r q' => q = q' ∧ (r.toInt = 1 ∧ 0 ≤ n1.toInt ∧ n1.toInt < (q.1 a0 45).toInt ∧ n1.toInt < 12 ∨ r.toInt = 0 ∧ ¬ (0 ≤ n1.toInt ∧ n1.toInt < (q.1 a0 45).toInt))) := by
  refine cm_z (cc := cX12_isFragment) (mL := 2) (own := RX12) hN (by decide) rfl rfl (Nat.le_of_ble_eq_true rfl) (fun Z B hret => ?_)
  show WA l dC dI h L ({ frames := 0, cells := 0, slots := 0, locals := 0 } : Room) 2 Z q 0 [(0, .ref a0), (1, .int n1)] []
  refine wa_iload_n B dX12_isFragment_0 rfl 1 rfl ?_
  refine wa_if_lt B 16 dX12_isFragment_1 (by decide) (fun (t_1 : n1.toInt < 0) => ?_) (fun (t_1 : ¬ n1.toInt < 0) => ?_)
  · refine wa_iconst B 0 dX12_isFragment_16 (by decide) ?_
    exact hret _ _ _ _ dX12_isFragment_17 (Or.inl rfl) ⟨rfl, (by have h9 : (0 : Int32).toInt = 0 := rfl; first | omega | (refine ⟨?_, ?_⟩ <;> omega) | trivial)⟩
  · refine wa_iload_n B dX12_isFragment_4 rfl 1 rfl ?_
    refine wa_aload_n B dX12_isFragment_5 rfl 0 rfl ?_
    refine wa_getI B (C := RX12) (T := TX12) (N := 51) iq_X12_isFragment_X12 ha0 ka0 (by decide) rfl 45 (by decide) (by decide) (by decide +kernel) rfl (by decide) (v := (q.1 a0 45)) rfl dX12_isFragment_6 ?_
    have g_2 : (0 : Int) ≤ (q.1 a0 45).toInt ∧ (q.1 a0 45).toInt ≤ 12 := hV.int ha0 ka0 45
    refine wa_icmp_ge B 16 dX12_isFragment_9 (by decide) (fun (t_3 : (q.1 a0 45).toInt ≤ n1.toInt) => ?_) (fun (t_3 : ¬ (q.1 a0 45).toInt ≤ n1.toInt) => ?_)
    · refine wa_iconst B 0 dX12_isFragment_16 (by decide) ?_
      exact hret _ _ _ _ dX12_isFragment_17 (Or.inl rfl) ⟨rfl, (by have h9 : (0 : Int32).toInt = 0 := rfl; first | omega | (refine ⟨?_, ?_⟩ <;> omega) | trivial)⟩
    · refine wa_iconst B 1 dX12_isFragment_12 (by decide) ?_
      refine wa_goto B 17 dX12_isFragment_13 (by decide) ?_
      exact hret _ _ _ _ dX12_isFragment_17 (Or.inr rfl) ⟨rfl, (by have h9 : (1 : Int32).toInt = 1 := rfl; first | omega | (refine ⟨?_, ?_⟩ <;> omega) | trivial)⟩
set_option maxHeartbeats 4000000 in
set_option maxRecDepth 100000 in
theorem k_X12_rows_c (l : Launch) (dC : Nat → ClassId) (dI : Nat → Nat → Nat) (h : Sh) (L : List Nat) (hN : sx_nd L) (q : Sg) (hV : sx_V h L q) {a0 : Nat} (ha0 : a0 ∈ L) (ka0 : h.1 a0 = 12) (n1 : Int32) {m44 : Nat} (em44 : q.2.2.1 a0 44 = m44)    : CMi l dC dI h L yX12_rows wsX12_rows ({ frames := 1, cells := 0, slots := 0, locals := 21 } : Room) q [.ref a0, .int n1] (fun r q' => sx_V h L q' ∧ sx_fr h L (fun a => h.1 a = 12) q q' ∧ sx_kf a0 [0] q q' ∧ ((0 ≤ n1.toInt ∧ n1.toInt < (q.1 a0 45).toInt → r = q.2.2.2.1 m44 n1.toNatClampNeg) ∧ (¬ (0 ≤ n1.toInt ∧ n1.toInt < (q.1 a0 45).toInt) → r = -1))) := by
  refine cm_i (cc := cX12_rows) (mL := 2) (own := RX12) hN (by decide) rfl rfl (Nat.le_of_ble_eq_true rfl) (fun Z B hret => ?_)
  have hF : sx_fr h L (fun a => h.1 a = 12) q q := sx_fr.rf
  have hK : sx_kf a0 [0] q q := sx_kf.rf
  obtain ⟨hm44, km44, lm44⟩ : m44 ∈ L ∧ h.1 m44 = 154 ∧ h.2.1 m44 = 12 := by obtain ⟨r9, e9, z1, z2, z3⟩ := hV.refn (t := 154) (n := 12) ha0 ka0 44 rfl (by decide) rfl (by decide); rw [← em44, e9]; exact ⟨z1, z2, z3⟩
  show WA l dC dI h L ({ frames := 1, cells := 0, slots := 0, locals := 21 } : Room) 2 Z q 0 [(0, .ref a0), (1, .int n1)] []
  refine wa_aload_n B dX12_rows_0 rfl 0 rfl ?_
  refine wa_iconst B 0 dX12_rows_1 (by decide) ?_
  refine wa_putI B (C := RX12) (T := TX12) (N := 51) iq_X12_rows_X12 ha0 ka0 (by decide) rfl 0 (by decide) (by decide) (by decide +kernel) rfl (by decide) (v := 0) (ty := .int) tyX12 tyX12_ok nmX12 rfl (by decide +kernel) rfl rfl dX12_rows_2 (fun q_1 eq_1 => ?_)
  have hV_q_1 : sx_V h L q_1 := by rw [eq_1]; exact hV.pI ka0 trivial
  have hF_q_1 : sx_fr h L (fun a => h.1 a = 12) q q_1 := hF.tr (by rw [eq_1]; exact sx_fr.pI (show h.1 a0 = 12 from ka0))
  have z_2 : q_1.1 a0 0 = 0 := by rw [eq_1]; exact sg_pI_e
  have hK_q_1 : sx_kf a0 [0] q q_1 := hK.tr (by rw [eq_1]; exact sx_kf.pI (by decide))
  refine wa_aload_n B dX12_rows_5 rfl 0 rfl ?_
  refine wa_iload_n B dX12_rows_6 rfl 1 rfl ?_
  have z_3 : q_1.1 a0 45 = q.1 a0 45 := (show q_1.1 a0 45 = q.1 a0 45 from by rw [eq_1]; exact sg_pI_k (by decide))
  have y_4 : (q_1.1 a0 45).toInt = (q.1 a0 45).toInt := by rw [z_3]
  refine wa_callVi B (x := (RX12, TX12, 51)) (As := [.int n1]) (rest := []) (k_X12_isFragment_c l dC dI h L hN q_1 hV_q_1 (a0 := a0) ha0 ka0 n1  ) (cwV 1 B.1.2.2.2.2 gX12_rows_X12_isFragment rfl rfl rfl (by decide +kernel) ⟨Nat.le_of_ble_eq_true rfl, Nat.le_of_ble_eq_true rfl⟩) ha0 ka0 (by decide) rfl rfl rfl (Nat.le_of_ble_eq_true rfl) dX12_rows_7 (fun r_6 q_5 w_7 => ?_)
  obtain ⟨ew_7, hw_7⟩ := w_7
  subst ew_7
  refine wa_if_eq B 22 dX12_rows_10 (by decide) (fun (t_8 : r_6.toInt = 0) => ?_) (fun (t_8 : ¬ r_6.toInt = 0) => ?_)
  · refine wa_iconst B (-1) dX12_rows_22 (by decide) ?_
    exact hret _ _ _ _ dX12_rows_23 ⟨hV_q_1, hF_q_1, hK_q_1, ⟨fun z9 => by exfalso; omega, fun _ => rfl⟩⟩
  · refine wa_aload_n B dX12_rows_13 rfl 0 rfl ?_
    have z_9 : q_1.2.2.1 a0 44 = m44 := ((show q_1.2.2.1 a0 44 = q.2.2.1 a0 44 from by rw [eq_1]; rfl)).trans (em44)
    refine wa_getR B (C := RX12) (T := TX12) (N := 51) iq_X12_rows_X12 ha0 ka0 (by decide) rfl 44 (by decide) (by decide) (by decide +kernel) rfl (fun _ _ _ => rfl) (v := m44) z_9 dX12_rows_14 ?_
    refine wa_iload_n B dX12_rows_17 rfl 1 rfl ?_
    have z_10 : q_1.2.2.2.1 m44 = q.2.2.2.1 m44 := (show q_1.2.2.2.1 m44 = q.2.2.2.1 m44 from by rw [eq_1]; rfl)
    have z_11 : q_1.2.2.2.1 m44 (n1 : Int32).toNatClampNeg = (q.2.2.2.1 m44 (n1 : Int32).toNatClampNeg) := congrFun z_10 _
    refine wa_iaload B hm44 km44 (by decide) (by decide) (show 0 ≤ n1.toInt by omega) (show n1.toInt < (h.2.1 m44 : Int) by omega) (v := (q.2.2.2.1 m44 (n1 : Int32).toNatClampNeg)) z_11 dX12_rows_18 ?_
    have g_12 : (0 : Int) ≤ ((q.2.2.2.1 m44 (n1 : Int32).toNatClampNeg)).toInt ∧ ((q.2.2.2.1 m44 (n1 : Int32).toNatClampNeg)).toInt ≤ 201 := by rw [← z_11]; exact hV_q_1.cnt hm44 km44 _
    refine wa_goto B 23 dX12_rows_19 (by decide) ?_
    exact hret _ _ _ _ dX12_rows_23 ⟨hV_q_1, hF_q_1, hK_q_1, ⟨fun _ => rfl, fun z9 => absurd (show 0 ≤ n1.toInt ∧ n1.toInt < (q.1 a0 45).toInt by omega) z9⟩⟩
