theorem iq_X12_fragment_X12 : ∀ w ∈ wsX120, w ∈ wsX12_fragment := fun _ h => List.mem_cons_of_mem _ (List.mem_append_right _ h)
set_option maxHeartbeats 4000000 in
set_option maxRecDepth 100000 in
theorem k_X12_fragment (l : Launch) (dC : Nat → ClassId) (dI : Nat → Nat → Nat) (h : Sh) (L : List Nat) (hN : sx_nd L) (q : Sg) (hV : sx_V h L q) {a0 : Nat} (ha0 : a0 ∈ L) (ka0 : h.1 a0 = 12) (n1 : Int32) (n2 : Int32) {m1 : Nat} (em1 : q.2.2.1 a0 1 = m1) {m40 : Nat} (em40 : q.2.2.1 a0 40 = m40) {m44 : Nat} (em44 : q.2.2.1 a0 44 = m44) {m41 : Nat} (em41 : q.2.2.1 a0 41 = m41) {m42 : Nat} (em42 : q.2.2.1 a0 42 = m42) {m43 : Nat} (em43 : q.2.2.1 a0 43 = m43) (mL : mv_L m40 m41 m44 a0 q)   : CMi l dC dI h L yX12_fragment wsX12_fragment ({ frames := 1, cells := 0, slots := 0, locals := 20 } : Room) q [.ref a0, .int n1, .int n2] (fun r q' => sx_V h L q' ∧ sx_fr h L (fun a => h.1 a = 12 ∨ h.1 a = 150 ∨ h.1 a = 154 ∨ h.1 a = 151 ∨ h.1 a = 152 ∨ h.1 a = 153) q q' ∧ sx_kf a0 [0, 2, 45] q q' ∧ mv_L m40 m41 m44 a0 q' ∧ ((q'.1 a0 2).toInt = 0 ∧ (((q.1 a0 45).toInt < 12 ∧ (0 ≤ n1.toInt ∧ n1.toInt ≤ 99999999) ∧ (0 ≤ n2.toInt ∧ n2.toInt ≤ 99999999) ∧ (q.1 a0 2).toInt ≤ 200) ∧ (q'.1 a0 45).toInt = (q.1 a0 45).toInt + 1 ∧ r.toInt = (q.1 a0 45).toInt ∨ ¬ ((q.1 a0 45).toInt < 12 ∧ (0 ≤ n1.toInt ∧ n1.toInt ≤ 99999999) ∧ (0 ≤ n2.toInt ∧ n2.toInt ≤ 99999999) ∧ (q.1 a0 2).toInt ≤ 200) ∧ (q'.1 a0 45).toInt = (q.1 a0 45).toInt ∧ r.toInt = -1))) := by
  refine cm_i (cc := cX12_fragment) (mL := 6) (own := RX12) hN (by decide) rfl rfl (Nat.le_of_ble_eq_true rfl) (fun Z B hret => ?_)
  have hF : sx_fr h L (fun a => h.1 a = 12 ∨ h.1 a = 150 ∨ h.1 a = 154 ∨ h.1 a = 151 ∨ h.1 a = 152 ∨ h.1 a = 153) q q := sx_fr.rf
  have hK : sx_kf a0 [0, 2, 45] q q := sx_kf.rf
  obtain ⟨hm1, km1, lm1⟩ : m1 ∈ L ∧ h.1 m1 = 111 ∧ h.2.1 m1 = 440 := by obtain ⟨r9, e9, z1, z2, z3⟩ := hV.refn (t := 111) (n := 440) ha0 ka0 1 rfl (by decide) rfl (by decide); rw [← em1, e9]; exact ⟨z1, z2, z3⟩
  obtain ⟨hm40, km40, lm40⟩ : m40 ∈ L ∧ h.1 m40 = 150 ∧ h.2.1 m40 = 2400 := by obtain ⟨r9, e9, z1, z2, z3⟩ := hV.refn (t := 150) (n := 2400) ha0 ka0 40 rfl (by decide) rfl (by decide); rw [← em40, e9]; exact ⟨z1, z2, z3⟩
  obtain ⟨hm44, km44, lm44⟩ : m44 ∈ L ∧ h.1 m44 = 154 ∧ h.2.1 m44 = 12 := by obtain ⟨r9, e9, z1, z2, z3⟩ := hV.refn (t := 154) (n := 12) ha0 ka0 44 rfl (by decide) rfl (by decide); rw [← em44, e9]; exact ⟨z1, z2, z3⟩
  obtain ⟨hm41, km41, lm41⟩ : m41 ∈ L ∧ h.1 m41 = 151 ∧ h.2.1 m41 = 12 := by obtain ⟨r9, e9, z1, z2, z3⟩ := hV.refn (t := 151) (n := 12) ha0 ka0 41 rfl (by decide) rfl (by decide); rw [← em41, e9]; exact ⟨z1, z2, z3⟩
  obtain ⟨hm42, km42, lm42⟩ : m42 ∈ L ∧ h.1 m42 = 152 ∧ h.2.1 m42 = 12 := by obtain ⟨r9, e9, z1, z2, z3⟩ := hV.refn (t := 152) (n := 12) ha0 ka0 42 rfl (by decide) rfl (by decide); rw [← em42, e9]; exact ⟨z1, z2, z3⟩
  obtain ⟨hm43, km43, lm43⟩ : m43 ∈ L ∧ h.1 m43 = 153 ∧ h.2.1 m43 = 12 := by obtain ⟨r9, e9, z1, z2, z3⟩ := hV.refn (t := 153) (n := 12) ha0 ka0 43 rfl (by decide) rfl (by decide); rw [← em43, e9]; exact ⟨z1, z2, z3⟩
  show WA l dC dI h L ({ frames := 1, cells := 0, slots := 0, locals := 20 } : Room) 6 Z q 0 [(0, .ref a0), (1, .int n1), (2, .int n2)] []
  refine wa_aload_n B dX12_fragment_0 rfl 0 rfl ?_
  refine wa_iconst B 0 dX12_fragment_1 (by decide) ?_
  refine wa_putI B (C := RX12) (T := TX12) (N := 51) iq_X12_fragment_X12 ha0 ka0 (by decide) rfl 0 (by decide) (by decide) (by decide +kernel) rfl (by decide) (v := 0) (ty := .int) tyX12 tyX12_ok nmX12 rfl (by decide +kernel) rfl rfl dX12_fragment_2 (fun q_1 eq_1 => ?_)
  have hV_q_1 : sx_V h L q_1 := by rw [eq_1]; exact hV.pI ka0 trivial
  have hF_q_1 : sx_fr h L (fun a => h.1 a = 12 ∨ h.1 a = 150 ∨ h.1 a = 154 ∨ h.1 a = 151 ∨ h.1 a = 152 ∨ h.1 a = 153) q q_1 := hF.tr (by rw [eq_1]; exact sx_fr.pI (show h.1 a0 = 12 ∨ h.1 a0 = 150 ∨ h.1 a0 = 154 ∨ h.1 a0 = 151 ∨ h.1 a0 = 152 ∨ h.1 a0 = 153 from by omega))
  have z_2 : q_1.1 a0 0 = 0 := by rw [eq_1]; exact sg_pI_e
  have hK_q_1 : sx_kf a0 [0, 2, 45] q q_1 := hK.tr (by rw [eq_1]; exact sx_kf.pI (by decide))
  have mL_q_1 : mv_L m40 m41 m44 a0 q_1 := mv_L.eq ((show q_1.2.2.2.1 m40 = q.2.2.2.1 m40 from by rw [eq_1]; rfl)) ((show q_1.2.2.2.1 m41 = q.2.2.2.1 m41 from by rw [eq_1]; rfl)) ((show q_1.2.2.2.1 m44 = q.2.2.2.1 m44 from by rw [eq_1]; rfl)) ((show q_1.1 a0 45 = q.1 a0 45 from by rw [eq_1]; exact sg_pI_k (by decide))) mL
  refine wa_aload_n B dX12_fragment_5 rfl 0 rfl ?_
  have z_3 : q_1.1 a0 2 = q.1 a0 2 := (show q_1.1 a0 2 = q.1 a0 2 from by rw [eq_1]; exact sg_pI_k (by decide))
  refine wa_getI B (C := RX12) (T := TX12) (N := 51) iq_X12_fragment_X12 ha0 ka0 (by decide) rfl 2 (by decide) (by decide) (by decide +kernel) rfl (by decide) (v := (q.1 a0 2)) z_3 dX12_fragment_6 ?_
  have g_4 : (0 : Int) ≤ (q.1 a0 2).toInt ∧ (q.1 a0 2).toInt ≤ 440 := by rw [← z_3]; exact hV_q_1.int ha0 ka0 2
  refine wa_istore_n B [(3, .int (q.1 a0 2)), (0, .ref a0), (1, .int n1), (2, .int n2)] dX12_fragment_9 rfl (by decide) rfl ?_
  refine wa_aload_n B dX12_fragment_10 rfl 1 rfl ?_
  refine wa_iconst B 0 dX12_fragment_11 (by decide) ?_
  refine wa_putI B (C := RX12) (T := TX12) (N := 51) iq_X12_fragment_X12 ha0 ka0 (by decide) rfl 2 (by decide) (by decide) (by decide +kernel) rfl (by decide) (v := 0) (ty := .int) tyX12 tyX12_ok nmX12 rfl (by decide +kernel) rfl rfl dX12_fragment_12 (fun q_5 eq_5 => ?_)
  have hV_q_5 : sx_V h L q_5 := by rw [eq_5]; exact hV_q_1.pI ka0 (show sx_in 0 (0) 440 from ⟨by decide, by decide⟩)
  have hF_q_5 : sx_fr h L (fun a => h.1 a = 12 ∨ h.1 a = 150 ∨ h.1 a = 154 ∨ h.1 a = 151 ∨ h.1 a = 152 ∨ h.1 a = 153) q q_5 := hF_q_1.tr (by rw [eq_5]; exact sx_fr.pI (show h.1 a0 = 12 ∨ h.1 a0 = 150 ∨ h.1 a0 = 154 ∨ h.1 a0 = 151 ∨ h.1 a0 = 152 ∨ h.1 a0 = 153 from by omega))
  have z_6 : q_5.1 a0 2 = 0 := by rw [eq_5]; exact sg_pI_e
  have hK_q_5 : sx_kf a0 [0, 2, 45] q q_5 := hK_q_1.tr (by rw [eq_5]; exact sx_kf.pI (by decide))
  have mL_q_5 : mv_L m40 m41 m44 a0 q_5 := mv_L.eq ((show q_5.2.2.2.1 m40 = q_1.2.2.2.1 m40 from by rw [eq_5]; rfl)) ((show q_5.2.2.2.1 m41 = q_1.2.2.2.1 m41 from by rw [eq_5]; rfl)) ((show q_5.2.2.2.1 m44 = q_1.2.2.2.1 m44 from by rw [eq_5]; rfl)) ((show q_5.1 a0 45 = q_1.1 a0 45 from by rw [eq_5]; exact sg_pI_k (by decide))) mL_q_1
  refine wa_aload_n B dX12_fragment_15 rfl 1 rfl ?_
  have z_7 : q_5.1 a0 45 = q.1 a0 45 := ((show q_5.1 a0 45 = q_1.1 a0 45 from by rw [eq_5]; exact sg_pI_k (by decide))).trans ((show q_1.1 a0 45 = q.1 a0 45 from by rw [eq_1]; exact sg_pI_k (by decide)))
  refine wa_getI B (C := RX12) (T := TX12) (N := 51) iq_X12_fragment_X12 ha0 ka0 (by decide) rfl 45 (by decide) (by decide) (by decide +kernel) rfl (by decide) (v := (q.1 a0 45)) z_7 dX12_fragment_16 ?_
  have g_8 : (0 : Int) ≤ (q.1 a0 45).toInt ∧ (q.1 a0 45).toInt ≤ 12 := by rw [← z_7]; exact hV_q_5.int ha0 ka0 45
  refine wa_bipush B 12 dX12_fragment_19 (by decide) ?_
  refine wa_icmp_eq B 45 dX12_fragment_21 (by decide) (fun (t_9 : (q.1 a0 45).toInt = 12) => ?_) (fun (t_9 : ¬ (q.1 a0 45).toInt = 12) => ?_)
  · refine wa_iconst B (-1) dX12_fragment_45 (by decide) ?_
    have y_10 : (q_5.1 a0 2).toInt = 0 := by rw [z_6]; rfl
    have y_11 : (q_5.1 a0 45).toInt = (q.1 a0 45).toInt := by rw [z_7]
    exact hret _ _ _ _ dX12_fragment_46 ⟨hV_q_5, hF_q_5, hK_q_5, mL_q_5, (by have h9 : ((-1) : Int32).toInt = (-1) := rfl; first | omega | (refine ⟨?_, ?_⟩ <;> omega) | trivial)⟩
  · refine wa_iload_n B dX12_fragment_24 rfl 2 rfl ?_
    refine wa_callSi B (As := [.int n1]) (rest := []) (k_X12_isEdge l dC dI h L hN q_5 hV_q_5 n1  ) (va_cwS 1 B.1.2.2.2.2 gX12_fragment_X12_isEdge rfl rfl rfl (by decide +kernel) ⟨Nat.le_of_ble_eq_true rfl, Nat.le_of_ble_eq_true rfl⟩) rfl rfl (Nat.le_of_ble_eq_true rfl) dX12_fragment_25 (fun r_13 q_12 w_14 => ?_)
    obtain ⟨ew_14, hw_14⟩ := w_14
    subst ew_14
    refine wa_if_eq B 45 dX12_fragment_28 (by decide) (fun (t_15 : r_13.toInt = 0) => ?_) (fun (t_15 : ¬ r_13.toInt = 0) => ?_)
    · refine wa_iconst B (-1) dX12_fragment_45 (by decide) ?_
      have y_16 : (q_5.1 a0 2).toInt = 0 := by rw [z_6]; rfl
      have y_17 : (q_5.1 a0 45).toInt = (q.1 a0 45).toInt := by rw [z_7]
      exact hret _ _ _ _ dX12_fragment_46 ⟨hV_q_5, hF_q_5, hK_q_5, mL_q_5, (by have h9 : ((-1) : Int32).toInt = (-1) := rfl; first | omega | (refine ⟨?_, ?_⟩ <;> omega) | trivial)⟩
    · refine wa_iload_n B dX12_fragment_31 rfl 3 rfl ?_
      refine wa_callSi B (As := [.int n2]) (rest := []) (k_X12_isEdge l dC dI h L hN q_5 hV_q_5 n2  ) (va_cwS 1 B.1.2.2.2.2 gX12_fragment_X12_isEdge rfl rfl rfl (by decide +kernel) ⟨Nat.le_of_ble_eq_true rfl, Nat.le_of_ble_eq_true rfl⟩) rfl rfl (Nat.le_of_ble_eq_true rfl) dX12_fragment_32 (fun r_19 q_18 w_20 => ?_)
      obtain ⟨ew_20, hw_20⟩ := w_20
      subst ew_20
      refine wa_if_eq B 45 dX12_fragment_35 (by decide) (fun (t_21 : r_19.toInt = 0) => ?_) (fun (t_21 : ¬ r_19.toInt = 0) => ?_)
      · refine wa_iconst B (-1) dX12_fragment_45 (by decide) ?_
        have y_22 : (q_5.1 a0 2).toInt = 0 := by rw [z_6]; rfl
        have y_23 : (q_5.1 a0 45).toInt = (q.1 a0 45).toInt := by rw [z_7]
        exact hret _ _ _ _ dX12_fragment_46 ⟨hV_q_5, hF_q_5, hK_q_5, mL_q_5, (by have h9 : ((-1) : Int32).toInt = (-1) := rfl; first | omega | (refine ⟨?_, ?_⟩ <;> omega) | trivial)⟩
      · refine wa_iload_n B dX12_fragment_38 rfl 0 rfl ?_
        refine wa_sipush B 200 dX12_fragment_39 (by decide) ?_
        refine wa_icmp_le B 47 dX12_fragment_42 (by decide) (fun (t_24 : (q.1 a0 2).toInt ≤ 200) => ?_) (fun (t_24 : ¬ (q.1 a0 2).toInt ≤ 200) => ?_)
        · refine wa_aload_n B dX12_fragment_47 rfl 1 rfl ?_
          refine wa_getI B (C := RX12) (T := TX12) (N := 51) iq_X12_fragment_X12 ha0 ka0 (by decide) rfl 45 (by decide) (by decide) (by decide +kernel) rfl (by decide) (v := (q.1 a0 45)) z_7 dX12_fragment_48 ?_
          refine wa_istore B [(4, .int (q.1 a0 45)), (3, .int (q.1 a0 2)), (0, .ref a0), (1, .int n1), (2, .int n2)] dX12_fragment_51 (by decide) rfl ?_
          refine wa_aload_n B dX12_fragment_53 rfl 2 rfl ?_
          have z_25 : q_5.2.2.1 a0 44 = m44 := ((show q_5.2.2.1 a0 44 = q_1.2.2.1 a0 44 from by rw [eq_5]; rfl)).trans (((show q_1.2.2.1 a0 44 = q.2.2.1 a0 44 from by rw [eq_1]; rfl)).trans (em44))
          refine wa_getR B (C := RX12) (T := TX12) (N := 51) iq_X12_fragment_X12 ha0 ka0 (by decide) rfl 44 (by decide) (by decide) (by decide +kernel) rfl (fun _ _ _ => rfl) (v := m44) z_25 dX12_fragment_54 ?_
          refine wa_iload B dX12_fragment_57 0 rfl ?_
          refine wa_iconst B 1 dX12_fragment_59 (by decide) ?_
          have z_26 : q_5.2.2.2.1 m40 = q.2.2.2.1 m40 := ((show q_5.2.2.2.1 m40 = q_1.2.2.2.1 m40 from by rw [eq_5]; rfl)).trans ((show q_1.2.2.2.1 m40 = q.2.2.2.1 m40 from by rw [eq_1]; rfl))
          have z_27 : q_5.2.2.2.1 m41 = q.2.2.2.1 m41 := ((show q_5.2.2.2.1 m41 = q_1.2.2.2.1 m41 from by rw [eq_5]; rfl)).trans ((show q_1.2.2.2.1 m41 = q.2.2.2.1 m41 from by rw [eq_1]; rfl))
          have z_28 : q_5.2.2.2.1 m44 = q.2.2.2.1 m44 := ((show q_5.2.2.2.1 m44 = q_1.2.2.2.1 m44 from by rw [eq_5]; rfl)).trans ((show q_1.2.2.2.1 m44 = q.2.2.2.1 m44 from by rw [eq_1]; rfl))
          refine wa_iastore B hm44 km44 (by decide) (by decide) (show 0 ≤ (q.1 a0 45).toInt by omega) (show (q.1 a0 45).toInt < (h.2.1 m44 : Int) by omega) dX12_fragment_60 (fun q_29 eq_29 => ?_)
          have hV_q_29 : sx_V h L q_29 := by rw [eq_29]; exact hV_q_5.up1 hm44 km44 (show sx_in 1 (0) 201 from ⟨by decide, by decide⟩)
          have hF_q_29 : sx_fr h L (fun a => h.1 a = 12 ∨ h.1 a = 150 ∨ h.1 a = 154 ∨ h.1 a = 151 ∨ h.1 a = 152 ∨ h.1 a = 153) q q_29 := hF_q_5.tr (by rw [eq_29]; exact sx_fr.pG (show h.1 m44 = 100 ∨ (h.1 m44 = 12 ∨ h.1 m44 = 150 ∨ h.1 m44 = 154 ∨ h.1 m44 = 151 ∨ h.1 m44 = 152 ∨ h.1 m44 = 153) from by omega))
          have z_30 : q_29.2.2.2.1 m44 = (upd (q.2.2.2.1 m44) ((q.1 a0 45) : Int32).toNatClampNeg 1) := by rw [eq_29, sg_pG_e, z_28]
          have z_31 : q_29.2.2.2.1 m44 ((q.1 a0 45) : Int32).toNatClampNeg = 1 := by rw [eq_29, sg_pG_e]; exact if_pos rfl
          have hK_q_29 : sx_kf a0 [0, 2, 45] q q_29 := hK_q_5.tr (sx_kf.eq (by rw [eq_29]; rfl) (by rw [eq_29]; rfl))
          have z_32 : q_29.2.2.2.1 m40 = (q.2.2.2.1 m40) := ((show q_29.2.2.2.1 m40 = q_5.2.2.2.1 m40 from by rw [eq_29]; exact sg_pG_a (sx_ka h km40 km44 (by decide)))).trans (z_26)
          have z_33 : q_29.2.2.2.1 m41 = (q.2.2.2.1 m41) := ((show q_29.2.2.2.1 m41 = q_5.2.2.2.1 m41 from by rw [eq_29]; exact sg_pG_a (sx_ka h km41 km44 (by decide)))).trans (z_27)
          have z_34 : q_29.1 a0 45 = (q.1 a0 45) := ((show q_29.1 a0 45 = q_5.1 a0 45 from by rw [eq_29]; rfl)).trans (z_7)
          have mL_q_29 : mv_L m40 m41 m44 a0 q_29 := (((mL_q_5).f z_26 z_27 z_28 (n := (q.1 a0 45).toInt) (by rw [z_7])).rm (i := ((q.1 a0 45) : Int32).toNatClampNeg) (by have a9 := zx_nc (q.1 a0 45); omega)).L z_32 z_33 z_30 (by rw [z_34])
          refine wa_iconst B 0 dX12_fragment_61 (by decide) ?_
          refine wa_istore B [(5, .int 0), (4, .int (q.1 a0 45)), (3, .int (q.1 a0 2)), (0, .ref a0), (1, .int n1), (2, .int n2)] dX12_fragment_62 (by decide) rfl ?_
          have z_37 : q_29.1 a0 2 = 0 := ((show q_29.1 a0 2 = q_5.1 a0 2 from by rw [eq_29]; rfl)).trans (z_6)
          have z_38 : q_29.1 a0 0 = 0 := ((show q_29.1 a0 0 = q_5.1 a0 0 from by rw [eq_29]; rfl)).trans (((show q_5.1 a0 0 = q_1.1 a0 0 from by rw [eq_5]; exact sg_pI_k (by decide))).trans (z_2))
          have z_39 : q_29.2.2.1 a0 1 = m1 := ((show q_29.2.2.1 a0 1 = q_5.2.2.1 a0 1 from by rw [eq_29]; rfl)).trans (((show q_5.2.2.1 a0 1 = q_1.2.2.1 a0 1 from by rw [eq_5]; rfl)).trans (((show q_1.2.2.1 a0 1 = q.2.2.1 a0 1 from by rw [eq_1]; rfl)).trans (em1)))
          have z_40 : q_29.2.2.1 a0 40 = m40 := ((show q_29.2.2.1 a0 40 = q_5.2.2.1 a0 40 from by rw [eq_29]; rfl)).trans (((show q_5.2.2.1 a0 40 = q_1.2.2.1 a0 40 from by rw [eq_5]; rfl)).trans (((show q_1.2.2.1 a0 40 = q.2.2.1 a0 40 from by rw [eq_1]; rfl)).trans (em40)))
          have z_41 : q_29.2.2.1 a0 44 = m44 := ((show q_29.2.2.1 a0 44 = q_5.2.2.1 a0 44 from by rw [eq_29]; rfl)).trans (z_25)
          have z_42 : q_29.2.2.1 a0 41 = m41 := ((show q_29.2.2.1 a0 41 = q_5.2.2.1 a0 41 from by rw [eq_29]; rfl)).trans (((show q_5.2.2.1 a0 41 = q_1.2.2.1 a0 41 from by rw [eq_5]; rfl)).trans (((show q_1.2.2.1 a0 41 = q.2.2.1 a0 41 from by rw [eq_1]; rfl)).trans (em41)))
          have z_43 : q_29.2.2.1 a0 42 = m42 := ((show q_29.2.2.1 a0 42 = q_5.2.2.1 a0 42 from by rw [eq_29]; rfl)).trans (((show q_5.2.2.1 a0 42 = q_1.2.2.1 a0 42 from by rw [eq_5]; rfl)).trans (((show q_1.2.2.1 a0 42 = q.2.2.1 a0 42 from by rw [eq_1]; rfl)).trans (em42)))
          have z_44 : q_29.2.2.1 a0 43 = m43 := ((show q_29.2.2.1 a0 43 = q_5.2.2.1 a0 43 from by rw [eq_29]; rfl)).trans (((show q_5.2.2.1 a0 43 = q_1.2.2.1 a0 43 from by rw [eq_5]; rfl)).trans (((show q_1.2.2.1 a0 43 = q.2.2.1 a0 43 from by rw [eq_1]; rfl)).trans (em43)))
          have z_45 : q_29.2.2.2.1 m1 = q.2.2.2.1 m1 := ((show q_29.2.2.2.1 m1 = q_5.2.2.2.1 m1 from by rw [eq_29]; exact sg_pG_a (sx_ka h km1 km44 (by decide)))).trans (((show q_5.2.2.2.1 m1 = q_1.2.2.2.1 m1 from by rw [eq_5]; rfl)).trans ((show q_1.2.2.2.1 m1 = q.2.2.2.1 m1 from by rw [eq_1]; rfl)))
          have z_46 : q_29.2.2.2.1 m42 = q.2.2.2.1 m42 := ((show q_29.2.2.2.1 m42 = q_5.2.2.2.1 m42 from by rw [eq_29]; exact sg_pG_a (sx_ka h km42 km44 (by decide)))).trans (((show q_5.2.2.2.1 m42 = q_1.2.2.2.1 m42 from by rw [eq_5]; rfl)).trans ((show q_1.2.2.2.1 m42 = q.2.2.2.1 m42 from by rw [eq_1]; rfl)))
          have z_47 : q_29.2.2.2.1 m43 = q.2.2.2.1 m43 := ((show q_29.2.2.2.1 m43 = q_5.2.2.2.1 m43 from by rw [eq_29]; exact sg_pG_a (sx_ka h km43 km44 (by decide)))).trans (((show q_5.2.2.2.1 m43 = q_1.2.2.2.1 m43 from by rw [eq_5]; rfl)).trans ((show q_1.2.2.2.1 m43 = q.2.2.2.1 m43 from by rw [eq_1]; rfl)))
          have Lp_64_51 : ∀ (n : Nat) (v_35 : Int32) (q_36 : Sg), sx_V h L q_36 → sx_fr h L (fun a => h.1 a = 12 ∨ h.1 a = 150 ∨ h.1 a = 154 ∨ h.1 a = 151 ∨ h.1 a = 152 ∨ h.1 a = 153) q q_36 → sx_kf a0 [0, 2, 45] q q_36 → mv_L m40 m41 m44 a0 q_36 → q_36.1 a0 45 = (q.1 a0 45) → q_36.1 a0 2 = 0 → q_36.1 a0 0 = 0 → q_36.2.2.1 a0 1 = m1 → q_36.2.2.1 a0 40 = m40 → q_36.2.2.1 a0 44 = m44 → q_36.2.2.1 a0 41 = m41 → q_36.2.2.1 a0 42 = m42 → q_36.2.2.1 a0 43 = m43 → q_36.2.2.2.1 m1 = (q.2.2.2.1 m1) → q_36.2.2.2.1 m41 = (q.2.2.2.1 m41) → q_36.2.2.2.1 m42 = (q.2.2.2.1 m42) → q_36.2.2.2.1 m43 = (q.2.2.2.1 m43) → 0 ≤ v_35.toInt → (q_36.2.2.2.1 m44 ((q.1 a0 45)).toNatClampNeg).toInt = 1 + ((mv_c (q_36.2.2.2.1 m40) (200 * ((q.1 a0 45)).toNatClampNeg) (v_35).toNatClampNeg : Nat) : Int) → v_35.toInt ≤ (q.1 a0 2).toInt → ((q.1 a0 2).toInt - v_35.toInt : Int).toNat < n → WA l dC dI h L ({ frames := 1, cells := 0, slots := 0, locals := 20 } : Room) 6 Z q_36 64 [(5, .int v_35), (4, .int (q.1 a0 45)), (3, .int (q.1 a0 2)), (0, .ref a0), (1, .int n1), (2, .int n2)] [] := by
            intro n
            induction n with
            | zero =>
              intro v_35 q_36 hV_q_36 hF_q_36 hK_q_36 mL_q_36 p0_q_36 p1_q_36 p2_q_36 p3_q_36 p4_q_36 p5_q_36 p6_q_36 p7_q_36 p8_q_36 p9_q_36 p10_q_36 p11_q_36 p12_q_36 x_48 x_49 x_50 hn
              exact absurd hn (Nat.not_lt_zero _)
            | succ n ih_52 =>
              intro v_35 q_36 hV_q_36 hF_q_36 hK_q_36 mL_q_36 p0_q_36 p1_q_36 p2_q_36 p3_q_36 p4_q_36 p5_q_36 p6_q_36 p7_q_36 p8_q_36 p9_q_36 p10_q_36 p11_q_36 p12_q_36 x_48 x_49 x_50 hn
              refine wa_iload B dX12_fragment_64 0 rfl ?_
              have b_53 := mv_c_b (le := (q_36.2.2.2.1 m40)) (b := 200 * ((q.1 a0 45) : Int32).toNatClampNeg) (v_35 : Int32).toNatClampNeg
              have a_54 := zx_nc v_35
              refine wa_iload_n B dX12_fragment_66 rfl 2 rfl ?_
              refine wa_icmp_ge B 120 dX12_fragment_67 (by decide) (fun (t_55 : (q.1 a0 2).toInt ≤ v_35.toInt) => ?_) (fun (t_55 : ¬ (q.1 a0 2).toInt ≤ v_35.toInt) => ?_)
              · refine wa_aload_n B dX12_fragment_120 rfl 3 rfl ?_
                refine wa_getR B (C := RX12) (T := TX12) (N := 51) iq_X12_fragment_X12 ha0 ka0 (by decide) rfl 41 (by decide) (by decide) (by decide +kernel) rfl (fun _ _ _ => rfl) (v := m41) p6_q_36 dX12_fragment_121 ?_
                refine wa_iload B dX12_fragment_124 1 rfl ?_
                refine wa_iload_n B dX12_fragment_126 rfl 2 rfl ?_
                refine wa_iastore B hm41 km41 (by decide) (by decide) (show 0 ≤ (q.1 a0 45).toInt by omega) (show (q.1 a0 45).toInt < (h.2.1 m41 : Int) by omega) dX12_fragment_127 (fun q_56 eq_56 => ?_)
                have hV_q_56 : sx_V h L q_56 := by rw [eq_56]; exact hV_q_36.up1 hm41 km41 (show sx_in (q.1 a0 2) (0) 200 from ⟨by omega, by omega⟩)
                have hF_q_56 : sx_fr h L (fun a => h.1 a = 12 ∨ h.1 a = 150 ∨ h.1 a = 154 ∨ h.1 a = 151 ∨ h.1 a = 152 ∨ h.1 a = 153) q q_56 := hF_q_36.tr (by rw [eq_56]; exact sx_fr.pG (show h.1 m41 = 100 ∨ (h.1 m41 = 12 ∨ h.1 m41 = 150 ∨ h.1 m41 = 154 ∨ h.1 m41 = 151 ∨ h.1 m41 = 152 ∨ h.1 m41 = 153) from by omega))
                have z_57 : q_56.2.2.2.1 m41 = (upd (q.2.2.2.1 m41) ((q.1 a0 45) : Int32).toNatClampNeg (q.1 a0 2)) := by rw [eq_56, sg_pG_e, p10_q_36]
                have z_58 : q_56.2.2.2.1 m41 ((q.1 a0 45) : Int32).toNatClampNeg = (q.1 a0 2) := by rw [eq_56, sg_pG_e]; exact if_pos rfl
                have hK_q_56 : sx_kf a0 [0, 2, 45] q q_56 := hK_q_36.tr (sx_kf.eq (by rw [eq_56]; rfl) (by rw [eq_56]; rfl))
                have z_59 : q_56.2.2.2.1 m40 = q_36.2.2.2.1 m40 := (show q_56.2.2.2.1 m40 = q_36.2.2.2.1 m40 from by rw [eq_56]; exact sg_pG_a (sx_ka h km40 km41 (by decide)))
                have z_60 : q_56.2.2.2.1 m44 = q_36.2.2.2.1 m44 := (show q_56.2.2.2.1 m44 = q_36.2.2.2.1 m44 from by rw [eq_56]; exact sg_pG_a (sx_ka h km44 km41 (by decide)))
                have z_61 : q_56.1 a0 45 = (q.1 a0 45) := ((show q_56.1 a0 45 = q_36.1 a0 45 from by rw [eq_56]; rfl)).trans (p0_q_36)
                have mL_q_56 : mv_L m40 m41 m44 a0 q_56 := (((mL_q_36).f rfl p10_q_36 rfl (n := (q.1 a0 45).toInt) (by rw [p0_q_36])).fl (i := ((q.1 a0 45) : Int32).toNatClampNeg) (by have a9 := zx_nc (q.1 a0 45); omega)).L z_59 z_57 z_60 (by rw [z_61])
                refine wa_aload_n B dX12_fragment_128 rfl 3 rfl ?_
                have z_62 : q_56.2.2.1 a0 42 = m42 := ((show q_56.2.2.1 a0 42 = q_36.2.2.1 a0 42 from by rw [eq_56]; rfl)).trans (p7_q_36)
                refine wa_getR B (C := RX12) (T := TX12) (N := 51) iq_X12_fragment_X12 ha0 ka0 (by decide) rfl 42 (by decide) (by decide) (by decide +kernel) rfl (fun _ _ _ => rfl) (v := m42) z_62 dX12_fragment_129 ?_
                refine wa_iload B dX12_fragment_132 1 rfl ?_
                refine wa_iload_n B dX12_fragment_134 rfl 4 rfl ?_
                refine wa_iastore B hm42 km42 (by decide) (by decide) (show 0 ≤ (q.1 a0 45).toInt by omega) (show (q.1 a0 45).toInt < (h.2.1 m42 : Int) by omega) dX12_fragment_135 (fun q_63 eq_63 => ?_)
                have hV_q_63 : sx_V h L q_63 := by rw [eq_63]; exact hV_q_56.up1 hm42 km42 trivial
                have hF_q_63 : sx_fr h L (fun a => h.1 a = 12 ∨ h.1 a = 150 ∨ h.1 a = 154 ∨ h.1 a = 151 ∨ h.1 a = 152 ∨ h.1 a = 153) q q_63 := hF_q_56.tr (by rw [eq_63]; exact sx_fr.pG (show h.1 m42 = 100 ∨ (h.1 m42 = 12 ∨ h.1 m42 = 150 ∨ h.1 m42 = 154 ∨ h.1 m42 = 151 ∨ h.1 m42 = 152 ∨ h.1 m42 = 153) from by omega))
                have z_64 : q_56.2.2.2.1 m42 = (q.2.2.2.1 m42) := ((show q_56.2.2.2.1 m42 = q_36.2.2.2.1 m42 from by rw [eq_56]; exact sg_pG_a (sx_ka h km42 km41 (by decide)))).trans (p11_q_36)
                have z_65 : q_63.2.2.2.1 m42 = (upd (q.2.2.2.1 m42) ((q.1 a0 45) : Int32).toNatClampNeg n1) := by rw [eq_63, sg_pG_e, z_64]
                have z_66 : q_63.2.2.2.1 m42 ((q.1 a0 45) : Int32).toNatClampNeg = n1 := by rw [eq_63, sg_pG_e]; exact if_pos rfl
                have hK_q_63 : sx_kf a0 [0, 2, 45] q q_63 := hK_q_56.tr (sx_kf.eq (by rw [eq_63]; rfl) (by rw [eq_63]; rfl))
                have mL_q_63 : mv_L m40 m41 m44 a0 q_63 := mv_L.eq ((show q_63.2.2.2.1 m40 = q_56.2.2.2.1 m40 from by rw [eq_63]; exact sg_pG_a (sx_ka h km40 km42 (by decide)))) ((show q_63.2.2.2.1 m41 = q_56.2.2.2.1 m41 from by rw [eq_63]; exact sg_pG_a (sx_ka h km41 km42 (by decide)))) ((show q_63.2.2.2.1 m44 = q_56.2.2.2.1 m44 from by rw [eq_63]; exact sg_pG_a (sx_ka h km44 km42 (by decide)))) ((show q_63.1 a0 45 = q_56.1 a0 45 from by rw [eq_63]; rfl)) mL_q_56
                refine wa_aload_n B dX12_fragment_136 rfl 3 rfl ?_
                have z_67 : q_63.2.2.1 a0 43 = m43 := ((show q_63.2.2.1 a0 43 = q_56.2.2.1 a0 43 from by rw [eq_63]; rfl)).trans (((show q_56.2.2.1 a0 43 = q_36.2.2.1 a0 43 from by rw [eq_56]; rfl)).trans (p8_q_36))
                refine wa_getR B (C := RX12) (T := TX12) (N := 51) iq_X12_fragment_X12 ha0 ka0 (by decide) rfl 43 (by decide) (by decide) (by decide +kernel) rfl (fun _ _ _ => rfl) (v := m43) z_67 dX12_fragment_137 ?_
                refine wa_iload B dX12_fragment_140 1 rfl ?_
                refine wa_iload_n B dX12_fragment_142 rfl 5 rfl ?_
                refine wa_iastore B hm43 km43 (by decide) (by decide) (show 0 ≤ (q.1 a0 45).toInt by omega) (show (q.1 a0 45).toInt < (h.2.1 m43 : Int) by omega) dX12_fragment_143 (fun q_68 eq_68 => ?_)
                have hV_q_68 : sx_V h L q_68 := by rw [eq_68]; exact hV_q_63.up1 hm43 km43 trivial
                have hF_q_68 : sx_fr h L (fun a => h.1 a = 12 ∨ h.1 a = 150 ∨ h.1 a = 154 ∨ h.1 a = 151 ∨ h.1 a = 152 ∨ h.1 a = 153) q q_68 := hF_q_63.tr (by rw [eq_68]; exact sx_fr.pG (show h.1 m43 = 100 ∨ (h.1 m43 = 12 ∨ h.1 m43 = 150 ∨ h.1 m43 = 154 ∨ h.1 m43 = 151 ∨ h.1 m43 = 152 ∨ h.1 m43 = 153) from by omega))
                have z_69 : q_63.2.2.2.1 m43 = (q.2.2.2.1 m43) := ((show q_63.2.2.2.1 m43 = q_56.2.2.2.1 m43 from by rw [eq_63]; exact sg_pG_a (sx_ka h km43 km42 (by decide)))).trans (((show q_56.2.2.2.1 m43 = q_36.2.2.2.1 m43 from by rw [eq_56]; exact sg_pG_a (sx_ka h km43 km41 (by decide)))).trans (p12_q_36))
                have z_70 : q_68.2.2.2.1 m43 = (upd (q.2.2.2.1 m43) ((q.1 a0 45) : Int32).toNatClampNeg n2) := by rw [eq_68, sg_pG_e, z_69]
                have z_71 : q_68.2.2.2.1 m43 ((q.1 a0 45) : Int32).toNatClampNeg = n2 := by rw [eq_68, sg_pG_e]; exact if_pos rfl
                have hK_q_68 : sx_kf a0 [0, 2, 45] q q_68 := hK_q_63.tr (sx_kf.eq (by rw [eq_68]; rfl) (by rw [eq_68]; rfl))
                have mL_q_68 : mv_L m40 m41 m44 a0 q_68 := mv_L.eq ((show q_68.2.2.2.1 m40 = q_63.2.2.2.1 m40 from by rw [eq_68]; exact sg_pG_a (sx_ka h km40 km43 (by decide)))) ((show q_68.2.2.2.1 m41 = q_63.2.2.2.1 m41 from by rw [eq_68]; exact sg_pG_a (sx_ka h km41 km43 (by decide)))) ((show q_68.2.2.2.1 m44 = q_63.2.2.2.1 m44 from by rw [eq_68]; exact sg_pG_a (sx_ka h km44 km43 (by decide)))) ((show q_68.1 a0 45 = q_63.1 a0 45 from by rw [eq_68]; rfl)) mL_q_63
                refine wa_aload_n B dX12_fragment_144 rfl 3 rfl ?_
                refine wa_dup B dX12_fragment_145 rfl ?_
                have z_72 : q_68.1 a0 45 = (q.1 a0 45) := ((show q_68.1 a0 45 = q_63.1 a0 45 from by rw [eq_68]; rfl)).trans (((show q_63.1 a0 45 = q_56.1 a0 45 from by rw [eq_63]; rfl)).trans (z_61))
                refine wa_getI B (C := RX12) (T := TX12) (N := 51) iq_X12_fragment_X12 ha0 ka0 (by decide) rfl 45 (by decide) (by decide) (by decide +kernel) rfl (by decide) (v := (q.1 a0 45)) z_72 dX12_fragment_146 ?_
                have g_73 : (0 : Int) ≤ (q.1 a0 45).toInt ∧ (q.1 a0 45).toInt ≤ 12 := by rw [← z_72]; exact hV_q_68.int ha0 ka0 45
                refine wa_iconst B 1 dX12_fragment_149 (by decide) ?_
                refine wa_iadd B dX12_fragment_150 (fun v_74 ev_74 => ?_)
                have tv_74 : v_74.toInt = (q.1 a0 45).toInt + 1 := by have b0 := zx_bd (q.1 a0 45); rw [ev_74]; exact zx_add (show (-2147483648 : Int) ≤ (q.1 a0 45).toInt + 1 by omega) (show (q.1 a0 45).toInt + 1 < (2147483648 : Int) by omega)
                have z_75 : q_68.2.2.2.1 m40 = (q_36.2.2.2.1 m40) := ((show q_68.2.2.2.1 m40 = q_63.2.2.2.1 m40 from by rw [eq_68]; exact sg_pG_a (sx_ka h km40 km43 (by decide)))).trans (((show q_63.2.2.2.1 m40 = q_56.2.2.2.1 m40 from by rw [eq_63]; exact sg_pG_a (sx_ka h km40 km42 (by decide)))).trans (z_59))
                have z_76 : q_68.2.2.2.1 m41 = (upd (q.2.2.2.1 m41) ((q.1 a0 45) : Int32).toNatClampNeg (q.1 a0 2)) := ((show q_68.2.2.2.1 m41 = q_63.2.2.2.1 m41 from by rw [eq_68]; exact sg_pG_a (sx_ka h km41 km43 (by decide)))).trans (((show q_63.2.2.2.1 m41 = q_56.2.2.2.1 m41 from by rw [eq_63]; exact sg_pG_a (sx_ka h km41 km42 (by decide)))).trans (z_57))
                have z_77 : q_68.2.2.2.1 m44 = (q_36.2.2.2.1 m44) := ((show q_68.2.2.2.1 m44 = q_63.2.2.2.1 m44 from by rw [eq_68]; exact sg_pG_a (sx_ka h km44 km43 (by decide)))).trans (((show q_63.2.2.2.1 m44 = q_56.2.2.2.1 m44 from by rw [eq_63]; exact sg_pG_a (sx_ka h km44 km42 (by decide)))).trans (z_60))
                have z_78 : q_68.2.2.2.1 m44 ((q.1 a0 45) : Int32).toNatClampNeg = (q_36.2.2.2.1 m44 ((q.1 a0 45) : Int32).toNatClampNeg) := (congrFun (((show q_68.2.2.2.1 m44 = q_63.2.2.2.1 m44 from by rw [eq_68]; exact sg_pG_a (sx_ka h km44 km43 (by decide)))).trans (((show q_63.2.2.2.1 m44 = q_56.2.2.2.1 m44 from by rw [eq_63]; exact sg_pG_a (sx_ka h km44 km42 (by decide)))).trans ((show q_56.2.2.2.1 m44 = q_36.2.2.2.1 m44 from by rw [eq_56]; exact sg_pG_a (sx_ka h km44 km41 (by decide)))))) _).trans rfl
                have z_79 : q_68.2.2.2.1 m41 ((q.1 a0 45) : Int32).toNatClampNeg = (q.1 a0 2) := (congrFun (((show q_68.2.2.2.1 m41 = q_63.2.2.2.1 m41 from by rw [eq_68]; exact sg_pG_a (sx_ka h km41 km43 (by decide)))).trans ((show q_63.2.2.2.1 m41 = q_56.2.2.2.1 m41 from by rw [eq_63]; exact sg_pG_a (sx_ka h km41 km42 (by decide))))) _).trans z_58
                refine wa_putI B (C := RX12) (T := TX12) (N := 51) iq_X12_fragment_X12 ha0 ka0 (by decide) rfl 45 (by decide) (by decide) (by decide +kernel) rfl (by decide) (v := v_74) (ty := .int) tyX12 tyX12_ok nmX12 rfl (by decide +kernel) rfl rfl dX12_fragment_151 (fun q_80 eq_80 => ?_)
                have hV_q_80 : sx_V h L q_80 := by rw [eq_80]; exact hV_q_68.pI ka0 (show sx_in v_74 (0) 12 from ⟨by omega, by omega⟩)
                have hF_q_80 : sx_fr h L (fun a => h.1 a = 12 ∨ h.1 a = 150 ∨ h.1 a = 154 ∨ h.1 a = 151 ∨ h.1 a = 152 ∨ h.1 a = 153) q q_80 := hF_q_68.tr (by rw [eq_80]; exact sx_fr.pI (show h.1 a0 = 12 ∨ h.1 a0 = 150 ∨ h.1 a0 = 154 ∨ h.1 a0 = 151 ∨ h.1 a0 = 152 ∨ h.1 a0 = 153 from by omega))
                have z_81 : q_80.1 a0 45 = v_74 := by rw [eq_80]; exact sg_pI_e
                have hK_q_80 : sx_kf a0 [0, 2, 45] q q_80 := hK_q_68.tr (by rw [eq_80]; exact sx_kf.pI (by decide))
                have z_82 : q_80.2.2.2.1 m40 = (q_36.2.2.2.1 m40) := ((show q_80.2.2.2.1 m40 = q_68.2.2.2.1 m40 from by rw [eq_80]; rfl)).trans (z_75)
                have z_83 : q_80.2.2.2.1 m41 = (upd (q.2.2.2.1 m41) ((q.1 a0 45) : Int32).toNatClampNeg (q.1 a0 2)) := ((show q_80.2.2.2.1 m41 = q_68.2.2.2.1 m41 from by rw [eq_80]; rfl)).trans (z_76)
                have z_84 : q_80.2.2.2.1 m44 = (q_36.2.2.2.1 m44) := ((show q_80.2.2.2.1 m44 = q_68.2.2.2.1 m44 from by rw [eq_80]; rfl)).trans (z_77)
                have mL_q_80 : mv_L m40 m41 m44 a0 q_80 := ((((mL_q_68).f z_75 z_76 z_77 (n := (q.1 a0 45).toInt) (by rw [z_72]))).inc (i := ((q.1 a0 45) : Int32).toNatClampNeg) (by have a9 := zx_nc (q.1 a0 45); omega) (by have x9 := x_49; rw [show (v_35 : Int32).toNatClampNeg = ((q.1 a0 2)).toInt.toNat from (by have a9 := zx_nc v_35; omega)] at x9; rw [zx_u1]; exact x9)).L z_82 z_83 z_84 (show (q_80.1 a0 45).toInt = _ by rw [z_81]; omega)
                refine wa_iload B dX12_fragment_154 1 rfl ?_
                have z_85 : q_80.1 a0 2 = 0 := ((show q_80.1 a0 2 = q_68.1 a0 2 from by rw [eq_80]; exact sg_pI_k (by decide))).trans (((show q_68.1 a0 2 = q_63.1 a0 2 from by rw [eq_68]; rfl)).trans (((show q_63.1 a0 2 = q_56.1 a0 2 from by rw [eq_63]; rfl)).trans (((show q_56.1 a0 2 = q_36.1 a0 2 from by rw [eq_56]; rfl)).trans (p1_q_36))))
                have y_86 : (q_80.1 a0 2).toInt = 0 := by rw [z_85]; rfl
                have y_87 : (q_80.1 a0 45).toInt = v_74.toInt := by rw [z_81]
                exact hret _ _ _ _ dX12_fragment_156 ⟨hV_q_80, hF_q_80, hK_q_80, mL_q_80, (by first | omega | (refine ⟨?_, ?_⟩ <;> omega) | trivial)⟩
              · refine wa_aload_n B dX12_fragment_70 rfl 3 rfl ?_
                refine wa_getR B (C := RX12) (T := TX12) (N := 51) iq_X12_fragment_X12 ha0 ka0 (by decide) rfl 40 (by decide) (by decide) (by decide +kernel) rfl (fun _ _ _ => rfl) (v := m40) p4_q_36 dX12_fragment_71 ?_
                refine wa_sipush B 200 dX12_fragment_74 (by decide) ?_
                refine wa_iload B dX12_fragment_77 1 rfl ?_
                refine wa_imul B dX12_fragment_79 (fun v_88 ev_88 => ?_)
                refine wa_iload B dX12_fragment_80 0 rfl ?_
                refine wa_iadd B dX12_fragment_82 (fun v_89 ev_89 => ?_)
                refine wa_aload_n B dX12_fragment_83 rfl 3 rfl ?_
                refine wa_getR B (C := RX12) (T := TX12) (N := 51) iq_X12_fragment_X12 ha0 ka0 (by decide) rfl 1 (by decide) (by decide) (by decide +kernel) rfl (fun _ _ _ => rfl) (v := m1) p3_q_36 dX12_fragment_84 ?_
                refine wa_iload B dX12_fragment_87 0 rfl ?_
                have z_90 : q_36.2.2.2.1 m1 (v_35 : Int32).toNatClampNeg = (q.2.2.2.1 m1 (v_35 : Int32).toNatClampNeg) := congrFun p9_q_36 _
                refine wa_iaload B hm1 km1 (by decide) (by decide) (show 0 ≤ v_35.toInt by omega) (show v_35.toInt < (h.2.1 m1 : Int) by omega) (v := (q.2.2.2.1 m1 (v_35 : Int32).toNatClampNeg)) z_90 dX12_fragment_89 ?_
                have g_91 : (0 : Int) ≤ ((q.2.2.2.1 m1 (v_35 : Int32).toNatClampNeg)).toInt ∧ ((q.2.2.2.1 m1 (v_35 : Int32).toNatClampNeg)).toInt ≤ 255 := by rw [← z_90]; exact hV_q_36.cnt hm1 km1 _
                have tv_88 : v_88.toInt = 200 * (q.1 a0 45).toInt := by have b1 := zx_bd (q.1 a0 45); rw [ev_88]; exact zx_mul (show (-2147483648 : Int) ≤ 200 * (q.1 a0 45).toInt by omega) (show 200 * (q.1 a0 45).toInt < (2147483648 : Int) by omega)
                have tv_89 : v_89.toInt = v_88.toInt + v_35.toInt := by have b0 := zx_bd v_88; have b1 := zx_bd v_35; rw [ev_89]; exact zx_add (show (-2147483648 : Int) ≤ v_88.toInt + v_35.toInt by omega) (show v_88.toInt + v_35.toInt < (2147483648 : Int) by omega)
                refine wa_iastore B hm40 km40 (by decide) (by decide) (show 0 ≤ v_89.toInt by omega) (show v_89.toInt < (h.2.1 m40 : Int) by omega) dX12_fragment_90 (fun q_92 eq_92 => ?_)
                have hV_q_92 : sx_V h L q_92 := by rw [eq_92]; exact hV_q_36.up1 hm40 km40 (show sx_in ((q.2.2.2.1 m1 (v_35 : Int32).toNatClampNeg)) (0) 255 from ⟨by omega, by omega⟩)
                have hF_q_92 : sx_fr h L (fun a => h.1 a = 12 ∨ h.1 a = 150 ∨ h.1 a = 154 ∨ h.1 a = 151 ∨ h.1 a = 152 ∨ h.1 a = 153) q q_92 := hF_q_36.tr (by rw [eq_92]; exact sx_fr.pG (show h.1 m40 = 100 ∨ (h.1 m40 = 12 ∨ h.1 m40 = 150 ∨ h.1 m40 = 154 ∨ h.1 m40 = 151 ∨ h.1 m40 = 152 ∨ h.1 m40 = 153) from by omega))
                have z_93 : q_92.2.2.2.1 m40 = (upd (q_36.2.2.2.1 m40) (v_89 : Int32).toNatClampNeg ((q.2.2.2.1 m1 (v_35 : Int32).toNatClampNeg))) := by rw [eq_92, sg_pG_e]
                have z_94 : q_92.2.2.2.1 m40 (v_89 : Int32).toNatClampNeg = (q.2.2.2.1 m1 (v_35 : Int32).toNatClampNeg) := by rw [eq_92, sg_pG_e]; exact if_pos rfl
                have hK_q_92 : sx_kf a0 [0, 2, 45] q q_92 := hK_q_36.tr (sx_kf.eq (by rw [eq_92]; rfl) (by rw [eq_92]; rfl))
                have z_95 : q_92.2.2.2.1 m41 = (q.2.2.2.1 m41) := ((show q_92.2.2.2.1 m41 = q_36.2.2.2.1 m41 from by rw [eq_92]; exact sg_pG_a (sx_ka h km41 km40 (by decide)))).trans (p10_q_36)
                have z_96 : q_92.2.2.2.1 m44 = q_36.2.2.2.1 m44 := (show q_92.2.2.2.1 m44 = q_36.2.2.2.1 m44 from by rw [eq_92]; exact sg_pG_a (sx_ka h km44 km40 (by decide)))
                have z_97 : q_92.1 a0 45 = (q.1 a0 45) := ((show q_92.1 a0 45 = q_36.1 a0 45 from by rw [eq_92]; rfl)).trans (p0_q_36)
                have mL_q_92 : mv_L m40 m41 m44 a0 q_92 := (((mL_q_36).f rfl p10_q_36 rfl (n := (q.1 a0 45).toInt) (by rw [p0_q_36])).le (i := (v_89 : Int32).toNatClampNeg) (fun j => by have z9 := (hV_q_36.cnt hm41 km41 j : sx_in _ 0 200); rw [p10_q_36] at z9; exact z9.2) (by have a9 := zx_nc v_89; omega)).L z_93 z_95 z_96 (by rw [z_97])
                refine wa_aload_n B dX12_fragment_91 rfl 3 rfl ?_
                have z_98 : q_92.2.2.1 a0 1 = m1 := ((show q_92.2.2.1 a0 1 = q_36.2.2.1 a0 1 from by rw [eq_92]; rfl)).trans (p3_q_36)
                refine wa_getR B (C := RX12) (T := TX12) (N := 51) iq_X12_fragment_X12 ha0 ka0 (by decide) rfl 1 (by decide) (by decide) (by decide +kernel) rfl (fun _ _ _ => rfl) (v := m1) z_98 dX12_fragment_92 ?_
                refine wa_iload B dX12_fragment_95 0 rfl ?_
                have z_99 : q_92.2.2.2.1 m1 (v_35 : Int32).toNatClampNeg = (q.2.2.2.1 m1 (v_35 : Int32).toNatClampNeg) := (congrFun ((show q_92.2.2.2.1 m1 = q_36.2.2.2.1 m1 from by rw [eq_92]; exact sg_pG_a (sx_ka h km1 km40 (by decide)))) _).trans z_90
                refine wa_iaload B hm1 km1 (by decide) (by decide) (show 0 ≤ v_35.toInt by omega) (show v_35.toInt < (h.2.1 m1 : Int) by omega) (v := (q.2.2.2.1 m1 (v_35 : Int32).toNatClampNeg)) z_99 dX12_fragment_97 ?_
                refine wa_bipush B 47 dX12_fragment_98 (by decide) ?_
                refine wa_icmp_ne B 114 dX12_fragment_100 (by decide) (fun (t_100 : ¬ ((q.2.2.2.1 m1 (v_35 : Int32).toNatClampNeg)).toInt = 47) => ?_) (fun (t_100 : ((q.2.2.2.1 m1 (v_35 : Int32).toNatClampNeg)).toInt = 47) => ?_)
                · obtain ⟨v_101, ev_101⟩ : ∃ z : Int32, z = v_35 + 1 := ⟨_, rfl⟩
                  refine wa_iinc B [(5, .int v_101), (4, .int (q.1 a0 45)), (3, .int (q.1 a0 2)), (0, .ref a0), (1, .int n1), (2, .int n2)] v_101 dX12_fragment_114 0 rfl (by rw [ev_101]; rfl) (by decide) rfl ?_
                  refine wa_goto B 64 dX12_fragment_117 (by decide) ?_
                  have tv_101 : v_101.toInt = v_35.toInt + 1 := by have b0 := zx_bd v_35; rw [ev_101]; exact zx_add (show (-2147483648 : Int) ≤ v_35.toInt + 1 by omega) (show v_35.toInt + 1 < (2147483648 : Int) by omega)
                  have z_102 : q_92.1 a0 2 = 0 := ((show q_92.1 a0 2 = q_36.1 a0 2 from by rw [eq_92]; rfl)).trans (p1_q_36)
                  have z_103 : q_92.1 a0 0 = 0 := ((show q_92.1 a0 0 = q_36.1 a0 0 from by rw [eq_92]; rfl)).trans (p2_q_36)
                  have z_104 : q_92.2.2.1 a0 40 = m40 := ((show q_92.2.2.1 a0 40 = q_36.2.2.1 a0 40 from by rw [eq_92]; rfl)).trans (p4_q_36)
                  have z_105 : q_92.2.2.1 a0 44 = m44 := ((show q_92.2.2.1 a0 44 = q_36.2.2.1 a0 44 from by rw [eq_92]; rfl)).trans (p5_q_36)
                  have z_106 : q_92.2.2.1 a0 41 = m41 := ((show q_92.2.2.1 a0 41 = q_36.2.2.1 a0 41 from by rw [eq_92]; rfl)).trans (p6_q_36)
                  have z_107 : q_92.2.2.1 a0 42 = m42 := ((show q_92.2.2.1 a0 42 = q_36.2.2.1 a0 42 from by rw [eq_92]; rfl)).trans (p7_q_36)
                  have z_108 : q_92.2.2.1 a0 43 = m43 := ((show q_92.2.2.1 a0 43 = q_36.2.2.1 a0 43 from by rw [eq_92]; rfl)).trans (p8_q_36)
                  have z_109 : q_92.2.2.2.1 m1 = (q.2.2.2.1 m1) := ((show q_92.2.2.2.1 m1 = q_36.2.2.2.1 m1 from by rw [eq_92]; exact sg_pG_a (sx_ka h km1 km40 (by decide)))).trans (p9_q_36)
                  have z_110 : q_92.2.2.2.1 m42 = (q.2.2.2.1 m42) := ((show q_92.2.2.2.1 m42 = q_36.2.2.2.1 m42 from by rw [eq_92]; exact sg_pG_a (sx_ka h km42 km40 (by decide)))).trans (p11_q_36)
                  have z_111 : q_92.2.2.2.1 m43 = (q.2.2.2.1 m43) := ((show q_92.2.2.2.1 m43 = q_36.2.2.2.1 m43 from by rw [eq_92]; exact sg_pG_a (sx_ka h km43 km40 (by decide)))).trans (p12_q_36)
                  have z_112 : q_92.2.2.2.1 m44 ((q.1 a0 45) : Int32).toNatClampNeg = (q_36.2.2.2.1 m44 ((q.1 a0 45) : Int32).toNatClampNeg) := (congrFun ((show q_92.2.2.2.1 m44 = q_36.2.2.2.1 m44 from by rw [eq_92]; exact sg_pG_a (sx_ka h km44 km40 (by decide)))) _).trans rfl
                  exact ih_52 v_101 q_92 hV_q_92 hF_q_92 hK_q_92 mL_q_92 z_97 z_102 z_103 z_98 z_104 z_105 z_106 z_107 z_108 z_109 z_95 z_110 z_111 (show 0 ≤ v_101.toInt from by first | assumption | omega | decide) (show (q_92.2.2.2.1 m44 ((q.1 a0 45)).toNatClampNeg).toInt = 1 + ((mv_c (q_92.2.2.2.1 m40) (200 * ((q.1 a0 45)).toNatClampNeg) (v_101).toNatClampNeg : Nat) : Int) from by have a1 := zx_nc (q.1 a0 45); have a2 := zx_nc v_35; have a3 := zx_nc v_101; have a4 := zx_nc v_89; rw [z_112, z_93, show (v_101 : Int32).toNatClampNeg = (v_35 : Int32).toNatClampNeg + 1 by omega, mv_c_w (by omega)]; split <;> omega) (show v_101.toInt ≤ (q.1 a0 2).toInt from by first | assumption | omega | decide) (show ((q.1 a0 2).toInt - v_101.toInt : Int).toNat < _ from by omega)
                · refine wa_aload_n B dX12_fragment_103 rfl 3 rfl ?_
                  have z_113 : q_92.2.2.1 a0 44 = m44 := ((show q_92.2.2.1 a0 44 = q_36.2.2.1 a0 44 from by rw [eq_92]; rfl)).trans (p5_q_36)
                  refine wa_getR B (C := RX12) (T := TX12) (N := 51) iq_X12_fragment_X12 ha0 ka0 (by decide) rfl 44 (by decide) (by decide) (by decide +kernel) rfl (fun _ _ _ => rfl) (v := m44) z_113 dX12_fragment_104 ?_
                  refine wa_iload B dX12_fragment_107 1 rfl ?_
                  refine wa_dup2 B dX12_fragment_109 rfl rfl ?_
                  have z_114 : q_92.2.2.2.1 m44 ((q.1 a0 45) : Int32).toNatClampNeg = (q_36.2.2.2.1 m44 ((q.1 a0 45) : Int32).toNatClampNeg) := (congrFun ((show q_92.2.2.2.1 m44 = q_36.2.2.2.1 m44 from by rw [eq_92]; exact sg_pG_a (sx_ka h km44 km40 (by decide)))) _).trans rfl
                  refine wa_iaload B hm44 km44 (by decide) (by decide) (show 0 ≤ (q.1 a0 45).toInt by omega) (show (q.1 a0 45).toInt < (h.2.1 m44 : Int) by omega) (v := (q_36.2.2.2.1 m44 ((q.1 a0 45) : Int32).toNatClampNeg)) z_114 dX12_fragment_110 ?_
                  have g_115 : (0 : Int) ≤ ((q_36.2.2.2.1 m44 ((q.1 a0 45) : Int32).toNatClampNeg)).toInt ∧ ((q_36.2.2.2.1 m44 ((q.1 a0 45) : Int32).toNatClampNeg)).toInt ≤ 201 := by rw [← z_114]; exact hV_q_92.cnt hm44 km44 _
                  refine wa_iconst B 1 dX12_fragment_111 (by decide) ?_
                  refine wa_iadd B dX12_fragment_112 (fun v_116 ev_116 => ?_)
                  have tv_116 : v_116.toInt = ((q_36.2.2.2.1 m44 ((q.1 a0 45) : Int32).toNatClampNeg)).toInt + 1 := by have b0 := zx_bd ((q_36.2.2.2.1 m44 ((q.1 a0 45) : Int32).toNatClampNeg)); rw [ev_116]; exact zx_add (show (-2147483648 : Int) ≤ ((q_36.2.2.2.1 m44 ((q.1 a0 45) : Int32).toNatClampNeg)).toInt + 1 by omega) (show ((q_36.2.2.2.1 m44 ((q.1 a0 45) : Int32).toNatClampNeg)).toInt + 1 < (2147483648 : Int) by omega)
                  refine wa_iastore B hm44 km44 (by decide) (by decide) (show 0 ≤ (q.1 a0 45).toInt by omega) (show (q.1 a0 45).toInt < (h.2.1 m44 : Int) by omega) dX12_fragment_113 (fun q_117 eq_117 => ?_)
                  have hV_q_117 : sx_V h L q_117 := by rw [eq_117]; exact hV_q_92.up1 hm44 km44 (show sx_in v_116 (0) 201 from ⟨by omega, by omega⟩)
                  have hF_q_117 : sx_fr h L (fun a => h.1 a = 12 ∨ h.1 a = 150 ∨ h.1 a = 154 ∨ h.1 a = 151 ∨ h.1 a = 152 ∨ h.1 a = 153) q q_117 := hF_q_92.tr (by rw [eq_117]; exact sx_fr.pG (show h.1 m44 = 100 ∨ (h.1 m44 = 12 ∨ h.1 m44 = 150 ∨ h.1 m44 = 154 ∨ h.1 m44 = 151 ∨ h.1 m44 = 152 ∨ h.1 m44 = 153) from by omega))
                  have z_118 : q_117.2.2.2.1 m44 = (upd (q_36.2.2.2.1 m44) ((q.1 a0 45) : Int32).toNatClampNeg v_116) := by rw [eq_117, sg_pG_e, z_96]
                  have z_119 : q_117.2.2.2.1 m44 ((q.1 a0 45) : Int32).toNatClampNeg = v_116 := by rw [eq_117, sg_pG_e]; exact if_pos rfl
                  have hK_q_117 : sx_kf a0 [0, 2, 45] q q_117 := hK_q_92.tr (sx_kf.eq (by rw [eq_117]; rfl) (by rw [eq_117]; rfl))
                  have z_120 : q_117.2.2.2.1 m40 = (upd (q_36.2.2.2.1 m40) (v_89 : Int32).toNatClampNeg ((q.2.2.2.1 m1 (v_35 : Int32).toNatClampNeg))) := ((show q_117.2.2.2.1 m40 = q_92.2.2.2.1 m40 from by rw [eq_117]; exact sg_pG_a (sx_ka h km40 km44 (by decide)))).trans (z_93)
                  have z_121 : q_117.2.2.2.1 m41 = (q.2.2.2.1 m41) := ((show q_117.2.2.2.1 m41 = q_92.2.2.2.1 m41 from by rw [eq_117]; exact sg_pG_a (sx_ka h km41 km44 (by decide)))).trans (z_95)
                  have z_122 : q_117.1 a0 45 = (q.1 a0 45) := ((show q_117.1 a0 45 = q_92.1 a0 45 from by rw [eq_117]; rfl)).trans (z_97)
                  have mL_q_117 : mv_L m40 m41 m44 a0 q_117 := (((mL_q_92).f z_93 z_95 z_96 (n := (q.1 a0 45).toInt) (by rw [z_97])).rm (i := ((q.1 a0 45) : Int32).toNatClampNeg) (by have a9 := zx_nc (q.1 a0 45); omega)).L z_120 z_121 z_118 (by rw [z_122])
                  obtain ⟨v_123, ev_123⟩ : ∃ z : Int32, z = v_35 + 1 := ⟨_, rfl⟩
                  refine wa_iinc B [(5, .int v_123), (4, .int (q.1 a0 45)), (3, .int (q.1 a0 2)), (0, .ref a0), (1, .int n1), (2, .int n2)] v_123 dX12_fragment_114 0 rfl (by rw [ev_123]; rfl) (by decide) rfl ?_
                  refine wa_goto B 64 dX12_fragment_117 (by decide) ?_
                  have tv_123 : v_123.toInt = v_35.toInt + 1 := by have b0 := zx_bd v_35; rw [ev_123]; exact zx_add (show (-2147483648 : Int) ≤ v_35.toInt + 1 by omega) (show v_35.toInt + 1 < (2147483648 : Int) by omega)
                  have z_124 : q_117.1 a0 2 = 0 := ((show q_117.1 a0 2 = q_92.1 a0 2 from by rw [eq_117]; rfl)).trans (((show q_92.1 a0 2 = q_36.1 a0 2 from by rw [eq_92]; rfl)).trans (p1_q_36))
                  have z_125 : q_117.1 a0 0 = 0 := ((show q_117.1 a0 0 = q_92.1 a0 0 from by rw [eq_117]; rfl)).trans (((show q_92.1 a0 0 = q_36.1 a0 0 from by rw [eq_92]; rfl)).trans (p2_q_36))
                  have z_126 : q_117.2.2.1 a0 1 = m1 := ((show q_117.2.2.1 a0 1 = q_92.2.2.1 a0 1 from by rw [eq_117]; rfl)).trans (z_98)
                  have z_127 : q_117.2.2.1 a0 40 = m40 := ((show q_117.2.2.1 a0 40 = q_92.2.2.1 a0 40 from by rw [eq_117]; rfl)).trans (((show q_92.2.2.1 a0 40 = q_36.2.2.1 a0 40 from by rw [eq_92]; rfl)).trans (p4_q_36))
                  have z_128 : q_117.2.2.1 a0 44 = m44 := ((show q_117.2.2.1 a0 44 = q_92.2.2.1 a0 44 from by rw [eq_117]; rfl)).trans (z_113)
                  have z_129 : q_117.2.2.1 a0 41 = m41 := ((show q_117.2.2.1 a0 41 = q_92.2.2.1 a0 41 from by rw [eq_117]; rfl)).trans (((show q_92.2.2.1 a0 41 = q_36.2.2.1 a0 41 from by rw [eq_92]; rfl)).trans (p6_q_36))
                  have z_130 : q_117.2.2.1 a0 42 = m42 := ((show q_117.2.2.1 a0 42 = q_92.2.2.1 a0 42 from by rw [eq_117]; rfl)).trans (((show q_92.2.2.1 a0 42 = q_36.2.2.1 a0 42 from by rw [eq_92]; rfl)).trans (p7_q_36))
                  have z_131 : q_117.2.2.1 a0 43 = m43 := ((show q_117.2.2.1 a0 43 = q_92.2.2.1 a0 43 from by rw [eq_117]; rfl)).trans (((show q_92.2.2.1 a0 43 = q_36.2.2.1 a0 43 from by rw [eq_92]; rfl)).trans (p8_q_36))
                  have z_132 : q_117.2.2.2.1 m1 = (q.2.2.2.1 m1) := ((show q_117.2.2.2.1 m1 = q_92.2.2.2.1 m1 from by rw [eq_117]; exact sg_pG_a (sx_ka h km1 km44 (by decide)))).trans (((show q_92.2.2.2.1 m1 = q_36.2.2.2.1 m1 from by rw [eq_92]; exact sg_pG_a (sx_ka h km1 km40 (by decide)))).trans (p9_q_36))
                  have z_133 : q_117.2.2.2.1 m42 = (q.2.2.2.1 m42) := ((show q_117.2.2.2.1 m42 = q_92.2.2.2.1 m42 from by rw [eq_117]; exact sg_pG_a (sx_ka h km42 km44 (by decide)))).trans (((show q_92.2.2.2.1 m42 = q_36.2.2.2.1 m42 from by rw [eq_92]; exact sg_pG_a (sx_ka h km42 km40 (by decide)))).trans (p11_q_36))
                  have z_134 : q_117.2.2.2.1 m43 = (q.2.2.2.1 m43) := ((show q_117.2.2.2.1 m43 = q_92.2.2.2.1 m43 from by rw [eq_117]; exact sg_pG_a (sx_ka h km43 km44 (by decide)))).trans (((show q_92.2.2.2.1 m43 = q_36.2.2.2.1 m43 from by rw [eq_92]; exact sg_pG_a (sx_ka h km43 km40 (by decide)))).trans (p12_q_36))
                  exact ih_52 v_123 q_117 hV_q_117 hF_q_117 hK_q_117 mL_q_117 z_122 z_124 z_125 z_126 z_127 z_128 z_129 z_130 z_131 z_132 z_121 z_133 z_134 (show 0 ≤ v_123.toInt from by first | assumption | omega | decide) (show (q_117.2.2.2.1 m44 ((q.1 a0 45)).toNatClampNeg).toInt = 1 + ((mv_c (q_117.2.2.2.1 m40) (200 * ((q.1 a0 45)).toNatClampNeg) (v_123).toNatClampNeg : Nat) : Int) from by have a1 := zx_nc (q.1 a0 45); have a2 := zx_nc v_35; have a3 := zx_nc v_123; have a4 := zx_nc v_89; rw [z_119, z_120, show (v_123 : Int32).toNatClampNeg = (v_35 : Int32).toNatClampNeg + 1 by omega, mv_c_w (by omega)]; split <;> omega) (show v_123.toInt ≤ (q.1 a0 2).toInt from by first | assumption | omega | decide) (show ((q.1 a0 2).toInt - v_123.toInt : Int).toNat < _ from by omega)
          exact Lp_64_51 _ 0 q_29 hV_q_29 hF_q_29 hK_q_29 mL_q_29 z_34 z_37 z_38 z_39 z_40 z_41 z_42 z_43 z_44 z_45 z_33 z_46 z_47 (show 0 ≤ 0 from by first | assumption | omega | decide) (show (q_29.2.2.2.1 m44 ((q.1 a0 45)).toNatClampNeg).toInt = 1 + ((mv_c (q_29.2.2.2.1 m40) (200 * ((q.1 a0 45)).toNatClampNeg) ((0 : Int32)).toNatClampNeg : Nat) : Int) from by rw [z_31]; rfl) (show 0 ≤ (q.1 a0 2).toInt from by first | assumption | omega | decide) (Nat.lt_succ_self _)
        · refine wa_iconst B (-1) dX12_fragment_45 (by decide) ?_
          have y_135 : (q_5.1 a0 2).toInt = 0 := by rw [z_6]; rfl
          have y_136 : (q_5.1 a0 45).toInt = (q.1 a0 45).toInt := by rw [z_7]
          exact hret _ _ _ _ dX12_fragment_46 ⟨hV_q_5, hF_q_5, hK_q_5, mL_q_5, (by have h9 : ((-1) : Int32).toInt = (-1) := rfl; first | omega | (refine ⟨?_, ?_⟩ <;> omega) | trivial)⟩
