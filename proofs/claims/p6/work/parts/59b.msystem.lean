set_option maxHeartbeats 4000000 in
set_option maxRecDepth 100000 in
theorem k_X12_refuse_c (l : Launch) (dC : Nat → ClassId) (dI : Nat → Nat → Nat) (h : Sh) (L : List Nat) (hN : sx_nd L) (q : Sg) (hV : sx_V h L q) {a0 : Nat} (ha0 : a0 ∈ L) (ka0 : h.1 a0 = 12)    : CMi l dC dI h L yX12_refuse wsX12_refuse ({ frames := 0, cells := 0, slots := 0, locals := 0 } : Room) q [.ref a0] (fun r q' => sx_V h L q' ∧ sx_fr h L (fun a => h.1 a = 12) q q' ∧ sx_kf a0 [0] q q' ∧ (r.toInt = 0 ∧ q'.1 a0 0 = 1 ∧ q'.2.2.2.2 = q.2.2.2.2)) := by
  refine cm_i (cc := cX12_refuse) (mL := 1) (own := RX12) hN (by decide) rfl rfl (Nat.le_of_ble_eq_true rfl) (fun Z B hret => ?_)
  have hF : sx_fr h L (fun a => h.1 a = 12) q q := sx_fr.rf
  have hK : sx_kf a0 [0] q q := sx_kf.rf
  show WA l dC dI h L ({ frames := 0, cells := 0, slots := 0, locals := 0 } : Room) 1 Z q 0 [(0, .ref a0)] []
  refine wa_aload_n B dX12_refuse_0 rfl 0 rfl ?_
  refine wa_iconst B 1 dX12_refuse_1 (by decide) ?_
  refine wa_putI B (C := RX12) (T := TX12) (N := 51) iq_X12_refuse_X12 ha0 ka0 (by decide) rfl 0 (by decide) (by decide) (by decide +kernel) rfl (by decide) (v := 1) (ty := .int) tyX12 tyX12_ok nmX12 rfl (by decide +kernel) rfl rfl dX12_refuse_2 (fun q_1 eq_1 => ?_)
  have hV_q_1 : sx_V h L q_1 := by rw [eq_1]; exact hV.pI ka0 trivial
  have hF_q_1 : sx_fr h L (fun a => h.1 a = 12) q q_1 := hF.tr (by rw [eq_1]; exact sx_fr.pI (show h.1 a0 = 12 from ka0))
  have z_2 : q_1.1 a0 0 = 1 := by rw [eq_1]; exact sg_pI_e
  have hK_q_1 : sx_kf a0 [0] q q_1 := hK.tr (by rw [eq_1]; exact sx_kf.pI (by decide))
  refine wa_iconst B 0 dX12_refuse_5 (by decide) ?_
  have y_3 : (q_1.1 a0 0).toInt = 1 := by rw [z_2]; rfl
  exact hret _ _ _ _ dX12_refuse_6 ⟨hV_q_1, hF_q_1, hK_q_1, ⟨rfl, z_2, (show q_1.2.2.2.2 = q.2.2.2.2 from by rw [eq_1]; rfl)⟩⟩
set_option maxHeartbeats 4000000 in
set_option maxRecDepth 100000 in
theorem k_X12_system_c (l : Launch) (dC : Nat → ClassId) (dI : Nat → Nat → Nat) (h : Sh) (L : List Nat) (hN : sx_nd L) (q : Sg) (hV : sx_V h L q) {a0 : Nat} (ha0 : a0 ∈ L) (ka0 : h.1 a0 = 12) (n1 : Int32) (n2 : Int32) {m18 : Nat} (em18 : q.2.2.1 a0 18 = m18) {m19 : Nat} (em19 : q.2.2.1 a0 19 = m19)    : CMi l dC dI h L yX12_system wsX12_system ({ frames := 1, cells := 0, slots := 0, locals := 20 } : Room) q [.ref a0, .int n1, .int n2] (fun r q' => sx_V h L q' ∧ sx_fr h L (fun a => h.1 a = 12) q q' ∧ sx_kf a0 [0] q q' ∧ ((sy_ok (q.1 a0 20) n1 n2 ∧ (q'.1 a0 0).toInt = 0 ∧ sy_an n1 n2 (q.2.2.2.1 m18) (q.2.2.2.1 m19) r ∨ ¬ sy_ok (q.1 a0 20) n1 n2 ∧ (q'.1 a0 0).toInt = 1) ∧ q'.2.2.2.2 = q.2.2.2.2)) := by
  refine cm_i (cc := cX12_system) (mL := 3) (own := RX12) hN (by decide) rfl rfl (Nat.le_of_ble_eq_true rfl) (fun Z B hret => ?_)
  have hF : sx_fr h L (fun a => h.1 a = 12) q q := sx_fr.rf
  have hK : sx_kf a0 [0] q q := sx_kf.rf
  obtain ⟨hm18, km18, lm18⟩ : m18 ∈ L ∧ h.1 m18 = 128 ∧ h.2.1 m18 = 6 := by obtain ⟨r9, e9, z1, z2, z3⟩ := hV.refn (t := 128) (n := 6) ha0 ka0 18 rfl (by decide) rfl (by decide); rw [← em18, e9]; exact ⟨z1, z2, z3⟩
  obtain ⟨hm19, km19, lm19⟩ : m19 ∈ L ∧ h.1 m19 = 129 ∧ h.2.1 m19 = 30 := by obtain ⟨r9, e9, z1, z2, z3⟩ := hV.refn (t := 129) (n := 30) ha0 ka0 19 rfl (by decide) rfl (by decide); rw [← em19, e9]; exact ⟨z1, z2, z3⟩
  show WA l dC dI h L ({ frames := 1, cells := 0, slots := 0, locals := 20 } : Room) 3 Z q 0 [(0, .ref a0), (1, .int n1), (2, .int n2)] []
  refine wa_iload_n B dX12_system_0 rfl 1 rfl ?_
  refine wa_if_lt B 21 dX12_system_1 (by decide) (fun (t_1 : n1.toInt < 0) => ?_) (fun (t_1 : ¬ n1.toInt < 0) => ?_)
  · refine wa_aload_n B dX12_system_21 rfl 0 rfl ?_
    refine wa_callVi B (x := (RX12, TX12, 51)) (As := []) (rest := []) (k_X12_refuse_c l dC dI h L hN q hV (a0 := a0) ha0 ka0  ) (cwV 0 B.1.2.2.2.2 gX12_system_X12_refuse rfl rfl rfl (by decide +kernel) ⟨Nat.le_of_ble_eq_true rfl, Nat.le_of_ble_eq_true rfl⟩) ha0 ka0 (by decide) rfl rfl rfl (Nat.le_of_ble_eq_true rfl) dX12_system_22 (fun r_3 q_2 w_4 => ?_)
    obtain ⟨hV_q_2, h2_q_2, h3_q_2, hw_4⟩ := w_4
    have hF_q_2 : sx_fr h L (fun a => h.1 a = 12) q q_2 := hF.tr (h2_q_2.mono (fun a (z : h.1 a = 12) => ((fun z => z) z)))
    have hK_q_2 : sx_kf a0 [0] q q_2 := hK.tr (h3_q_2.mono (by decide))
    have z_5 : q_2.1 a0 20 = q.1 a0 20 := h3_q_2.1 20 (by decide)
    have y_6 : (q_2.1 a0 20).toInt = (q.1 a0 20).toInt := by rw [z_5]
    exact hret _ _ _ _ dX12_system_25 ⟨hV_q_2, hF_q_2, hK_q_2, ⟨Or.inr ⟨by unfold sy_ok; omega, by rw [hw_4.2.1]; rfl⟩, (show q_2.2.2.2.2 = q.2.2.2.2 from hw_4.2.2)⟩⟩
  · refine wa_iload_n B dX12_system_4 rfl 1 rfl ?_
    refine wa_aload_n B dX12_system_5 rfl 0 rfl ?_
    refine wa_getI B (C := RX12) (T := TX12) (N := 51) iq_X12_system_X12 ha0 ka0 (by decide) rfl 20 (by decide) (by decide) (by decide +kernel) rfl (by decide) (v := (q.1 a0 20)) rfl dX12_system_6 ?_
    have g_7 : (0 : Int) ≤ (q.1 a0 20).toInt ∧ (q.1 a0 20).toInt ≤ 3 := hV.int ha0 ka0 20
    refine wa_icmp_ge B 21 dX12_system_9 (by decide) (fun (t_8 : (q.1 a0 20).toInt ≤ n1.toInt) => ?_) (fun (t_8 : ¬ (q.1 a0 20).toInt ≤ n1.toInt) => ?_)
    · refine wa_aload_n B dX12_system_21 rfl 0 rfl ?_
      refine wa_callVi B (x := (RX12, TX12, 51)) (As := []) (rest := []) (k_X12_refuse_c l dC dI h L hN q hV (a0 := a0) ha0 ka0  ) (cwV 0 B.1.2.2.2.2 gX12_system_X12_refuse rfl rfl rfl (by decide +kernel) ⟨Nat.le_of_ble_eq_true rfl, Nat.le_of_ble_eq_true rfl⟩) ha0 ka0 (by decide) rfl rfl rfl (Nat.le_of_ble_eq_true rfl) dX12_system_22 (fun r_10 q_9 w_11 => ?_)
      obtain ⟨hV_q_9, h2_q_9, h3_q_9, hw_11⟩ := w_11
      have hF_q_9 : sx_fr h L (fun a => h.1 a = 12) q q_9 := hF.tr (h2_q_9.mono (fun a (z : h.1 a = 12) => ((fun z => z) z)))
      have hK_q_9 : sx_kf a0 [0] q q_9 := hK.tr (h3_q_9.mono (by decide))
      have z_12 : q_9.1 a0 20 = q.1 a0 20 := h3_q_9.1 20 (by decide)
      have y_13 : (q_9.1 a0 20).toInt = (q.1 a0 20).toInt := by rw [z_12]
      exact hret _ _ _ _ dX12_system_25 ⟨hV_q_9, hF_q_9, hK_q_9, ⟨Or.inr ⟨by unfold sy_ok; omega, by rw [hw_11.2.1]; rfl⟩, (show q_9.2.2.2.2 = q.2.2.2.2 from hw_11.2.2)⟩⟩
    · refine wa_iload_n B dX12_system_12 rfl 2 rfl ?_
      refine wa_if_lt B 21 dX12_system_13 (by decide) (fun (t_14 : n2.toInt < 0) => ?_) (fun (t_14 : ¬ n2.toInt < 0) => ?_)
      · refine wa_aload_n B dX12_system_21 rfl 0 rfl ?_
        refine wa_callVi B (x := (RX12, TX12, 51)) (As := []) (rest := []) (k_X12_refuse_c l dC dI h L hN q hV (a0 := a0) ha0 ka0  ) (cwV 0 B.1.2.2.2.2 gX12_system_X12_refuse rfl rfl rfl (by decide +kernel) ⟨Nat.le_of_ble_eq_true rfl, Nat.le_of_ble_eq_true rfl⟩) ha0 ka0 (by decide) rfl rfl rfl (Nat.le_of_ble_eq_true rfl) dX12_system_22 (fun r_16 q_15 w_17 => ?_)
        obtain ⟨hV_q_15, h2_q_15, h3_q_15, hw_17⟩ := w_17
        have hF_q_15 : sx_fr h L (fun a => h.1 a = 12) q q_15 := hF.tr (h2_q_15.mono (fun a (z : h.1 a = 12) => ((fun z => z) z)))
        have hK_q_15 : sx_kf a0 [0] q q_15 := hK.tr (h3_q_15.mono (by decide))
        have z_18 : q_15.1 a0 20 = q.1 a0 20 := h3_q_15.1 20 (by decide)
        have y_19 : (q_15.1 a0 20).toInt = (q.1 a0 20).toInt := by rw [z_18]
        exact hret _ _ _ _ dX12_system_25 ⟨hV_q_15, hF_q_15, hK_q_15, ⟨Or.inr ⟨by unfold sy_ok; omega, by rw [hw_17.2.1]; rfl⟩, (show q_15.2.2.2.2 = q.2.2.2.2 from hw_17.2.2)⟩⟩
      · refine wa_iload_n B dX12_system_16 rfl 2 rfl ?_
        refine wa_iconst B 4 dX12_system_17 (by decide) ?_
        refine wa_icmp_le B 26 dX12_system_18 (by decide) (fun (t_20 : n2.toInt ≤ 4) => ?_) (fun (t_20 : ¬ n2.toInt ≤ 4) => ?_)
        · refine wa_aload_n B dX12_system_26 rfl 0 rfl ?_
          refine wa_iconst B 0 dX12_system_27 (by decide) ?_
          refine wa_putI B (C := RX12) (T := TX12) (N := 51) iq_X12_system_X12 ha0 ka0 (by decide) rfl 0 (by decide) (by decide) (by decide +kernel) rfl (by decide) (v := 0) (ty := .int) tyX12 tyX12_ok nmX12 rfl (by decide +kernel) rfl rfl dX12_system_28 (fun q_21 eq_21 => ?_)
          have hV_q_21 : sx_V h L q_21 := by rw [eq_21]; exact hV.pI ka0 trivial
          have hF_q_21 : sx_fr h L (fun a => h.1 a = 12) q q_21 := hF.tr (by rw [eq_21]; exact sx_fr.pI (show h.1 a0 = 12 from ka0))
          have z_22 : q_21.1 a0 0 = 0 := by rw [eq_21]; exact sg_pI_e
          have hK_q_21 : sx_kf a0 [0] q q_21 := hK.tr (by rw [eq_21]; exact sx_kf.pI (by decide))
          refine wa_iload_n B dX12_system_31 rfl 2 rfl ?_
          refine wa_if_ne B 44 dX12_system_32 (by decide) (fun (t_23 : ¬ n2.toInt = 0) => ?_) (fun (t_23 : n2.toInt = 0) => ?_)
          · refine wa_iload_n B dX12_system_44 rfl 2 rfl ?_
            refine wa_aload_n B dX12_system_45 rfl 0 rfl ?_
            have z_24 : q_21.2.2.1 a0 18 = m18 := ((show q_21.2.2.1 a0 18 = q.2.2.1 a0 18 from by rw [eq_21]; rfl)).trans (em18)
            refine wa_getR B (C := RX12) (T := TX12) (N := 51) iq_X12_system_X12 ha0 ka0 (by decide) rfl 18 (by decide) (by decide) (by decide +kernel) rfl (fun _ _ _ => rfl) (v := m18) z_24 dX12_system_46 ?_
            refine wa_iload_n B dX12_system_49 rfl 1 rfl ?_
            have z_25 : q_21.2.2.2.1 m18 = q.2.2.2.1 m18 := (show q_21.2.2.2.1 m18 = q.2.2.2.1 m18 from by rw [eq_21]; rfl)
            have z_26 : q_21.2.2.2.1 m18 (n1 : Int32).toNatClampNeg = (q.2.2.2.1 m18 (n1 : Int32).toNatClampNeg) := congrFun z_25 _
            refine wa_iaload B hm18 km18 (by decide) (by decide) (show 0 ≤ n1.toInt by omega) (show n1.toInt < (h.2.1 m18 : Int) by omega) (v := (q.2.2.2.1 m18 (n1 : Int32).toNatClampNeg)) z_26 dX12_system_50 ?_
            have g_27 : (0 : Int) ≤ ((q.2.2.2.1 m18 (n1 : Int32).toNatClampNeg)).toInt ∧ ((q.2.2.2.1 m18 (n1 : Int32).toNatClampNeg)).toInt ≤ 5 := by rw [← z_26]; exact hV_q_21.cnt hm18 km18 _
            refine wa_icmp_ge B 67 dX12_system_51 (by decide) (fun (t_28 : ((q.2.2.2.1 m18 (n1 : Int32).toNatClampNeg)).toInt ≤ n2.toInt) => ?_) (fun (t_28 : ¬ ((q.2.2.2.1 m18 (n1 : Int32).toNatClampNeg)).toInt ≤ n2.toInt) => ?_)
            · refine wa_iconst B (-1) dX12_system_67 (by decide) ?_
              have y_29 : (q_21.1 a0 0).toInt = 0 := by rw [z_22]; rfl
              have y_30 : (q_21.1 a0 0).toInt = 0 := by rw [z_22]; rfl
              have z_31 : q_21.1 a0 20 = q.1 a0 20 := (show q_21.1 a0 20 = q.1 a0 20 from by rw [eq_21]; exact sg_pI_k (by decide))
              have y_32 : (q_21.1 a0 20).toInt = (q.1 a0 20).toInt := by rw [z_31]
              exact hret _ _ _ _ dX12_system_68 ⟨hV_q_21, hF_q_21, hK_q_21, ⟨Or.inl ⟨by unfold sy_ok; omega, by omega, Or.inr (Or.inr ⟨⟨by omega, by omega⟩, rfl⟩)⟩, (show q_21.2.2.2.2 = q.2.2.2.2 from by rw [eq_21]; rfl)⟩⟩
            · refine wa_aload_n B dX12_system_54 rfl 0 rfl ?_
              have z_33 : q_21.2.2.1 a0 19 = m19 := ((show q_21.2.2.1 a0 19 = q.2.2.1 a0 19 from by rw [eq_21]; rfl)).trans (em19)
              refine wa_getR B (C := RX12) (T := TX12) (N := 51) iq_X12_system_X12 ha0 ka0 (by decide) rfl 19 (by decide) (by decide) (by decide +kernel) rfl (fun _ _ _ => rfl) (v := m19) z_33 dX12_system_55 ?_
              refine wa_iconst B 5 dX12_system_58 (by decide) ?_
              refine wa_iload_n B dX12_system_59 rfl 1 rfl ?_
              refine wa_imul B dX12_system_60 (fun v_34 ev_34 => ?_)
              refine wa_iload_n B dX12_system_61 rfl 2 rfl ?_
              refine wa_iadd B dX12_system_62 (fun v_35 ev_35 => ?_)
              have tv_34 : v_34.toInt = 5 * n1.toInt := by have b1 := zx_bd n1; rw [ev_34]; exact zx_mul (show (-2147483648 : Int) ≤ 5 * n1.toInt by omega) (show 5 * n1.toInt < (2147483648 : Int) by omega)
              have tv_35 : v_35.toInt = v_34.toInt + n2.toInt := by have b0 := zx_bd v_34; have b1 := zx_bd n2; rw [ev_35]; exact zx_add (show (-2147483648 : Int) ≤ v_34.toInt + n2.toInt by omega) (show v_34.toInt + n2.toInt < (2147483648 : Int) by omega)
              have z_36 : q_21.2.2.2.1 m19 = q.2.2.2.1 m19 := (show q_21.2.2.2.1 m19 = q.2.2.2.1 m19 from by rw [eq_21]; rfl)
              have z_37 : q_21.2.2.2.1 m19 (v_35 : Int32).toNatClampNeg = (q.2.2.2.1 m19 (v_35 : Int32).toNatClampNeg) := congrFun z_36 _
              refine wa_iaload B hm19 km19 (by decide) (by decide) (show 0 ≤ v_35.toInt by omega) (show v_35.toInt < (h.2.1 m19 : Int) by omega) (v := (q.2.2.2.1 m19 (v_35 : Int32).toNatClampNeg)) z_37 dX12_system_63 ?_
              refine wa_goto B 68 dX12_system_64 (by decide) ?_
              have y_38 : (q_21.1 a0 0).toInt = 0 := by rw [z_22]; rfl
              have y_39 : (q_21.1 a0 0).toInt = 0 := by rw [z_22]; rfl
              have z_40 : q_21.1 a0 20 = q.1 a0 20 := (show q_21.1 a0 20 = q.1 a0 20 from by rw [eq_21]; exact sg_pI_k (by decide))
              have y_41 : (q_21.1 a0 20).toInt = (q.1 a0 20).toInt := by rw [z_40]
              exact hret _ _ _ _ dX12_system_68 ⟨hV_q_21, hF_q_21, hK_q_21, ⟨Or.inl ⟨by unfold sy_ok; omega, by omega, Or.inr (Or.inl ⟨⟨by omega, by omega⟩, by rw [show (v_35 : Int32).toNatClampNeg = 5 * n1.toNatClampNeg + n2.toNatClampNeg by have a9 := zx_nc v_35; have a8 := zx_nc n1; have a7 := zx_nc n2; omega]⟩)⟩, (show q_21.2.2.2.2 = q.2.2.2.2 from by rw [eq_21]; rfl)⟩⟩
          · refine wa_aload_n B dX12_system_35 rfl 0 rfl ?_
            have z_42 : q_21.2.2.1 a0 18 = m18 := ((show q_21.2.2.1 a0 18 = q.2.2.1 a0 18 from by rw [eq_21]; rfl)).trans (em18)
            refine wa_getR B (C := RX12) (T := TX12) (N := 51) iq_X12_system_X12 ha0 ka0 (by decide) rfl 18 (by decide) (by decide) (by decide +kernel) rfl (fun _ _ _ => rfl) (v := m18) z_42 dX12_system_36 ?_
            refine wa_iload_n B dX12_system_39 rfl 1 rfl ?_
            have z_43 : q_21.2.2.2.1 m18 = q.2.2.2.1 m18 := (show q_21.2.2.2.1 m18 = q.2.2.2.1 m18 from by rw [eq_21]; rfl)
            have z_44 : q_21.2.2.2.1 m18 (n1 : Int32).toNatClampNeg = (q.2.2.2.1 m18 (n1 : Int32).toNatClampNeg) := congrFun z_43 _
            refine wa_iaload B hm18 km18 (by decide) (by decide) (show 0 ≤ n1.toInt by omega) (show n1.toInt < (h.2.1 m18 : Int) by omega) (v := (q.2.2.2.1 m18 (n1 : Int32).toNatClampNeg)) z_44 dX12_system_40 ?_
            have g_45 : (0 : Int) ≤ ((q.2.2.2.1 m18 (n1 : Int32).toNatClampNeg)).toInt ∧ ((q.2.2.2.1 m18 (n1 : Int32).toNatClampNeg)).toInt ≤ 5 := by rw [← z_44]; exact hV_q_21.cnt hm18 km18 _
            refine wa_goto B 68 dX12_system_41 (by decide) ?_
            have y_46 : (q_21.1 a0 0).toInt = 0 := by rw [z_22]; rfl
            have y_47 : (q_21.1 a0 0).toInt = 0 := by rw [z_22]; rfl
            have z_48 : q_21.1 a0 20 = q.1 a0 20 := (show q_21.1 a0 20 = q.1 a0 20 from by rw [eq_21]; exact sg_pI_k (by decide))
            have y_49 : (q_21.1 a0 20).toInt = (q.1 a0 20).toInt := by rw [z_48]
            exact hret _ _ _ _ dX12_system_68 ⟨hV_q_21, hF_q_21, hK_q_21, ⟨Or.inl ⟨by unfold sy_ok; omega, by omega, Or.inl ⟨by omega, rfl⟩⟩, (show q_21.2.2.2.2 = q.2.2.2.2 from by rw [eq_21]; rfl)⟩⟩
        · refine wa_aload_n B dX12_system_21 rfl 0 rfl ?_
          refine wa_callVi B (x := (RX12, TX12, 51)) (As := []) (rest := []) (k_X12_refuse_c l dC dI h L hN q hV (a0 := a0) ha0 ka0  ) (cwV 0 B.1.2.2.2.2 gX12_system_X12_refuse rfl rfl rfl (by decide +kernel) ⟨Nat.le_of_ble_eq_true rfl, Nat.le_of_ble_eq_true rfl⟩) ha0 ka0 (by decide) rfl rfl rfl (Nat.le_of_ble_eq_true rfl) dX12_system_22 (fun r_51 q_50 w_52 => ?_)
          obtain ⟨hV_q_50, h2_q_50, h3_q_50, hw_52⟩ := w_52
          have hF_q_50 : sx_fr h L (fun a => h.1 a = 12) q q_50 := hF.tr (h2_q_50.mono (fun a (z : h.1 a = 12) => ((fun z => z) z)))
          have hK_q_50 : sx_kf a0 [0] q q_50 := hK.tr (h3_q_50.mono (by decide))
          have z_53 : q_50.1 a0 20 = q.1 a0 20 := h3_q_50.1 20 (by decide)
          have y_54 : (q_50.1 a0 20).toInt = (q.1 a0 20).toInt := by rw [z_53]
          exact hret _ _ _ _ dX12_system_25 ⟨hV_q_50, hF_q_50, hK_q_50, ⟨Or.inr ⟨by unfold sy_ok; omega, by rw [hw_52.2.1]; rfl⟩, (show q_50.2.2.2.2 = q.2.2.2.2 from hw_52.2.2)⟩⟩
theorem iq_X12_thrown_X12 : ∀ w ∈ wsX120, w ∈ wsX12_thrown := fun _ h => List.mem_cons_of_mem _ (List.mem_append_right _ h)
set_option maxHeartbeats 4000000 in
set_option maxRecDepth 100000 in
theorem k_X12_thrown_c (l : Launch) (dC : Nat → ClassId) (dI : Nat → Nat → Nat) (h : Sh) (L : List Nat) (hN : sx_nd L) (q : Sg) (hV : sx_V h L q) {a0 : Nat} (ha0 : a0 ∈ L) (ka0 : h.1 a0 = 12)    : CMi l dC dI h L yX12_thrown wsX12_thrown ({ frames := 0, cells := 0, slots := 0, locals := 0 } : Room) q [.ref a0] (fun r q' => q = q' ∧ r = q.1 a0 0) := by
  refine cm_i (cc := cX12_thrown) (mL := 1) (own := RX12) hN (by decide) rfl rfl (Nat.le_of_ble_eq_true rfl) (fun Z B hret => ?_)
  show WA l dC dI h L ({ frames := 0, cells := 0, slots := 0, locals := 0 } : Room) 1 Z q 0 [(0, .ref a0)] []
  refine wa_aload_n B dX12_thrown_0 rfl 0 rfl ?_
  refine wa_getI B (C := RX12) (T := TX12) (N := 51) iq_X12_thrown_X12 ha0 ka0 (by decide) rfl 0 (by decide) (by decide) (by decide +kernel) rfl (by decide) (v := (q.1 a0 0)) rfl dX12_thrown_1 ?_
  exact hret _ _ _ _ dX12_thrown_4 ⟨rfl, rfl⟩
