set_option maxHeartbeats 4000000 in
set_option maxRecDepth 100000 in
theorem k_X12_write_c (l : Launch) (dC : Nat → ClassId) (dI : Nat → Nat → Nat) (h : Sh) (L : List Nat) (hN : sx_nd L) (q : Sg) (hV : sx_V h L q) {a0 : Nat} (ha0 : a0 ∈ L) (ka0 : h.1 a0 = 12) (n1 : Int32) (n2 : Int32) {m17 : Nat} (em17 : q.2.2.1 a0 17 = m17) {m18 : Nat} (em18 : q.2.2.1 a0 18 = m18) {m19 : Nat} (em19 : q.2.2.1 a0 19 = m19) {m21 : Nat} (em21 : q.2.2.1 a0 21 = m21)  (Wf : Nat → Nat) (Xf : Nat → List Nat) (T9 : List Nat) (hrr : pz_hd (0 ≤ n1.toInt → n1.toInt < (q.1 a0 20).toInt → pw_r Wf Xf (q.2.2.2.1 m18 n1.toNatClampNeg) (q.2.2.2.1 m19) (q.2.2.2.2 m17) n1.toNatClampNeg)) (hT9 : pw_all Wf Xf (q.2.2.2.1 m18 n1.toNatClampNeg).toInt.toNat n2.toInt.toNat [] = T9) : CMi l dC dI h L yX12_write wsX12_write ({ frames := 2, cells := 0, slots := 0, locals := 45 } : Room) q [.ref a0, .int n1, .int n2] (fun r q' => sx_V h L q' ∧ sx_fr h L (fun a => h.1 a = 12 ∨ h.1 a = 131) q q' ∧ sx_kf a0 [0, 22] q q' ∧ (¬ ((0 ≤ n1.toInt ∧ n1.toInt < (q.1 a0 20).toInt) ∧ 1 ≤ n2.toInt ∧ n2.toInt.toNat / Wf ((q.2.2.2.1 m18 n1.toNatClampNeg).toInt.toNat - 1) ≤ 99) ∧ r.toInt = -1 ∧ q'.1 a0 22 = q.1 a0 22 ∧ q'.2.2.2.1 m21 = q.2.2.2.1 m21 ∨ ((0 ≤ n1.toInt ∧ n1.toInt < (q.1 a0 20).toInt) ∧ 1 ≤ n2.toInt ∧ n2.toInt.toNat / Wf ((q.2.2.2.1 m18 n1.toNatClampNeg).toInt.toNat - 1) ≤ 99) ∧ pw_R T9 (q'.1 a0 22) (q'.2.2.2.1 m21) ∧ r = q'.1 a0 22)) := by
  refine cm_i (cc := cX12_write) (mL := 6) (own := RX12) hN (by decide) rfl rfl (Nat.le_of_ble_eq_true rfl) (fun Z B hret => ?_)
  have hF : sx_fr h L (fun a => h.1 a = 12 ∨ h.1 a = 131) q q := sx_fr.rf
  have hK : sx_kf a0 [0, 22] q q := sx_kf.rf
  obtain ⟨hm17, km17, lm17⟩ : m17 ∈ L ∧ h.1 m17 = 227 ∧ h.2.1 m17 = 30 := by obtain ⟨r9, e9, z1, z2, z3⟩ := hV.refn (t := 227) (n := 30) ha0 ka0 17 rfl (by decide) rfl (by decide); rw [← em17, e9]; exact ⟨z1, z2, z3⟩
  obtain ⟨hm18, km18, lm18⟩ : m18 ∈ L ∧ h.1 m18 = 128 ∧ h.2.1 m18 = 6 := by obtain ⟨r9, e9, z1, z2, z3⟩ := hV.refn (t := 128) (n := 6) ha0 ka0 18 rfl (by decide) rfl (by decide); rw [← em18, e9]; exact ⟨z1, z2, z3⟩
  obtain ⟨hm19, km19, lm19⟩ : m19 ∈ L ∧ h.1 m19 = 129 ∧ h.2.1 m19 = 30 := by obtain ⟨r9, e9, z1, z2, z3⟩ := hV.refn (t := 129) (n := 30) ha0 ka0 19 rfl (by decide) rfl (by decide); rw [← em19, e9]; exact ⟨z1, z2, z3⟩
  obtain ⟨hm21, km21, lm21⟩ : m21 ∈ L ∧ h.1 m21 = 131 ∧ h.2.1 m21 = 80 := by obtain ⟨r9, e9, z1, z2, z3⟩ := hV.refn (t := 131) (n := 80) ha0 ka0 21 rfl (by decide) rfl (by decide); rw [← em21, e9]; exact ⟨z1, z2, z3⟩
  show WA l dC dI h L ({ frames := 2, cells := 0, slots := 0, locals := 45 } : Room) 6 Z q 0 [(0, .ref a0), (1, .int n1), (2, .int n2)] []
  refine wa_aload_n B dX12_write_0 rfl 0 rfl ?_
  refine wa_iconst B 0 dX12_write_1 (by decide) ?_
  refine wa_putI B (C := RX12) (T := TX12) (N := 51) iq_X12_write_X12 ha0 ka0 (by decide) rfl 0 (by decide) (by decide) (by decide +kernel) rfl (by decide) (v := 0) (ty := .int) tyX12 tyX12_ok nmX12 rfl (by decide +kernel) rfl rfl dX12_write_2 (fun q_1 eq_1 => ?_)
  have hV_q_1 : sx_V h L q_1 := by rw [eq_1]; exact hV.pI ka0 trivial
  have hF_q_1 : sx_fr h L (fun a => h.1 a = 12 ∨ h.1 a = 131) q q_1 := hF.tr (by rw [eq_1]; exact sx_fr.pI (show h.1 a0 = 12 ∨ h.1 a0 = 131 from (Or.inl ka0)))
  have z_2 : q_1.1 a0 0 = 0 := by rw [eq_1]; exact sg_pI_e
  have hK_q_1 : sx_kf a0 [0, 22] q q_1 := hK.tr (by rw [eq_1]; exact sx_kf.pI (by decide))
  refine wa_iload_n B dX12_write_5 rfl 1 rfl ?_
  refine wa_if_lt B 42 dX12_write_6 (by decide) (fun (t_3 : n1.toInt < 0) => ?_) (fun (t_3 : ¬ n1.toInt < 0) => ?_)
  · refine wa_iconst B (-1) dX12_write_42 (by decide) ?_
    have z_4 : q_1.1 a0 22 = q.1 a0 22 := (show q_1.1 a0 22 = q.1 a0 22 from by rw [eq_1]; exact sg_pI_k (by decide))
    have y_5 : (q_1.1 a0 22).toInt = (q.1 a0 22).toInt := by rw [z_4]
    have z_6 : q_1.2.2.2.1 m21 = q.2.2.2.1 m21 := (show q_1.2.2.2.1 m21 = q.2.2.2.1 m21 from by rw [eq_1]; rfl)
    exact hret _ _ _ _ dX12_write_43 ⟨hV_q_1, hF_q_1, hK_q_1, (Or.inl ⟨by omega, rfl, z_4, z_6⟩)⟩
  · refine wa_iload_n B dX12_write_9 rfl 1 rfl ?_
    refine wa_aload_n B dX12_write_10 rfl 0 rfl ?_
    have z_7 : q_1.1 a0 20 = q.1 a0 20 := (show q_1.1 a0 20 = q.1 a0 20 from by rw [eq_1]; exact sg_pI_k (by decide))
    refine wa_getI B (C := RX12) (T := TX12) (N := 51) iq_X12_write_X12 ha0 ka0 (by decide) rfl 20 (by decide) (by decide) (by decide +kernel) rfl (by decide) (v := (q.1 a0 20)) z_7 dX12_write_11 ?_
    have g_8 : (0 : Int) ≤ (q.1 a0 20).toInt ∧ (q.1 a0 20).toInt ≤ 3 := by rw [← z_7]; exact hV_q_1.int ha0 ka0 20
    refine wa_icmp_ge B 42 dX12_write_14 (by decide) (fun (t_9 : (q.1 a0 20).toInt ≤ n1.toInt) => ?_) (fun (t_9 : ¬ (q.1 a0 20).toInt ≤ n1.toInt) => ?_)
    · refine wa_iconst B (-1) dX12_write_42 (by decide) ?_
      have z_10 : q_1.1 a0 22 = q.1 a0 22 := (show q_1.1 a0 22 = q.1 a0 22 from by rw [eq_1]; exact sg_pI_k (by decide))
      have y_11 : (q_1.1 a0 22).toInt = (q.1 a0 22).toInt := by rw [z_10]
      have z_12 : q_1.2.2.2.1 m21 = q.2.2.2.1 m21 := (show q_1.2.2.2.1 m21 = q.2.2.2.1 m21 from by rw [eq_1]; rfl)
      exact hret _ _ _ _ dX12_write_43 ⟨hV_q_1, hF_q_1, hK_q_1, (Or.inl ⟨by omega, rfl, z_10, z_12⟩)⟩
    · refine wa_iload_n B dX12_write_17 rfl 2 rfl ?_
      refine wa_iconst B 1 dX12_write_18 (by decide) ?_
      refine wa_icmp_lt B 42 dX12_write_19 (by decide) (fun (t_13 : n2.toInt < 1) => ?_) (fun (t_13 : ¬ n2.toInt < 1) => ?_)
      · refine wa_iconst B (-1) dX12_write_42 (by decide) ?_
        have z_14 : q_1.1 a0 22 = q.1 a0 22 := (show q_1.1 a0 22 = q.1 a0 22 from by rw [eq_1]; exact sg_pI_k (by decide))
        have y_15 : (q_1.1 a0 22).toInt = (q.1 a0 22).toInt := by rw [z_14]
        have z_16 : q_1.2.2.2.1 m21 = q.2.2.2.1 m21 := (show q_1.2.2.2.1 m21 = q.2.2.2.1 m21 from by rw [eq_1]; rfl)
        exact hret _ _ _ _ dX12_write_43 ⟨hV_q_1, hF_q_1, hK_q_1, (Or.inl ⟨by omega, rfl, z_14, z_16⟩)⟩
      · have hc8 := hrr
        unfold pz_hd at hc8
        have hc9 := hc8 (by omega) (by omega)
        clear hc8
        have hu5 := hc9.1
        obtain ⟨hw1, hw2, hw3, hw4⟩ := hc9.2 ((q.2.2.2.1 m18 n1.toNatClampNeg).toInt.toNat - 1) (by omega)
        refine wa_iload_n B dX12_write_22 rfl 2 rfl ?_
        refine wa_aload_n B dX12_write_23 rfl 0 rfl ?_
        refine wa_iload_n B dX12_write_24 rfl 1 rfl ?_
        refine wa_aload_n B dX12_write_25 rfl 0 rfl ?_
        have z_17 : q_1.2.2.1 a0 18 = m18 := ((show q_1.2.2.1 a0 18 = q.2.2.1 a0 18 from by rw [eq_1]; rfl)).trans (em18)
        refine wa_getR B (C := RX12) (T := TX12) (N := 51) iq_X12_write_X12 ha0 ka0 (by decide) rfl 18 (by decide) (by decide) (by decide +kernel) rfl (fun _ _ _ => rfl) (v := m18) z_17 dX12_write_26 ?_
        refine wa_iload_n B dX12_write_29 rfl 1 rfl ?_
        have z_18 : q_1.2.2.2.1 m18 = q.2.2.2.1 m18 := (show q_1.2.2.2.1 m18 = q.2.2.2.1 m18 from by rw [eq_1]; rfl)
        have z_19 : q_1.2.2.2.1 m18 (n1 : Int32).toNatClampNeg = (q.2.2.2.1 m18 (n1 : Int32).toNatClampNeg) := congrFun z_18 _
        refine wa_iaload B hm18 km18 (by decide) (by decide) (show 0 ≤ n1.toInt by omega) (show n1.toInt < (h.2.1 m18 : Int) by omega) (v := (q.2.2.2.1 m18 (n1 : Int32).toNatClampNeg)) z_19 dX12_write_30 ?_
        have g_20 : (0 : Int) ≤ ((q.2.2.2.1 m18 (n1 : Int32).toNatClampNeg)).toInt ∧ ((q.2.2.2.1 m18 (n1 : Int32).toNatClampNeg)).toInt ≤ 5 := by rw [← z_19]; exact hV_q_1.cnt hm18 km18 _
        refine wa_iconst B 1 dX12_write_31 (by decide) ?_
        refine wa_isub B dX12_write_32 (fun v_21 ev_21 => ?_)
        have tv_21 : v_21.toInt = ((q.2.2.2.1 m18 (n1 : Int32).toNatClampNeg)).toInt - 1 := by have b0 := zx_bd ((q.2.2.2.1 m18 (n1 : Int32).toNatClampNeg)); rw [ev_21]; exact zx_sub (show (-2147483648 : Int) ≤ ((q.2.2.2.1 m18 (n1 : Int32).toNatClampNeg)).toInt - 1 by omega) (show ((q.2.2.2.1 m18 (n1 : Int32).toNatClampNeg)).toInt - 1 < (2147483648 : Int) by omega)
        have z_22 : q_1.2.2.1 a0 19 = m19 := ((show q_1.2.2.1 a0 19 = q.2.2.1 a0 19 from by rw [eq_1]; rfl)).trans (em19)
        refine wa_callVi B (x := (RX12, TX12, 51)) (As := [.int n1, .int v_21]) (rest := [.int n2]) (k_X12_worth_c l dC dI h L hN q_1 hV_q_1 (a0 := a0) ha0 ka0 n1 v_21 (m19 := m19) z_22  (by first | assumption | omega | decide) (by first | assumption | omega | decide) (by first | assumption | omega | decide) (by first | assumption | omega | decide)) (cwV 2 B.1.2.2.2.2 gX12_write_X12_worth rfl rfl rfl (by decide +kernel) ⟨Nat.le_of_ble_eq_true rfl, Nat.le_of_ble_eq_true rfl⟩) ha0 ka0 (by decide) rfl rfl rfl (Nat.le_of_ble_eq_true rfl) dX12_write_33 (fun r_24 q_23 w_25 => ?_)
        obtain ⟨ew_25, hw_25⟩ := w_25
        subst ew_25
        have z_26 : q_1.2.2.2.1 m19 = q.2.2.2.1 m19 := (show q_1.2.2.2.1 m19 = q.2.2.2.1 m19 from by rw [eq_1]; rfl)
        rw [z_26] at hw_25
        have hr0 : r_24.toInt = ((Wf ((q.2.2.2.1 m18 n1.toNatClampNeg).toInt.toNat - 1) : Nat) : Int) := by rw [hw_25, show (v_21 : Int32).toNatClampNeg = ((q.2.2.2.1 m18 n1.toNatClampNeg).toInt.toNat - 1) by have a9 := zx_nc v_21; omega]; exact hw1
        refine wa_idiv B dX12_write_36 (fun z => absurd (show r_24.toInt = (0 : Int) from zx_eq.mp z) (by omega)) (fun v_27 ev_27 => ?_)
        have hd0 := pw_dm (by omega) hr0 hw2 ev_27
        refine wa_bipush B 99 dX12_write_37 (by decide) ?_
        refine wa_icmp_le B 44 dX12_write_39 (by decide) (fun (t_28 : v_27.toInt ≤ 99) => ?_) (fun (t_28 : ¬ v_27.toInt ≤ 99) => ?_)
        · refine wa_aload_n B dX12_write_44 rfl 0 rfl ?_
          refine wa_iconst B 0 dX12_write_45 (by decide) ?_
          refine wa_putI B (C := RX12) (T := TX12) (N := 51) iq_X12_write_X12 ha0 ka0 (by decide) rfl 22 (by decide) (by decide) (by decide +kernel) rfl (by decide) (v := 0) (ty := .int) tyX12 tyX12_ok nmX12 rfl (by decide +kernel) rfl rfl dX12_write_46 (fun q_29 eq_29 => ?_)
          have hV_q_29 : sx_V h L q_29 := by rw [eq_29]; exact hV_q_1.pI ka0 (show sx_in 0 (0) 80 from ⟨by decide, by decide⟩)
          have hF_q_29 : sx_fr h L (fun a => h.1 a = 12 ∨ h.1 a = 131) q q_29 := hF_q_1.tr (by rw [eq_29]; exact sx_fr.pI (show h.1 a0 = 12 ∨ h.1 a0 = 131 from (Or.inl ka0)))
          have z_30 : q_29.1 a0 22 = 0 := by rw [eq_29]; exact sg_pI_e
          have hK_q_29 : sx_kf a0 [0, 22] q q_29 := hK_q_1.tr (by rw [eq_29]; exact sx_kf.pI (by decide))
          refine wa_iload_n B dX12_write_49 rfl 2 rfl ?_
          refine wa_istore_n B [(3, .int n2), (0, .ref a0), (1, .int n1), (2, .int n2)] dX12_write_50 rfl (by decide) rfl ?_
          refine wa_aload_n B dX12_write_51 rfl 1 rfl ?_
          have z_31 : q_29.2.2.1 a0 18 = m18 := ((show q_29.2.2.1 a0 18 = q_1.2.2.1 a0 18 from by rw [eq_29]; rfl)).trans (z_17)
          refine wa_getR B (C := RX12) (T := TX12) (N := 51) iq_X12_write_X12 ha0 ka0 (by decide) rfl 18 (by decide) (by decide) (by decide +kernel) rfl (fun _ _ _ => rfl) (v := m18) z_31 dX12_write_52 ?_
          refine wa_iload_n B dX12_write_55 rfl 2 rfl ?_
          have z_32 : q_29.2.2.2.1 m18 (n1 : Int32).toNatClampNeg = (q.2.2.2.1 m18 (n1 : Int32).toNatClampNeg) := (congrFun ((show q_29.2.2.2.1 m18 = q_1.2.2.2.1 m18 from by rw [eq_29]; rfl)) _).trans z_19
          refine wa_iaload B hm18 km18 (by decide) (by decide) (show 0 ≤ n1.toInt by omega) (show n1.toInt < (h.2.1 m18 : Int) by omega) (v := (q.2.2.2.1 m18 (n1 : Int32).toNatClampNeg)) z_32 dX12_write_56 ?_
          refine wa_iconst B 1 dX12_write_57 (by decide) ?_
          refine wa_isub B dX12_write_58 (fun v_33 ev_33 => ?_)
          refine wa_istore B [(4, .int v_33), (3, .int n2), (0, .ref a0), (1, .int n1), (2, .int n2)] dX12_write_59 (by decide) rfl ?_
          have z_37 : q_29.1 a0 20 = (q.1 a0 20) := ((show q_29.1 a0 20 = q_1.1 a0 20 from by rw [eq_29]; exact sg_pI_k (by decide))).trans (z_7)
          have z_38 : q_29.1 a0 0 = 0 := ((show q_29.1 a0 0 = q_1.1 a0 0 from by rw [eq_29]; exact sg_pI_k (by decide))).trans (z_2)
          have z_39 : q_29.2.2.1 a0 17 = m17 := ((show q_29.2.2.1 a0 17 = q_1.2.2.1 a0 17 from by rw [eq_29]; rfl)).trans (((show q_1.2.2.1 a0 17 = q.2.2.1 a0 17 from by rw [eq_1]; rfl)).trans (em17))
          have z_40 : q_29.2.2.1 a0 19 = m19 := ((show q_29.2.2.1 a0 19 = q_1.2.2.1 a0 19 from by rw [eq_29]; rfl)).trans (z_22)
          have z_41 : q_29.2.2.1 a0 21 = m21 := ((show q_29.2.2.1 a0 21 = q_1.2.2.1 a0 21 from by rw [eq_29]; rfl)).trans (((show q_1.2.2.1 a0 21 = q.2.2.1 a0 21 from by rw [eq_1]; rfl)).trans (em21))
          have z_42 : q_29.2.2.2.1 m18 = (q.2.2.2.1 m18) := ((show q_29.2.2.2.1 m18 = q_1.2.2.2.1 m18 from by rw [eq_29]; rfl)).trans (z_18)
          have z_43 : q_29.2.2.2.1 m19 = (q.2.2.2.1 m19) := ((show q_29.2.2.2.1 m19 = q_1.2.2.2.1 m19 from by rw [eq_29]; rfl)).trans (z_26)
          have z_44 : q_29.2.2.2.1 m21 = q.2.2.2.1 m21 := ((show q_29.2.2.2.1 m21 = q_1.2.2.2.1 m21 from by rw [eq_29]; rfl)).trans ((show q_1.2.2.2.1 m21 = q.2.2.2.1 m21 from by rw [eq_1]; rfl))
          have z_45 : q_29.2.2.2.2 m17 = q.2.2.2.2 m17 := ((show q_29.2.2.2.2 m17 = q_1.2.2.2.2 m17 from by rw [eq_29]; rfl)).trans ((show q_1.2.2.2.2 m17 = q.2.2.2.2 m17 from by rw [eq_1]; rfl))
          have Lp_61_50 : ∀ (n : Nat) (v_34 : Int32) (v_35 : Int32) (q_36 : Sg), sx_V h L q_36 → sx_fr h L (fun a => h.1 a = 12 ∨ h.1 a = 131) q q_36 → sx_kf a0 [0, 22] q q_36 → q_36.1 a0 20 = (q.1 a0 20) → q_36.1 a0 0 = 0 → q_36.2.2.1 a0 17 = m17 → q_36.2.2.1 a0 18 = m18 → q_36.2.2.1 a0 19 = m19 → q_36.2.2.1 a0 21 = m21 → q_36.2.2.2.1 m18 = (q.2.2.2.1 m18) → q_36.2.2.2.1 m19 = (q.2.2.2.1 m19) → q_36.2.2.2.2 m17 = (q.2.2.2.2 m17) → (-1) ≤ v_34.toInt → v_34.toInt < (q.2.2.2.1 m18 n1.toNatClampNeg).toInt → 0 ≤ v_35.toInt → pw_I (fun l => pw_R l (q_36.1 a0 22) (q_36.2.2.2.1 m21)) Wf Xf T9 (v_34.toInt + 1).toNat (v_35.toInt).toNat → (v_34.toInt + 1 : Int).toNat < n → WA l dC dI h L ({ frames := 2, cells := 0, slots := 0, locals := 45 } : Room) 6 Z q_36 61 [(4, .int v_34), (3, .int v_35), (0, .ref a0), (1, .int n1), (2, .int n2)] [] := by
            intro n
            induction n with
            | zero =>
              intro v_34 v_35 q_36 hV_q_36 hF_q_36 hK_q_36 p0_q_36 p1_q_36 p2_q_36 p3_q_36 p4_q_36 p5_q_36 p6_q_36 p7_q_36 p8_q_36 x_46 x_47 x_48 x_49 hn
              exact absurd hn (Nat.not_lt_zero _)
            | succ n ih_51 =>
              intro v_34 v_35 q_36 hV_q_36 hF_q_36 hK_q_36 p0_q_36 p1_q_36 p2_q_36 p3_q_36 p4_q_36 p5_q_36 p6_q_36 p7_q_36 p8_q_36 x_46 x_47 x_48 x_49 hn
              refine wa_iload B dX12_write_61 0 rfl ?_
              refine wa_if_lt B 166 dX12_write_63 (by decide) (fun (t_52 : v_34.toInt < 0) => ?_) (fun (t_52 : ¬ v_34.toInt < 0) => ?_)
              · refine wa_aload_n B dX12_write_166 rfl 2 rfl ?_
                refine wa_getI B (C := RX12) (T := TX12) (N := 51) iq_X12_write_X12 ha0 ka0 (by decide) rfl 22 (by decide) (by decide) (by decide +kernel) rfl (by decide) (v := (q_36.1 a0 22)) rfl dX12_write_167 ?_
                have g_53 : (0 : Int) ≤ (q_36.1 a0 22).toInt ∧ (q_36.1 a0 22).toInt ≤ 80 := hV_q_36.int ha0 ka0 22
                exact hret _ _ _ _ dX12_write_170 ⟨hV_q_36, hF_q_36, hK_q_36, (Or.inr ⟨by omega, (by have x9 := x_49; rw [show (v_34.toInt + 1).toNat = 0 by omega] at x9; exact pw_I.e x9), rfl⟩)⟩
              · have hI9 : pw_I (fun l => pw_R l (q_36.1 a0 22) (q_36.2.2.2.1 m21)) Wf Xf T9 (v_34.toInt.toNat + 1) v_35.toInt.toNat := by rw [show v_34.toInt.toNat + 1 = (v_34.toInt + 1).toNat by omega]; exact x_49
                obtain ⟨hw1, hw2, hw3, hw4⟩ := hc9.2 v_34.toInt.toNat (by omega)
                refine wa_iload_n B dX12_write_66 rfl 1 rfl ?_
                refine wa_aload_n B dX12_write_67 rfl 2 rfl ?_
                refine wa_iload_n B dX12_write_68 rfl 3 rfl ?_
                refine wa_iload B dX12_write_69 0 rfl ?_
                refine wa_callVi B (x := (RX12, TX12, 51)) (As := [.int n1, .int v_34]) (rest := [.int v_35]) (k_X12_worth_c l dC dI h L hN q_36 hV_q_36 (a0 := a0) ha0 ka0 n1 v_34 (m19 := m19) p4_q_36  (by first | assumption | omega | decide) (by first | assumption | omega | decide) (by first | assumption | omega | decide) (by first | assumption | omega | decide)) (cwV 2 B.1.2.2.2.2 gX12_write_X12_worth rfl rfl rfl (by decide +kernel) ⟨Nat.le_of_ble_eq_true rfl, Nat.le_of_ble_eq_true rfl⟩) ha0 ka0 (by decide) rfl rfl rfl (Nat.le_of_ble_eq_true rfl) dX12_write_71 (fun r_55 q_54 w_56 => ?_)
                obtain ⟨ew_56, hw_56⟩ := w_56
                subst ew_56
                rw [p7_q_36] at hw_56
                have hrA : r_55.toInt = ((Wf v_34.toInt.toNat : Nat) : Int) := by rw [hw_56, show (v_34 : Int32).toNatClampNeg = v_34.toInt.toNat by have a9 := zx_nc v_34; omega]; exact hw1
                refine wa_idiv B dX12_write_74 (fun z => absurd (show r_55.toInt = (0 : Int) from zx_eq.mp z) (by omega)) (fun v_57 ev_57 => ?_)
                refine wa_istore B [(5, .int v_57), (4, .int v_34), (3, .int v_35), (0, .ref a0), (1, .int n1), (2, .int n2)] dX12_write_75 (by decide) rfl ?_
                refine wa_iload_n B dX12_write_77 rfl 2 rfl ?_
                refine wa_aload_n B dX12_write_78 rfl 3 rfl ?_
                refine wa_iload_n B dX12_write_79 rfl 4 rfl ?_
                refine wa_iload B dX12_write_80 1 rfl ?_
                refine wa_callVi B (x := (RX12, TX12, 51)) (As := [.int n1, .int v_34]) (rest := [.int v_35]) (k_X12_worth_c l dC dI h L hN q_36 hV_q_36 (a0 := a0) ha0 ka0 n1 v_34 (m19 := m19) p4_q_36  (by first | assumption | omega | decide) (by first | assumption | omega | decide) (by first | assumption | omega | decide) (by first | assumption | omega | decide)) (cwV 2 B.1.2.2.2.2 gX12_write_X12_worth rfl rfl rfl (by decide +kernel) ⟨Nat.le_of_ble_eq_true rfl, Nat.le_of_ble_eq_true rfl⟩) ha0 ka0 (by decide) rfl rfl rfl (Nat.le_of_ble_eq_true rfl) dX12_write_82 (fun r_59 q_58 w_60 => ?_)
                obtain ⟨ew_60, hw_60⟩ := w_60
                subst ew_60
                rw [p7_q_36] at hw_60
                have hrB : r_59.toInt = ((Wf v_34.toInt.toNat : Nat) : Int) := by rw [hw_60, show (v_34 : Int32).toNatClampNeg = v_34.toInt.toNat by have a9 := zx_nc v_34; omega]; exact hw1
                refine wa_irem B dX12_write_85 (fun z => absurd (show r_59.toInt = (0 : Int) from zx_eq.mp z) (by omega)) (fun v_61 ev_61 => ?_)
                refine wa_istore_n B [(3, .int v_61), (5, .int v_57), (4, .int v_34), (0, .ref a0), (1, .int n1), (2, .int n2)] dX12_write_86 rfl (by decide) rfl ?_
                have hd9 := pw_dm (by omega) hrA hw2 ev_57
                have hm9 := pw_rm (by omega) hrB hw2 rfl rfl ev_61
                refine wa_iload B dX12_write_87 1 rfl ?_
                refine wa_if_ne B 95 dX12_write_89 (by decide) (fun (t_62 : ¬ v_57.toInt = 0) => ?_) (fun (t_62 : v_57.toInt = 0) => ?_)
                · obtain ⟨l9, hc1, hc2, hc3, hc4⟩ := hI9
                  have hc5 : v_35.toInt.toNat / Wf v_34.toInt.toNat ≤ 99 := hc4 (Nat.succ_pos _)
                  rw [← hd9.2] at hc5
                  have hx9 := hw4.len
                  have y95 := hc1.1
                  have y96 := pw_a1_ge (l := l9)
                  have y97 := pw_a3_len (t := v_57.toInt.toNat) (l := l9)
                  refine wa_aload_n B dX12_write_95 rfl 3 rfl ?_
                  refine wa_getI B (C := RX12) (T := TX12) (N := 51) iq_X12_write_X12 ha0 ka0 (by decide) rfl 22 (by decide) (by decide) (by decide +kernel) rfl (by decide) (v := (q_36.1 a0 22)) rfl dX12_write_96 ?_
                  have g_63 : (0 : Int) ≤ (q_36.1 a0 22).toInt ∧ (q_36.1 a0 22).toInt ≤ 80 := hV_q_36.int ha0 ka0 22
                  have Jn_108_66 : ∀  (q_64 : Sg), sx_V h L q_64 → sx_fr h L (fun a => h.1 a = 12 ∨ h.1 a = 131) q q_64 → sx_kf a0 [0, 22] q q_64 → q_64.1 a0 20 = (q.1 a0 20) → q_64.1 a0 0 = 0 → q_64.2.2.1 a0 17 = m17 → q_64.2.2.1 a0 18 = m18 → q_64.2.2.1 a0 19 = m19 → q_64.2.2.1 a0 21 = m21 → q_64.2.2.2.1 m18 = (q.2.2.2.1 m18) → q_64.2.2.2.1 m19 = (q.2.2.2.1 m19) → q_64.2.2.2.2 m17 = (q.2.2.2.2 m17) → pw_R (pw_a1 l9) (q_64.1 a0 22) (q_64.2.2.2.1 m21) → WA l dC dI h L ({ frames := 2, cells := 0, slots := 0, locals := 45 } : Room) 6 Z q_64 108 [(3, .int v_61), (5, .int v_57), (4, .int v_34), (0, .ref a0), (1, .int n1), (2, .int n2)] [] := by
                    intro q_64 hV_q_64 hF_q_64 hK_q_64 p0_q_64 p1_q_64 p2_q_64 p3_q_64 p4_q_64 p5_q_64 p6_q_64 p7_q_64 p8_q_64 x_65
                    refine wa_iload B dX12_write_108 1 rfl ?_
                    have y108 := x_65.1
                    refine wa_bipush B 9 dX12_write_110 (by decide) ?_
                    have Jn_127_69 : ∀  (q_67 : Sg), sx_V h L q_67 → sx_fr h L (fun a => h.1 a = 12 ∨ h.1 a = 131) q q_67 → sx_kf a0 [0, 22] q q_67 → q_67.1 a0 20 = (q.1 a0 20) → q_67.1 a0 0 = 0 → q_67.2.2.1 a0 17 = m17 → q_67.2.2.1 a0 18 = m18 → q_67.2.2.1 a0 19 = m19 → q_67.2.2.1 a0 21 = m21 → q_67.2.2.2.1 m18 = (q.2.2.2.1 m18) → q_67.2.2.2.1 m19 = (q.2.2.2.1 m19) → q_67.2.2.2.2 m17 = (q.2.2.2.2 m17) → pw_R (pw_a2 (v_57).toInt.toNat (pw_a1 l9)) (q_67.1 a0 22) (q_67.2.2.2.1 m21) → WA l dC dI h L ({ frames := 2, cells := 0, slots := 0, locals := 45 } : Room) 6 Z q_67 127 [(3, .int v_61), (5, .int v_57), (4, .int v_34), (0, .ref a0), (1, .int n1), (2, .int n2)] [] := by
                      intro q_67 hV_q_67 hF_q_67 hK_q_67 p0_q_67 p1_q_67 p2_q_67 p3_q_67 p4_q_67 p5_q_67 p6_q_67 p7_q_67 p8_q_67 x_68
                      refine wa_aload_n B dX12_write_127 rfl 3 rfl ?_
                      have y127 := x_68.1
                      have y128 := pw_a2_len (t := v_57.toInt.toNat) (l := pw_a1 l9)
                      refine wa_bipush B 48 dX12_write_128 (by decide) ?_
                      refine wa_iload B dX12_write_130 1 rfl ?_
                      refine wa_bipush B 10 dX12_write_132 (by decide) ?_
                      refine wa_irem B dX12_write_134 (by decide) (fun v_70 ev_70 => ?_)
                      refine wa_iadd B dX12_write_135 (fun v_71 ev_71 => ?_)
                      refine wa_callVv B (x := (RX12, TX12, 51)) (As := [.int v_71]) (rest := []) (k_X12_outByte_c l dC dI h L hN q_67 hV_q_67 (a0 := a0) ha0 ka0 v_71 (m21 := m21) p5_q_67  (by first | assumption | omega | decide)) (cwV 1 B.1.2.2.2.2 gX12_write_X12_outByte rfl rfl rfl (by decide +kernel) ⟨Nat.le_of_ble_eq_true rfl, Nat.le_of_ble_eq_true rfl⟩) ha0 ka0 (by decide) rfl rfl rfl (Nat.le_of_ble_eq_true rfl) dX12_write_136 (fun q_72 w_73 => ?_)
                      obtain ⟨hV_q_72, h2_q_72, h3_q_72, hw_73⟩ := w_73
                      have hF_q_72 : sx_fr h L (fun a => h.1 a = 12 ∨ h.1 a = 131) q q_72 := hF_q_67.tr (h2_q_72.mono (fun a (z : h.1 a = 12 ∨ h.1 a = 131) => ((fun z => z.elim (fun z => (Or.inl z)) (fun z => (Or.inr z))) z)))
                      have hK_q_72 : sx_kf a0 [0, 22] q q_72 := hK_q_67.tr (h3_q_72.mono (by decide))
                      refine wa_aload_n B dX12_write_139 rfl 3 rfl ?_
                      refine wa_bipush B 32 dX12_write_140 (by decide) ?_
                      have n_74 : (32 : Int32).toInt = 32 := rfl
                      have z_75 : q_72.2.2.1 a0 21 = m21 := (h2_q_72.R ha0 (fun z9 => absurd z9.2 (by omega)) 21).trans (p5_q_67)
                      refine wa_callVv B (x := (RX12, TX12, 51)) (As := [.int 32]) (rest := []) (k_X12_outByte_c l dC dI h L hN q_72 hV_q_72 (a0 := a0) ha0 ka0 32 (m21 := m21) z_75  (by first | assumption | omega | decide)) (cwV 1 B.1.2.2.2.2 gX12_write_X12_outByte rfl rfl rfl (by decide +kernel) ⟨Nat.le_of_ble_eq_true rfl, Nat.le_of_ble_eq_true rfl⟩) ha0 ka0 (by decide) rfl rfl rfl (Nat.le_of_ble_eq_true rfl) dX12_write_142 (fun q_76 w_77 => ?_)
                      obtain ⟨hV_q_76, h2_q_76, h3_q_76, hw_77⟩ := w_77
                      have hF_q_76 : sx_fr h L (fun a => h.1 a = 12 ∨ h.1 a = 131) q q_76 := hF_q_72.tr (h2_q_76.mono (fun a (z : h.1 a = 12 ∨ h.1 a = 131) => ((fun z => z.elim (fun z => (Or.inl z)) (fun z => (Or.inr z))) z)))
                      have hK_q_76 : sx_kf a0 [0, 22] q q_76 := hK_q_72.tr (h3_q_76.mono (by decide))
                      refine wa_aload_n B dX12_write_145 rfl 3 rfl ?_
                      refine wa_aload_n B dX12_write_146 rfl 3 rfl ?_
                      have z_78 : q_76.2.2.1 a0 17 = m17 := (h2_q_76.R ha0 (fun z9 => absurd z9.2 (by omega)) 17).trans ((h2_q_72.R ha0 (fun z9 => absurd z9.2 (by omega)) 17).trans (p2_q_67))
                      refine wa_getR B (C := RX12) (T := TX12) (N := 51) iq_X12_write_X12 ha0 ka0 (by decide) rfl 17 (by decide) (by decide) (by decide +kernel) rfl (fun _ _ _ => rfl) (v := m17) z_78 dX12_write_147 ?_
                      refine wa_iconst B 5 dX12_write_150 (by decide) ?_
                      refine wa_iload_n B dX12_write_151 rfl 4 rfl ?_
                      refine wa_imul B dX12_write_152 (fun v_79 ev_79 => ?_)
                      refine wa_iload B dX12_write_153 2 rfl ?_
                      refine wa_iadd B dX12_write_155 (fun v_80 ev_80 => ?_)
                      have tv_79 : v_79.toInt = 5 * n1.toInt := by have b1 := zx_bd n1; rw [ev_79]; exact zx_mul (show (-2147483648 : Int) ≤ 5 * n1.toInt by omega) (show 5 * n1.toInt < (2147483648 : Int) by omega)
                      have tv_80 : v_80.toInt = v_79.toInt + v_34.toInt := by have b0 := zx_bd v_79; have b1 := zx_bd v_34; rw [ev_80]; exact zx_add (show (-2147483648 : Int) ≤ v_79.toInt + v_34.toInt by omega) (show v_79.toInt + v_34.toInt < (2147483648 : Int) by omega)
                      have z_81 : q_76.2.2.2.2 m17 = (q.2.2.2.2 m17) := (h2_q_76.Lg hm17 (show ¬ (h.1 m17 = 12 ∨ h.1 m17 = 131) from (fun z => z.elim (fun z => absurd (z.symm.trans km17) (by decide)) (fun z => absurd (z.symm.trans km17) (by decide)))) (by rw [km17]; decide)).trans ((h2_q_72.Lg hm17 (show ¬ (h.1 m17 = 12 ∨ h.1 m17 = 131) from (fun z => z.elim (fun z => absurd (z.symm.trans km17) (by decide)) (fun z => absurd (z.symm.trans km17) (by decide)))) (by rw [km17]; decide)).trans (p8_q_67))
                      have z_82 : q_76.2.2.2.2 m17 (v_80 : Int32).toNatClampNeg = (q.2.2.2.2 m17 (v_80 : Int32).toNatClampNeg) := congrFun z_81 _
                      refine wa_laload B hm17 km17 (by decide) (by decide) (show 0 ≤ v_80.toInt by omega) (show v_80.toInt < (h.2.1 m17 : Int) by omega) (v := (q.2.2.2.2 m17 (v_80 : Int32).toNatClampNeg)) z_82 dX12_write_156 ?_
                      have z_83 : q_76.2.2.1 a0 21 = m21 := (h2_q_76.R ha0 (fun z9 => absurd z9.2 (by omega)) 21).trans (z_75)
                      refine wa_callVv B (x := (RX12, TX12, 51)) (As := [.long ((q.2.2.2.2 m17 (v_80 : Int32).toNatClampNeg))]) (rest := []) (k_X12_outName_c l dC dI h L hN q_76 hV_q_76 (a0 := a0) ha0 ka0 ((q.2.2.2.2 m17 (v_80 : Int32).toNatClampNeg)) (m21 := m21) z_83 (pw_a3 v_57.toInt.toNat l9) (Xf v_34.toInt.toNat) (by rw [show (v_80 : Int32).toNatClampNeg = 5 * n1.toNatClampNeg + v_34.toInt.toNat by have a9 := zx_nc v_80; have a8 := zx_nc n1; omega]; exact hw4) (pw_b3p x_68 (by omega) (by omega) ev_70 ev_71 hw_73.1 hw_73.2 hw_77.1 hw_77.2) (by first | assumption | omega | decide)) (cwV 1 B.1.2.2.2.2 gX12_write_X12_outName rfl rfl rfl (by decide +kernel) ⟨Nat.le_of_ble_eq_true rfl, Nat.le_of_ble_eq_true rfl⟩) ha0 ka0 (by decide) rfl rfl rfl (Nat.le_of_ble_eq_true rfl) dX12_write_157 (fun q_84 w_85 => ?_)
                      obtain ⟨hV_q_84, h2_q_84, h3_q_84, hw_85⟩ := w_85
                      have hF_q_84 : sx_fr h L (fun a => h.1 a = 12 ∨ h.1 a = 131) q q_84 := hF_q_76.tr (h2_q_84.mono (fun a (z : h.1 a = 12 ∨ h.1 a = 131) => ((fun z => z.elim (fun z => (Or.inl z)) (fun z => (Or.inr z))) z)))
                      have hK_q_84 : sx_kf a0 [0, 22] q q_84 := hK_q_76.tr (h3_q_84.mono (by decide))
                      obtain ⟨v_86, ev_86⟩ : ∃ z : Int32, z = v_34 + (-1) := ⟨_, rfl⟩
                      refine wa_iinc B [(4, .int v_86), (3, .int v_61), (5, .int v_57), (0, .ref a0), (1, .int n1), (2, .int n2)] v_86 dX12_write_160 2 rfl (by rw [ev_86]; rfl) (by decide) rfl ?_
                      refine wa_goto B 61 dX12_write_163 (by decide) ?_
                      have tv_86 : v_86.toInt = v_34.toInt + (-1) := by have b0 := zx_bd v_34; rw [ev_86]; exact zx_add (show (-2147483648 : Int) ≤ v_34.toInt + (-1) by omega) (show v_34.toInt + (-1) < (2147483648 : Int) by omega)
                      have z_87 : q_84.1 a0 20 = (q.1 a0 20) := (h3_q_84.1 20 (by decide)).trans ((h3_q_76.1 20 (by decide)).trans ((h3_q_72.1 20 (by decide)).trans (p0_q_67)))
                      have z_88 : q_84.1 a0 0 = 0 := (h3_q_84.1 0 (by decide)).trans ((h3_q_76.1 0 (by decide)).trans ((h3_q_72.1 0 (by decide)).trans (p1_q_67)))
                      have z_89 : q_84.2.2.1 a0 17 = m17 := (h2_q_84.R ha0 (fun z9 => absurd z9.2 (by omega)) 17).trans (z_78)
                      have z_90 : q_84.2.2.1 a0 18 = m18 := (h2_q_84.R ha0 (fun z9 => absurd z9.2 (by omega)) 18).trans ((h2_q_76.R ha0 (fun z9 => absurd z9.2 (by omega)) 18).trans ((h2_q_72.R ha0 (fun z9 => absurd z9.2 (by omega)) 18).trans (p3_q_67)))
                      have z_91 : q_84.2.2.1 a0 19 = m19 := (h2_q_84.R ha0 (fun z9 => absurd z9.2 (by omega)) 19).trans ((h2_q_76.R ha0 (fun z9 => absurd z9.2 (by omega)) 19).trans ((h2_q_72.R ha0 (fun z9 => absurd z9.2 (by omega)) 19).trans (p4_q_67)))
                      have z_92 : q_84.2.2.1 a0 21 = m21 := (h2_q_84.R ha0 (fun z9 => absurd z9.2 (by omega)) 21).trans (z_83)
                      have z_93 : q_84.2.2.2.1 m18 = (q.2.2.2.1 m18) := (h2_q_84.G hm18 (show ¬ (h.1 m18 = 12 ∨ h.1 m18 = 131) from (fun z => z.elim (fun z => absurd (z.symm.trans km18) (by decide)) (fun z => absurd (z.symm.trans km18) (by decide)))) (by rw [km18]; decide)).trans ((h2_q_76.G hm18 (show ¬ (h.1 m18 = 12 ∨ h.1 m18 = 131) from (fun z => z.elim (fun z => absurd (z.symm.trans km18) (by decide)) (fun z => absurd (z.symm.trans km18) (by decide)))) (by rw [km18]; decide)).trans ((h2_q_72.G hm18 (show ¬ (h.1 m18 = 12 ∨ h.1 m18 = 131) from (fun z => z.elim (fun z => absurd (z.symm.trans km18) (by decide)) (fun z => absurd (z.symm.trans km18) (by decide)))) (by rw [km18]; decide)).trans (p6_q_67)))
                      have z_94 : q_84.2.2.2.1 m19 = (q.2.2.2.1 m19) := (h2_q_84.G hm19 (show ¬ (h.1 m19 = 12 ∨ h.1 m19 = 131) from (fun z => z.elim (fun z => absurd (z.symm.trans km19) (by decide)) (fun z => absurd (z.symm.trans km19) (by decide)))) (by rw [km19]; decide)).trans ((h2_q_76.G hm19 (show ¬ (h.1 m19 = 12 ∨ h.1 m19 = 131) from (fun z => z.elim (fun z => absurd (z.symm.trans km19) (by decide)) (fun z => absurd (z.symm.trans km19) (by decide)))) (by rw [km19]; decide)).trans ((h2_q_72.G hm19 (show ¬ (h.1 m19 = 12 ∨ h.1 m19 = 131) from (fun z => z.elim (fun z => absurd (z.symm.trans km19) (by decide)) (fun z => absurd (z.symm.trans km19) (by decide)))) (by rw [km19]; decide)).trans (p7_q_67)))
                      have z_95 : q_84.2.2.2.2 m17 = (q.2.2.2.2 m17) := (h2_q_84.Lg hm17 (show ¬ (h.1 m17 = 12 ∨ h.1 m17 = 131) from (fun z => z.elim (fun z => absurd (z.symm.trans km17) (by decide)) (fun z => absurd (z.symm.trans km17) (by decide)))) (by rw [km17]; decide)).trans (z_81)
                      refine WA.sub [0, 1, 3, 4, 5] rfl ?_
                      exact ih_51 v_86 v_61 q_84 hV_q_84 hF_q_84 hK_q_84 z_87 z_88 z_89 z_90 z_91 z_92 z_93 z_94 z_95 (show (-1) ≤ v_86.toInt from by first | assumption | omega | decide) (show v_86.toInt < (q.2.2.2.1 m18 n1.toNatClampNeg).toInt from by first | assumption | omega | decide) (show 0 ≤ v_61.toInt from by first | assumption | omega | decide) (show pw_I (fun l => pw_R l (q_84.1 a0 22) (q_84.2.2.2.1 m21)) Wf Xf T9 (v_86.toInt + 1).toNat (v_61.toInt).toNat from by rw [show (v_86.toInt + 1).toNat = v_34.toInt.toNat by omega, hm9.2]; exact pw_I.s hc2 hc3 (by rw [← hd9.2]; exact hw_85) (by rw [← hd9.2]; omega) hx9 hw2 hw3) (show (v_86.toInt + 1 : Int).toNat < _ from by omega)
                    refine wa_icmp_le B 127 dX12_write_112 (by decide) (fun (t_96 : v_57.toInt ≤ 9) => ?_) (fun (t_96 : ¬ v_57.toInt ≤ 9) => ?_)
                    · exact Jn_127_69 q_64 hV_q_64 hF_q_64 hK_q_64 p0_q_64 p1_q_64 p2_q_64 p3_q_64 p4_q_64 p5_q_64 p6_q_64 p7_q_64 p8_q_64 (show pw_R (pw_a2 (v_57).toInt.toNat (pw_a1 l9)) (q_64.1 a0 22) (q_64.2.2.2.1 m21) from by exact pw_b2n x_65 (by omega))
                    · refine wa_aload_n B dX12_write_115 rfl 3 rfl ?_
                      refine wa_bipush B 48 dX12_write_116 (by decide) ?_
                      refine wa_iload B dX12_write_118 1 rfl ?_
                      refine wa_bipush B 10 dX12_write_120 (by decide) ?_
                      refine wa_idiv B dX12_write_122 (by decide) (fun v_97 ev_97 => ?_)
                      refine wa_iadd B dX12_write_123 (fun v_98 ev_98 => ?_)
                      refine wa_callVv B (x := (RX12, TX12, 51)) (As := [.int v_98]) (rest := []) (k_X12_outByte_c l dC dI h L hN q_64 hV_q_64 (a0 := a0) ha0 ka0 v_98 (m21 := m21) p5_q_64  (by first | assumption | omega | decide)) (cwV 1 B.1.2.2.2.2 gX12_write_X12_outByte rfl rfl rfl (by decide +kernel) ⟨Nat.le_of_ble_eq_true rfl, Nat.le_of_ble_eq_true rfl⟩) ha0 ka0 (by decide) rfl rfl rfl (Nat.le_of_ble_eq_true rfl) dX12_write_124 (fun q_99 w_100 => ?_)
                      obtain ⟨hV_q_99, h2_q_99, h3_q_99, hw_100⟩ := w_100
                      have hF_q_99 : sx_fr h L (fun a => h.1 a = 12 ∨ h.1 a = 131) q q_99 := hF_q_64.tr (h2_q_99.mono (fun a (z : h.1 a = 12 ∨ h.1 a = 131) => ((fun z => z.elim (fun z => (Or.inl z)) (fun z => (Or.inr z))) z)))
                      have hK_q_99 : sx_kf a0 [0, 22] q q_99 := hK_q_64.tr (h3_q_99.mono (by decide))
                      have z_101 : q_99.1 a0 20 = (q.1 a0 20) := (h3_q_99.1 20 (by decide)).trans (p0_q_64)
                      have z_102 : q_99.1 a0 0 = 0 := (h3_q_99.1 0 (by decide)).trans (p1_q_64)
                      have z_103 : q_99.2.2.1 a0 17 = m17 := (h2_q_99.R ha0 (fun z9 => absurd z9.2 (by omega)) 17).trans (p2_q_64)
                      have z_104 : q_99.2.2.1 a0 18 = m18 := (h2_q_99.R ha0 (fun z9 => absurd z9.2 (by omega)) 18).trans (p3_q_64)
                      have z_105 : q_99.2.2.1 a0 19 = m19 := (h2_q_99.R ha0 (fun z9 => absurd z9.2 (by omega)) 19).trans (p4_q_64)
                      have z_106 : q_99.2.2.1 a0 21 = m21 := (h2_q_99.R ha0 (fun z9 => absurd z9.2 (by omega)) 21).trans (p5_q_64)
                      have z_107 : q_99.2.2.2.1 m18 = (q.2.2.2.1 m18) := (h2_q_99.G hm18 (show ¬ (h.1 m18 = 12 ∨ h.1 m18 = 131) from (fun z => z.elim (fun z => absurd (z.symm.trans km18) (by decide)) (fun z => absurd (z.symm.trans km18) (by decide)))) (by rw [km18]; decide)).trans (p6_q_64)
                      have z_108 : q_99.2.2.2.1 m19 = (q.2.2.2.1 m19) := (h2_q_99.G hm19 (show ¬ (h.1 m19 = 12 ∨ h.1 m19 = 131) from (fun z => z.elim (fun z => absurd (z.symm.trans km19) (by decide)) (fun z => absurd (z.symm.trans km19) (by decide)))) (by rw [km19]; decide)).trans (p7_q_64)
                      have z_109 : q_99.2.2.2.2 m17 = (q.2.2.2.2 m17) := (h2_q_99.Lg hm17 (show ¬ (h.1 m17 = 12 ∨ h.1 m17 = 131) from (fun z => z.elim (fun z => absurd (z.symm.trans km17) (by decide)) (fun z => absurd (z.symm.trans km17) (by decide)))) (by rw [km17]; decide)).trans (p8_q_64)
                      exact Jn_127_69 q_99 hV_q_99 hF_q_99 hK_q_99 z_101 z_102 z_103 z_104 z_105 z_106 z_107 z_108 z_109 (show pw_R (pw_a2 (v_57).toInt.toNat (pw_a1 l9)) (q_99.1 a0 22) (q_99.2.2.2.1 m21) from by exact pw_b2p x_65 (by omega) (by omega) ev_97 ev_98 hw_100.1 hw_100.2)
                  refine wa_if_le B 108 dX12_write_99 (by decide) (fun (t_110 : (q_36.1 a0 22).toInt ≤ 0) => ?_) (fun (t_110 : ¬ (q_36.1 a0 22).toInt ≤ 0) => ?_)
                  · exact Jn_108_66 q_36 hV_q_36 hF_q_36 hK_q_36 p0_q_36 p1_q_36 p2_q_36 p3_q_36 p4_q_36 p5_q_36 p6_q_36 p7_q_36 p8_q_36 (show pw_R (pw_a1 l9) (q_36.1 a0 22) (q_36.2.2.2.1 m21) from by exact pw_b1n hc1 (by omega))
                  · refine wa_aload_n B dX12_write_102 rfl 3 rfl ?_
                    refine wa_bipush B 32 dX12_write_103 (by decide) ?_
                    have n_111 : (32 : Int32).toInt = 32 := rfl
                    refine wa_callVv B (x := (RX12, TX12, 51)) (As := [.int 32]) (rest := []) (k_X12_outByte_c l dC dI h L hN q_36 hV_q_36 (a0 := a0) ha0 ka0 32 (m21 := m21) p5_q_36  (by first | assumption | omega | decide)) (cwV 1 B.1.2.2.2.2 gX12_write_X12_outByte rfl rfl rfl (by decide +kernel) ⟨Nat.le_of_ble_eq_true rfl, Nat.le_of_ble_eq_true rfl⟩) ha0 ka0 (by decide) rfl rfl rfl (Nat.le_of_ble_eq_true rfl) dX12_write_105 (fun q_112 w_113 => ?_)
                    obtain ⟨hV_q_112, h2_q_112, h3_q_112, hw_113⟩ := w_113
                    have hF_q_112 : sx_fr h L (fun a => h.1 a = 12 ∨ h.1 a = 131) q q_112 := hF_q_36.tr (h2_q_112.mono (fun a (z : h.1 a = 12 ∨ h.1 a = 131) => ((fun z => z.elim (fun z => (Or.inl z)) (fun z => (Or.inr z))) z)))
                    have hK_q_112 : sx_kf a0 [0, 22] q q_112 := hK_q_36.tr (h3_q_112.mono (by decide))
                    have z_114 : q_112.1 a0 20 = (q.1 a0 20) := (h3_q_112.1 20 (by decide)).trans (p0_q_36)
                    have z_115 : q_112.1 a0 0 = 0 := (h3_q_112.1 0 (by decide)).trans (p1_q_36)
                    have z_116 : q_112.2.2.1 a0 17 = m17 := (h2_q_112.R ha0 (fun z9 => absurd z9.2 (by omega)) 17).trans (p2_q_36)
                    have z_117 : q_112.2.2.1 a0 18 = m18 := (h2_q_112.R ha0 (fun z9 => absurd z9.2 (by omega)) 18).trans (p3_q_36)
                    have z_118 : q_112.2.2.1 a0 19 = m19 := (h2_q_112.R ha0 (fun z9 => absurd z9.2 (by omega)) 19).trans (p4_q_36)
                    have z_119 : q_112.2.2.1 a0 21 = m21 := (h2_q_112.R ha0 (fun z9 => absurd z9.2 (by omega)) 21).trans (p5_q_36)
                    have z_120 : q_112.2.2.2.1 m18 = (q.2.2.2.1 m18) := (h2_q_112.G hm18 (show ¬ (h.1 m18 = 12 ∨ h.1 m18 = 131) from (fun z => z.elim (fun z => absurd (z.symm.trans km18) (by decide)) (fun z => absurd (z.symm.trans km18) (by decide)))) (by rw [km18]; decide)).trans (p6_q_36)
                    have z_121 : q_112.2.2.2.1 m19 = (q.2.2.2.1 m19) := (h2_q_112.G hm19 (show ¬ (h.1 m19 = 12 ∨ h.1 m19 = 131) from (fun z => z.elim (fun z => absurd (z.symm.trans km19) (by decide)) (fun z => absurd (z.symm.trans km19) (by decide)))) (by rw [km19]; decide)).trans (p7_q_36)
                    have z_122 : q_112.2.2.2.2 m17 = (q.2.2.2.2 m17) := (h2_q_112.Lg hm17 (show ¬ (h.1 m17 = 12 ∨ h.1 m17 = 131) from (fun z => z.elim (fun z => absurd (z.symm.trans km17) (by decide)) (fun z => absurd (z.symm.trans km17) (by decide)))) (by rw [km17]; decide)).trans (p8_q_36)
                    exact Jn_108_66 q_112 hV_q_112 hF_q_112 hK_q_112 z_114 z_115 z_116 z_117 z_118 z_119 z_120 z_121 z_122 (show pw_R (pw_a1 l9) (q_112.1 a0 22) (q_112.2.2.2.1 m21) from by exact pw_b1p hc1 (by omega) hw_113.1 hw_113.2)
                · refine wa_goto B 160 dX12_write_92 (by decide) ?_
                  obtain ⟨v_123, ev_123⟩ : ∃ z : Int32, z = v_34 + (-1) := ⟨_, rfl⟩
                  refine wa_iinc B [(4, .int v_123), (3, .int v_61), (5, .int v_57), (0, .ref a0), (1, .int n1), (2, .int n2)] v_123 dX12_write_160 2 rfl (by rw [ev_123]; rfl) (by decide) rfl ?_
                  refine wa_goto B 61 dX12_write_163 (by decide) ?_
                  have tv_123 : v_123.toInt = v_34.toInt + (-1) := by have b0 := zx_bd v_34; rw [ev_123]; exact zx_add (show (-2147483648 : Int) ≤ v_34.toInt + (-1) by omega) (show v_34.toInt + (-1) < (2147483648 : Int) by omega)
                  refine WA.sub [0, 1, 3, 4, 5] rfl ?_
                  exact ih_51 v_123 v_61 q_36 hV_q_36 hF_q_36 hK_q_36 p0_q_36 p1_q_36 p2_q_36 p3_q_36 p4_q_36 p5_q_36 p6_q_36 p7_q_36 p8_q_36 (show (-1) ≤ v_123.toInt from by first | assumption | omega | decide) (show v_123.toInt < (q.2.2.2.1 m18 n1.toNatClampNeg).toInt from by first | assumption | omega | decide) (show 0 ≤ v_61.toInt from by first | assumption | omega | decide) (show pw_I (fun l => pw_R l (q_36.1 a0 22) (q_36.2.2.2.1 m21)) Wf Xf T9 (v_123.toInt + 1).toNat (v_61.toInt).toNat from by rw [show (v_123.toInt + 1).toNat = v_34.toInt.toNat by omega, hm9.2]; exact pw_I.z hI9 (by rw [← hd9.2]; omega) hw2 hw3) (show (v_123.toInt + 1 : Int).toNat < _ from by omega)
          have tv_33 : v_33.toInt = ((q.2.2.2.1 m18 (n1 : Int32).toNatClampNeg)).toInt - 1 := by have b0 := zx_bd ((q.2.2.2.1 m18 (n1 : Int32).toNatClampNeg)); rw [ev_33]; exact zx_sub (show (-2147483648 : Int) ≤ ((q.2.2.2.1 m18 (n1 : Int32).toNatClampNeg)).toInt - 1 by omega) (show ((q.2.2.2.1 m18 (n1 : Int32).toNatClampNeg)).toInt - 1 < (2147483648 : Int) by omega)
          exact Lp_61_50 _ v_33 n2 q_29 hV_q_29 hF_q_29 hK_q_29 z_37 z_38 z_39 z_31 z_40 z_41 z_42 z_43 z_45 (show (-1) ≤ v_33.toInt from by first | assumption | omega | decide) (show v_33.toInt < (q.2.2.2.1 m18 n1.toNatClampNeg).toInt from by first | assumption | omega | decide) (show 0 ≤ n2.toInt from by first | assumption | omega | decide) (show pw_I (fun l => pw_R l (q_29.1 a0 22) (q_29.2.2.2.1 m21)) Wf Xf T9 (v_33.toInt + 1).toNat (n2.toInt).toNat from by rw [show (v_33.toInt + 1).toNat = (q.2.2.2.1 m18 n1.toNatClampNeg).toInt.toNat by omega]; exact pw_I.b ⟨by rw [z_30]; rfl, fun j hj => absurd hj (Nat.not_lt_zero j)⟩ (by omega) hT9 (fun _ => by rw [← hd0.2]; omega)) (Nat.lt_succ_self _)
        · refine wa_iconst B (-1) dX12_write_42 (by decide) ?_
          have z_124 : q_1.1 a0 22 = q.1 a0 22 := (show q_1.1 a0 22 = q.1 a0 22 from by rw [eq_1]; exact sg_pI_k (by decide))
          have y_125 : (q_1.1 a0 22).toInt = (q.1 a0 22).toInt := by rw [z_124]
          have z_126 : q_1.2.2.2.1 m21 = q.2.2.2.1 m21 := (show q_1.2.2.2.1 m21 = q.2.2.2.1 m21 from by rw [eq_1]; rfl)
          exact hret _ _ _ _ dX12_write_43 ⟨hV_q_1, hF_q_1, hK_q_1, (Or.inl ⟨by omega, rfl, z_124, z_126⟩)⟩
