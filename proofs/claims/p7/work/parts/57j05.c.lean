set_option maxHeartbeats 4000000 in
set_option maxRecDepth 100000 in
theorem k_X10_takeFactor_c (l : Launch) (dC : Nat → ClassId) (dI : Nat → Nat → Nat) (h : Sh) (L : List Nat) (hN : sx_nd L) (q : Sg) (hV : sx_V h L q) {a0 : Nat} (ha0 : a0 ∈ L) (ka0 : h.1 a0 = 10) {a1 : Nat} (ha1 : a1 ∈ L) (ka1 : h.1 a1 = 9) {k0 : Nat} (ek0 : q.2.2.1 a0 0 = k0) {s0 : Nat} (es0 : q.2.2.1 a1 0 = s0) {c0 : Nat} (ec0 : q.2.2.1 a1 1 = c0) {m0 : Nat} (em0 : q.2.2.1 a1 2 = m0) {f0 : Nat} (ef0 : q.2.2.1 a1 3 = f0) {w0 : Nat} (ew0 : q.2.2.1 a1 4 = w0) {x0 : Nat} (ex0 : q.2.2.1 a1 5 = x0)  (F : Nat → Int32) (n9 : Nat) (k9 : Nat) (R9 : Option Nat × PU) (A9 : Nat) (hT : pz_T F n9 A9 (q.1 k0 0) (q.1 k0 1) (q.1 k0 10) (q.2.1 k0 2) (q.1 k0 3) (q.1 k0 4)) (hC : pm_c F n9 (k9 + 1) R9 A9 (q.1 a0 1) (q.1 a0 2) (q.1 a1 6) (q.2.2.2.2 s0) (q.2.2.2.1 c0) (q.2.2.2.2 m0) (q.2.2.2.1 f0) (q.2.2.2.1 w0)) (hy0 : (q.1 a0 1).toInt = 4) (hy1 : (q.1 k0 0).toInt = 3) : CMi l dC dI h L yX10_takeFactor wsX10_takeFactor ({ frames := 1, cells := 0, slots := 0, locals := 22 } : Room) q [.ref a0, .ref a1] (fun r q' => sx_V h L q' ∧ sx_fr h L (fun a => a = a0 ∧ h.1 a = 10 ∨ a = k0 ∧ h.1 a = 8) q q' ∧ sx_kg k0 [5, 6] q q' ∧ (r.toInt = 0 ∧ 0 ≤ (q'.1 k0 6).toInt ∧ R9.1 = some (q'.1 k0 6).toInt.toNat ∨ r.toInt = 1 ∧ ¬ (q.1 k0 0).toInt = 0 ∧ pm_c F n9 k9 R9 (pz_E F n9 A9) (q'.1 a0 1) (q'.1 a0 2) (q'.1 a1 6) (q'.2.2.2.2 s0) (q'.2.2.2.1 c0) (q'.2.2.2.2 m0) (q'.2.2.2.1 f0) (q'.2.2.2.1 w0))) := by
  refine cm_z (cc := cX10_takeFactor) (mL := 2) (own := RX10) hN (by decide) rfl rfl (Nat.le_of_ble_eq_true rfl) (fun Z B hret => ?_)
  have hF : sx_fr h L (fun a => a = a0 ∧ h.1 a = 10 ∨ a = k0 ∧ h.1 a = 8) q q := sx_fr.rf
  obtain ⟨hk0, kk0⟩ : k0 ∈ L ∧ h.1 k0 = 8 := by obtain ⟨r9, e9, z1, z2⟩ := hV.ref (t := 8) ha0 ka0 0 rfl (by decide); rw [← ek0, e9]; exact ⟨z1, z2⟩
  obtain ⟨hs0, ks0, ls0⟩ : s0 ∈ L ∧ h.1 s0 = 201 ∧ h.2.1 s0 = 3 := by obtain ⟨r9, e9, z1, z2, z3⟩ := hV.refn (t := 201) (n := 3) ha1 ka1 0 rfl (by decide) rfl (by decide); rw [← es0, e9]; exact ⟨z1, z2, z3⟩
  obtain ⟨hc0, kc0, lc0⟩ : c0 ∈ L ∧ h.1 c0 = 101 ∧ h.2.1 c0 = 3 := by obtain ⟨r9, e9, z1, z2, z3⟩ := hV.refn (t := 101) (n := 3) ha1 ka1 1 rfl (by decide) rfl (by decide); rw [← ec0, e9]; exact ⟨z1, z2, z3⟩
  obtain ⟨hm0, km0, lm0⟩ : m0 ∈ L ∧ h.1 m0 = 202 ∧ h.2.1 m0 = 15 := by obtain ⟨r9, e9, z1, z2, z3⟩ := hV.refn (t := 202) (n := 15) ha1 ka1 2 rfl (by decide) rfl (by decide); rw [← em0, e9]; exact ⟨z1, z2, z3⟩
  obtain ⟨hf0, kf0, lf0⟩ : f0 ∈ L ∧ h.1 f0 = 102 ∧ h.2.1 f0 = 15 := by obtain ⟨r9, e9, z1, z2, z3⟩ := hV.refn (t := 102) (n := 15) ha1 ka1 3 rfl (by decide) rfl (by decide); rw [← ef0, e9]; exact ⟨z1, z2, z3⟩
  obtain ⟨hw0, kw0, lw0⟩ : w0 ∈ L ∧ h.1 w0 = 103 ∧ h.2.1 w0 = 15 := by obtain ⟨r9, e9, z1, z2, z3⟩ := hV.refn (t := 103) (n := 15) ha1 ka1 4 rfl (by decide) rfl (by decide); rw [← ew0, e9]; exact ⟨z1, z2, z3⟩
  obtain ⟨hx0, kx0, lx0⟩ : x0 ∈ L ∧ h.1 x0 = 104 ∧ h.2.1 x0 = 15 := by obtain ⟨r9, e9, z1, z2, z3⟩ := hV.refn (t := 104) (n := 15) ha1 ka1 5 rfl (by decide) rfl (by decide); rw [← ex0, e9]; exact ⟨z1, z2, z3⟩
  show WA l dC dI h L ({ frames := 1, cells := 0, slots := 0, locals := 22 } : Room) 2 Z q 0 [(0, .ref a0), (1, .ref a1)] []
  have hlt := pc_lt hC
  have hpl := hT.2.1
  have hv9 := hT.2.2.2.2 (by have y9 := hT.1; omega)
  have hv8 : pz_V F n9 A9 = pz_v F (pz_P F n9 A9) (pz_E F n9 A9) := rfl
  have hsc : (0 : Int) ≤ (q.1 a1 6).toInt ∧ (q.1 a1 6).toInt ≤ 3 := hV.int ha1 ka1 6
  refine wa_aload_n B dX10_takeFactor_0 rfl 0 rfl ?_
  refine wa_aload_n B dX10_takeFactor_1 rfl 0 rfl ?_
  refine wa_getR B (C := RX10) (T := TX10) (N := 3) iq_X10_takeFactor_X10 ha0 ka0 (by decide) rfl 0 (by decide) (by decide) (by decide +kernel) rfl (fun _ _ _ => rfl) (v := k0) ek0 dX10_takeFactor_2 ?_
  refine wa_callVi B (x := (RX8, TX8, 11)) (As := []) (rest := [.ref a0]) (k_X8_number_c l dC dI h L hN q hV (a0 := k0) hk0 kk0  (by first | assumption | omega | decide)) (cwV 0 B.1.2.2.2.2 gX10_takeFactor_X8_number rfl rfl rfl (by decide +kernel) ⟨Nat.le_of_ble_eq_true rfl, Nat.le_of_ble_eq_true rfl⟩) hk0 kk0 (by decide) rfl rfl rfl (Nat.le_of_ble_eq_true rfl) dX10_takeFactor_5 (fun r_2 q_1 w_3 => ?_)
  obtain ⟨ew_3, hw_3⟩ := w_3
  subst ew_3
  refine wa_putI B (C := RX10) (T := TX10) (N := 3) iq_X10_takeFactor_X10 ha0 ka0 (by decide) rfl 2 (by decide) (by decide) (by decide +kernel) rfl (by decide) (v := r_2) (ty := .int) tyX10 tyX10_ok nmX10 rfl (by decide +kernel) rfl rfl dX10_takeFactor_8 (fun q_4 eq_4 => ?_)
  have hV_q_4 : sx_V h L q_4 := by rw [eq_4]; exact hV.pI ka0 trivial
  have hF_q_4 : sx_fr h L (fun a => a = a0 ∧ h.1 a = 10 ∨ a = k0 ∧ h.1 a = 8) q q_4 := hF.tr (by rw [eq_4]; exact sx_fr.pI (show a0 = a0 ∧ h.1 a0 = 10 ∨ a0 = k0 ∧ h.1 a0 = 8 from (Or.inl ⟨rfl, ka0⟩)))
  have z_5 : q_4.1 a0 2 = r_2 := by rw [eq_4]; exact sg_pI_e
  refine wa_aload_n B dX10_takeFactor_11 rfl 0 rfl ?_
  refine wa_getI B (C := RX10) (T := TX10) (N := 3) iq_X10_takeFactor_X10 ha0 ka0 (by decide) rfl 2 (by decide) (by decide) (by decide +kernel) rfl (by decide) (v := r_2) z_5 dX10_takeFactor_12 ?_
  refine wa_iconst B 2 dX10_takeFactor_15 (by decide) ?_
  refine wa_icmp_lt B 28 dX10_takeFactor_16 (by decide) (fun (t_6 : r_2.toInt < 2) => ?_) (fun (t_6 : ¬ r_2.toInt < 2) => ?_)
  · refine wa_aload_n B dX10_takeFactor_28 rfl 0 rfl ?_
    have z_7 : q_4.2.2.1 a0 0 = k0 := ((show q_4.2.2.1 a0 0 = q.2.2.1 a0 0 from by rw [eq_4]; rfl)).trans (ek0)
    refine wa_getR B (C := RX10) (T := TX10) (N := 3) iq_X10_takeFactor_X10 ha0 ka0 (by decide) rfl 0 (by decide) (by decide) (by decide +kernel) rfl (fun _ _ _ => rfl) (v := k0) z_7 dX10_takeFactor_29 ?_
    refine wa_iconst B 2 dX10_takeFactor_32 (by decide) ?_
    refine wa_aload_n B dX10_takeFactor_33 rfl 0 rfl ?_
    refine wa_getR B (C := RX10) (T := TX10) (N := 3) iq_X10_takeFactor_X10 ha0 ka0 (by decide) rfl 0 (by decide) (by decide) (by decide +kernel) rfl (fun _ _ _ => rfl) (v := k0) z_7 dX10_takeFactor_34 ?_
    have z_8 : q_4.1 k0 1 = q.1 k0 1 := (show q_4.1 k0 1 = q.1 k0 1 from by rw [eq_4]; exact sg_pI_k (by decide))
    refine wa_getI B (C := RX8) (T := TX8) (N := 11) iq_X10_takeFactor_X8 hk0 kk0 (by decide) rfl 1 (by decide) (by decide) (by decide +kernel) rfl (by decide) (v := (q.1 k0 1)) z_8 dX10_takeFactor_37 ?_
    refine wa_callVi B (x := (RX8, TX8, 11)) (As := [.int 2, .int (q.1 k0 1)]) (rest := []) (k_X8_refuse_c l dC dI h L hN q_4 hV_q_4 (a0 := k0) hk0 kk0 2 (q.1 k0 1)  ) (cwV 2 B.1.2.2.2.2 gX10_takeFactor_X8_refuse rfl rfl rfl (by decide +kernel) ⟨Nat.le_of_ble_eq_true rfl, Nat.le_of_ble_eq_true rfl⟩) hk0 kk0 (by decide) rfl rfl rfl (Nat.le_of_ble_eq_true rfl) dX10_takeFactor_40 (fun r_10 q_9 w_11 => ?_)
    obtain ⟨hV_q_9, h2_q_9, h3_q_9, hw_11⟩ := w_11
    have hF_q_9 : sx_fr h L (fun a => a = a0 ∧ h.1 a = 10 ∨ a = k0 ∧ h.1 a = 8) q q_9 := hF_q_4.tr (h2_q_9.mono (fun a (z : a = k0 ∧ h.1 a = 8) => ((fun z => (Or.inr z)) z)))
    have z_12 : q_9.1 a0 1 = q.1 a0 1 := (h2_q_9.I ha0 (show ¬ (a0 = k0 ∧ h.1 a0 = 8) from (fun z => absurd (z.2.symm.trans ka0) (by decide))) 1).trans ((show q_4.1 a0 1 = q.1 a0 1 from by rw [eq_4]; exact sg_pI_k (by decide)))
    have y_13 : (q_9.1 a0 1).toInt = (q.1 a0 1).toInt := by rw [z_12]
    have z_14 : q_9.1 a0 2 = r_2 := (h2_q_9.I ha0 (show ¬ (a0 = k0 ∧ h.1 a0 = 8) from (fun z => absurd (z.2.symm.trans ka0) (by decide))) 2).trans (z_5)
    have y_15 : (q_9.1 a0 2).toInt = r_2.toInt := by rw [z_14]
    have z_16 : q_9.1 a1 6 = q.1 a1 6 := (h2_q_9.I ha1 (show ¬ (a1 = k0 ∧ h.1 a1 = 8) from (fun z => absurd (z.2.symm.trans ka1) (by decide))) 6).trans ((show q_4.1 a1 6 = q.1 a1 6 from by rw [eq_4]; exact sg_pI_k (by decide)))
    have y_17 : (q_9.1 a1 6).toInt = (q.1 a1 6).toInt := by rw [z_16]
    have z_18 : q_9.1 k0 1 = (q.1 k0 1) := (h3_q_9.1 1 (by decide)).trans (z_8)
    have y_19 : (q_9.1 k0 1).toInt = (q.1 k0 1).toInt := by rw [z_18]
    exact hret _ _ _ _ dX10_takeFactor_43 (zx_01 (by omega)) ⟨hV_q_9, hF_q_9, (sx_kg.tr (show sx_kg k0 [5, 6] q q_4 from by rw [eq_4]; exact sx_kg.pIo (sx_ka h kk0 ka0 (by decide))) (h3_q_9.mono (by decide))), (Or.inl ⟨by omega, by omega, (pc_fac_bad hC (by omega) hT (by omega) (by omega) (pz_sc1 (by omega))).trans (congrArg some (by omega))⟩)⟩
  · refine wa_aload_n B dX10_takeFactor_19 rfl 0 rfl ?_
    refine wa_getI B (C := RX10) (T := TX10) (N := 3) iq_X10_takeFactor_X10 ha0 ka0 (by decide) rfl 2 (by decide) (by decide) (by decide +kernel) rfl (by decide) (v := r_2) z_5 dX10_takeFactor_20 ?_
    refine wa_bipush B 60 dX10_takeFactor_23 (by decide) ?_
    refine wa_icmp_le B 44 dX10_takeFactor_25 (by decide) (fun (t_20 : r_2.toInt ≤ 60) => ?_) (fun (t_20 : ¬ r_2.toInt ≤ 60) => ?_)
    · refine wa_aload_n B dX10_takeFactor_44 rfl 0 rfl ?_
      refine wa_iconst B 3 dX10_takeFactor_45 (by decide) ?_
      refine wa_putI B (C := RX10) (T := TX10) (N := 3) iq_X10_takeFactor_X10 ha0 ka0 (by decide) rfl 1 (by decide) (by decide) (by decide +kernel) rfl (by decide) (v := 3) (ty := .int) tyX10 tyX10_ok nmX10 rfl (by decide +kernel) rfl rfl dX10_takeFactor_46 (fun q_21 eq_21 => ?_)
      have hV_q_21 : sx_V h L q_21 := by rw [eq_21]; exact hV_q_4.pI ka0 trivial
      have hF_q_21 : sx_fr h L (fun a => a = a0 ∧ h.1 a = 10 ∨ a = k0 ∧ h.1 a = 8) q q_21 := hF_q_4.tr (by rw [eq_21]; exact sx_fr.pI (show a0 = a0 ∧ h.1 a0 = 10 ∨ a0 = k0 ∧ h.1 a0 = 8 from (Or.inl ⟨rfl, ka0⟩)))
      have z_22 : q_21.1 a0 1 = 3 := by rw [eq_21]; exact sg_pI_e
      refine wa_aload_n B dX10_takeFactor_49 rfl 1 rfl ?_
      have z_23 : q_21.2.2.1 a1 1 = c0 := ((show q_21.2.2.1 a1 1 = q_4.2.2.1 a1 1 from by rw [eq_21]; rfl)).trans (((show q_4.2.2.1 a1 1 = q.2.2.1 a1 1 from by rw [eq_4]; rfl)).trans (ec0))
      have z_24 : q_21.1 a1 6 = q.1 a1 6 := ((show q_21.1 a1 6 = q_4.1 a1 6 from by rw [eq_21]; exact sg_pI_k (by decide))).trans ((show q_4.1 a1 6 = q.1 a1 6 from by rw [eq_4]; exact sg_pI_k (by decide)))
      have y_25 : (q_21.1 a1 6).toInt = (q.1 a1 6).toInt := by rw [z_24]
      refine wa_callVi B (x := (RX9, TX9, 7)) (As := []) (rest := []) (k_X9_isFull_c l dC dI h L hN q_21 hV_q_21 (a0 := a1) ha1 ka1 (c0 := c0) z_23  ) (cwV 0 B.1.2.2.2.2 gX10_takeFactor_X9_isFull rfl rfl rfl (by decide +kernel) ⟨Nat.le_of_ble_eq_true rfl, Nat.le_of_ble_eq_true rfl⟩) ha1 ka1 (by decide) rfl rfl rfl (Nat.le_of_ble_eq_true rfl) dX10_takeFactor_50 (fun r_27 q_26 w_28 => ?_)
      obtain ⟨ew_28, hw_28⟩ := w_28
      subst ew_28
      have z_29 : q_21.2.2.2.1 c0 = q.2.2.2.1 c0 := ((show q_21.2.2.2.1 c0 = q_4.2.2.2.1 c0 from by rw [eq_21]; rfl)).trans ((show q_4.2.2.2.1 c0 = q.2.2.2.1 c0 from by rw [eq_4]; rfl))
      simp only [z_29, z_24] at hw_28
      refine wa_if_eq B 74 dX10_takeFactor_53 (by decide) (fun (t_30 : r_27.toInt = 0) => ?_) (fun (t_30 : ¬ r_27.toInt = 0) => ?_)
      · refine wa_iconst B 1 dX10_takeFactor_74 (by decide) ?_
        refine wa_goto B 79 dX10_takeFactor_75 (by decide) ?_
        have y_31 : (q_21.1 a0 1).toInt = 3 := by rw [z_22]; rfl
        have z_32 : q_21.1 a0 2 = r_2 := ((show q_21.1 a0 2 = q_4.1 a0 2 from by rw [eq_21]; exact sg_pI_k (by decide))).trans (z_5)
        have y_33 : (q_21.1 a0 2).toInt = r_2.toInt := by rw [z_32]
        have y_34 : (q_21.1 a1 6).toInt = (q.1 a1 6).toInt := by rw [z_24]
        have z_35 : q_21.1 k0 6 = q.1 k0 6 := ((show q_21.1 k0 6 = q_4.1 k0 6 from by rw [eq_21]; exact sg_pI_k (by decide))).trans ((show q_4.1 k0 6 = q.1 k0 6 from by rw [eq_4]; exact sg_pI_k (by decide)))
        have y_36 : (q_21.1 k0 6).toInt = (q.1 k0 6).toInt := by rw [z_35]
        have z_37 : q_21.1 k0 1 = q.1 k0 1 := ((show q_21.1 k0 1 = q_4.1 k0 1 from by rw [eq_21]; exact sg_pI_a (sx_ka h kk0 ka0 (by decide)))).trans ((show q_4.1 k0 1 = q.1 k0 1 from by rw [eq_4]; exact sg_pI_k (by decide)))
        have y_38 : (q_21.1 k0 1).toInt = (q.1 k0 1).toInt := by rw [z_37]
        have y_39 : (q_21.1 k0 6).toInt = (q.1 k0 6).toInt := by rw [z_35]
        have z_40 : q_21.2.2.2.2 s0 = q.2.2.2.2 s0 := ((show q_21.2.2.2.2 s0 = q_4.2.2.2.2 s0 from by rw [eq_21]; rfl)).trans ((show q_4.2.2.2.2 s0 = q.2.2.2.2 s0 from by rw [eq_4]; rfl))
        have z_41 : q_21.2.2.2.2 m0 = q.2.2.2.2 m0 := ((show q_21.2.2.2.2 m0 = q_4.2.2.2.2 m0 from by rw [eq_21]; rfl)).trans ((show q_4.2.2.2.2 m0 = q.2.2.2.2 m0 from by rw [eq_4]; rfl))
        have z_42 : q_21.2.2.2.1 f0 = q.2.2.2.1 f0 := ((show q_21.2.2.2.1 f0 = q_4.2.2.2.1 f0 from by rw [eq_21]; rfl)).trans ((show q_4.2.2.2.1 f0 = q.2.2.2.1 f0 from by rw [eq_4]; rfl))
        have z_43 : q_21.2.2.2.1 w0 = q.2.2.2.1 w0 := ((show q_21.2.2.2.1 w0 = q_4.2.2.2.1 w0 from by rw [eq_21]; rfl)).trans ((show q_4.2.2.2.1 w0 = q.2.2.2.1 w0 from by rw [eq_4]; rfl))
        exact hret _ _ _ _ dX10_takeFactor_79 (Or.inr rfl) ⟨hV_q_21, hF_q_21, (sx_kg.tr (show sx_kg k0 [5, 6] q q_4 from by rw [eq_4]; exact sx_kg.pIo (sx_ka h kk0 ka0 (by decide))) (show sx_kg k0 [5, 6] q_4 q_21 from by rw [eq_21]; exact sx_kg.pIo (sx_ka h kk0 ka0 (by decide)))), (Or.inr ⟨rfl, by omega, by rw [z_22, z_32, z_24, z_40, z_29, z_41, z_42, z_43]; exact pc_fac hC (by omega) hT (by omega) (by omega) (pz_sc1 (by omega)) rfl (by omega)⟩)⟩
      · refine wa_aload_n B dX10_takeFactor_56 rfl 0 rfl ?_
        have z_44 : q_21.2.2.1 a0 0 = k0 := ((show q_21.2.2.1 a0 0 = q_4.2.2.1 a0 0 from by rw [eq_21]; rfl)).trans (((show q_4.2.2.1 a0 0 = q.2.2.1 a0 0 from by rw [eq_4]; rfl)).trans (ek0))
        refine wa_getR B (C := RX10) (T := TX10) (N := 3) iq_X10_takeFactor_X10 ha0 ka0 (by decide) rfl 0 (by decide) (by decide) (by decide +kernel) rfl (fun _ _ _ => rfl) (v := k0) z_44 dX10_takeFactor_57 ?_
        refine wa_iconst B 4 dX10_takeFactor_60 (by decide) ?_
        refine wa_aload_n B dX10_takeFactor_61 rfl 0 rfl ?_
        refine wa_getR B (C := RX10) (T := TX10) (N := 3) iq_X10_takeFactor_X10 ha0 ka0 (by decide) rfl 0 (by decide) (by decide) (by decide +kernel) rfl (fun _ _ _ => rfl) (v := k0) z_44 dX10_takeFactor_62 ?_
        have z_45 : q_21.1 k0 1 = q.1 k0 1 := ((show q_21.1 k0 1 = q_4.1 k0 1 from by rw [eq_21]; exact sg_pI_a (sx_ka h kk0 ka0 (by decide)))).trans ((show q_4.1 k0 1 = q.1 k0 1 from by rw [eq_4]; exact sg_pI_k (by decide)))
        refine wa_getI B (C := RX8) (T := TX8) (N := 11) iq_X10_takeFactor_X8 hk0 kk0 (by decide) rfl 1 (by decide) (by decide) (by decide +kernel) rfl (by decide) (v := (q.1 k0 1)) z_45 dX10_takeFactor_65 ?_
        refine wa_callVi B (x := (RX8, TX8, 11)) (As := [.int 4, .int (q.1 k0 1)]) (rest := []) (k_X8_refuse_c l dC dI h L hN q_21 hV_q_21 (a0 := k0) hk0 kk0 4 (q.1 k0 1)  ) (cwV 2 B.1.2.2.2.2 gX10_takeFactor_X8_refuse rfl rfl rfl (by decide +kernel) ⟨Nat.le_of_ble_eq_true rfl, Nat.le_of_ble_eq_true rfl⟩) hk0 kk0 (by decide) rfl rfl rfl (Nat.le_of_ble_eq_true rfl) dX10_takeFactor_68 (fun r_47 q_46 w_48 => ?_)
        obtain ⟨hV_q_46, h2_q_46, h3_q_46, hw_48⟩ := w_48
        have hF_q_46 : sx_fr h L (fun a => a = a0 ∧ h.1 a = 10 ∨ a = k0 ∧ h.1 a = 8) q q_46 := hF_q_21.tr (h2_q_46.mono (fun a (z : a = k0 ∧ h.1 a = 8) => ((fun z => (Or.inr z)) z)))
        refine wa_if_eq B 78 dX10_takeFactor_71 (by decide) (fun (t_49 : r_47.toInt = 0) => ?_) (fun (t_49 : ¬ r_47.toInt = 0) => ?_)
        · refine wa_iconst B 0 dX10_takeFactor_78 (by decide) ?_
          have z_50 : q_46.1 a0 1 = 3 := (h2_q_46.I ha0 (show ¬ (a0 = k0 ∧ h.1 a0 = 8) from (fun z => absurd (z.2.symm.trans ka0) (by decide))) 1).trans (z_22)
          have y_51 : (q_46.1 a0 1).toInt = 3 := by rw [z_50]; rfl
          have z_52 : q_46.1 a0 2 = r_2 := (h2_q_46.I ha0 (show ¬ (a0 = k0 ∧ h.1 a0 = 8) from (fun z => absurd (z.2.symm.trans ka0) (by decide))) 2).trans (((show q_21.1 a0 2 = q_4.1 a0 2 from by rw [eq_21]; exact sg_pI_k (by decide))).trans (z_5))
          have y_53 : (q_46.1 a0 2).toInt = r_2.toInt := by rw [z_52]
          have z_54 : q_46.1 a1 6 = (q.1 a1 6) := (h2_q_46.I ha1 (show ¬ (a1 = k0 ∧ h.1 a1 = 8) from (fun z => absurd (z.2.symm.trans ka1) (by decide))) 6).trans (z_24)
          have y_55 : (q_46.1 a1 6).toInt = (q.1 a1 6).toInt := by rw [z_54]
          have z_56 : q_46.1 k0 1 = (q.1 k0 1) := (h3_q_46.1 1 (by decide)).trans (z_45)
          have y_57 : (q_46.1 k0 1).toInt = (q.1 k0 1).toInt := by rw [z_56]
          exact hret _ _ _ _ dX10_takeFactor_79 (Or.inl rfl) ⟨hV_q_46, hF_q_46, (sx_kg.tr (sx_kg.tr (show sx_kg k0 [5, 6] q q_4 from by rw [eq_4]; exact sx_kg.pIo (sx_ka h kk0 ka0 (by decide))) (show sx_kg k0 [5, 6] q_4 q_21 from by rw [eq_21]; exact sx_kg.pIo (sx_ka h kk0 ka0 (by decide)))) (h3_q_46.mono (by decide))), (Or.inl ⟨rfl, by omega, (pc_fac_bad hC (by omega) hT (by omega) (by omega) (pz_sc1 (by omega))).trans (congrArg some (by omega))⟩)⟩
        · refine wa_iconst B 1 dX10_takeFactor_74 (by decide) ?_
          refine wa_goto B 79 dX10_takeFactor_75 (by decide) ?_
          have z_58 : q_46.1 a0 1 = 3 := (h2_q_46.I ha0 (show ¬ (a0 = k0 ∧ h.1 a0 = 8) from (fun z => absurd (z.2.symm.trans ka0) (by decide))) 1).trans (z_22)
          have y_59 : (q_46.1 a0 1).toInt = 3 := by rw [z_58]; rfl
          have z_60 : q_46.1 a0 2 = r_2 := (h2_q_46.I ha0 (show ¬ (a0 = k0 ∧ h.1 a0 = 8) from (fun z => absurd (z.2.symm.trans ka0) (by decide))) 2).trans (((show q_21.1 a0 2 = q_4.1 a0 2 from by rw [eq_21]; exact sg_pI_k (by decide))).trans (z_5))
          have y_61 : (q_46.1 a0 2).toInt = r_2.toInt := by rw [z_60]
          have z_62 : q_46.1 a1 6 = (q.1 a1 6) := (h2_q_46.I ha1 (show ¬ (a1 = k0 ∧ h.1 a1 = 8) from (fun z => absurd (z.2.symm.trans ka1) (by decide))) 6).trans (z_24)
          have y_63 : (q_46.1 a1 6).toInt = (q.1 a1 6).toInt := by rw [z_62]
          have z_64 : q_46.1 k0 1 = (q.1 k0 1) := (h3_q_46.1 1 (by decide)).trans (z_45)
          have y_65 : (q_46.1 k0 1).toInt = (q.1 k0 1).toInt := by rw [z_64]
          exact hret _ _ _ _ dX10_takeFactor_79 (Or.inr rfl) ⟨hV_q_46, hF_q_46, (sx_kg.tr (sx_kg.tr (show sx_kg k0 [5, 6] q q_4 from by rw [eq_4]; exact sx_kg.pIo (sx_ka h kk0 ka0 (by decide))) (show sx_kg k0 [5, 6] q_4 q_21 from by rw [eq_21]; exact sx_kg.pIo (sx_ka h kk0 ka0 (by decide)))) (h3_q_46.mono (by decide))), (by exfalso; omega)⟩
    · refine wa_aload_n B dX10_takeFactor_28 rfl 0 rfl ?_
      have z_66 : q_4.2.2.1 a0 0 = k0 := ((show q_4.2.2.1 a0 0 = q.2.2.1 a0 0 from by rw [eq_4]; rfl)).trans (ek0)
      refine wa_getR B (C := RX10) (T := TX10) (N := 3) iq_X10_takeFactor_X10 ha0 ka0 (by decide) rfl 0 (by decide) (by decide) (by decide +kernel) rfl (fun _ _ _ => rfl) (v := k0) z_66 dX10_takeFactor_29 ?_
      refine wa_iconst B 2 dX10_takeFactor_32 (by decide) ?_
      refine wa_aload_n B dX10_takeFactor_33 rfl 0 rfl ?_
      refine wa_getR B (C := RX10) (T := TX10) (N := 3) iq_X10_takeFactor_X10 ha0 ka0 (by decide) rfl 0 (by decide) (by decide) (by decide +kernel) rfl (fun _ _ _ => rfl) (v := k0) z_66 dX10_takeFactor_34 ?_
      have z_67 : q_4.1 k0 1 = q.1 k0 1 := (show q_4.1 k0 1 = q.1 k0 1 from by rw [eq_4]; exact sg_pI_k (by decide))
      refine wa_getI B (C := RX8) (T := TX8) (N := 11) iq_X10_takeFactor_X8 hk0 kk0 (by decide) rfl 1 (by decide) (by decide) (by decide +kernel) rfl (by decide) (v := (q.1 k0 1)) z_67 dX10_takeFactor_37 ?_
      refine wa_callVi B (x := (RX8, TX8, 11)) (As := [.int 2, .int (q.1 k0 1)]) (rest := []) (k_X8_refuse_c l dC dI h L hN q_4 hV_q_4 (a0 := k0) hk0 kk0 2 (q.1 k0 1)  ) (cwV 2 B.1.2.2.2.2 gX10_takeFactor_X8_refuse rfl rfl rfl (by decide +kernel) ⟨Nat.le_of_ble_eq_true rfl, Nat.le_of_ble_eq_true rfl⟩) hk0 kk0 (by decide) rfl rfl rfl (Nat.le_of_ble_eq_true rfl) dX10_takeFactor_40 (fun r_69 q_68 w_70 => ?_)
      obtain ⟨hV_q_68, h2_q_68, h3_q_68, hw_70⟩ := w_70
      have hF_q_68 : sx_fr h L (fun a => a = a0 ∧ h.1 a = 10 ∨ a = k0 ∧ h.1 a = 8) q q_68 := hF_q_4.tr (h2_q_68.mono (fun a (z : a = k0 ∧ h.1 a = 8) => ((fun z => (Or.inr z)) z)))
      have z_71 : q_68.1 a0 1 = q.1 a0 1 := (h2_q_68.I ha0 (show ¬ (a0 = k0 ∧ h.1 a0 = 8) from (fun z => absurd (z.2.symm.trans ka0) (by decide))) 1).trans ((show q_4.1 a0 1 = q.1 a0 1 from by rw [eq_4]; exact sg_pI_k (by decide)))
      have y_72 : (q_68.1 a0 1).toInt = (q.1 a0 1).toInt := by rw [z_71]
      have z_73 : q_68.1 a0 2 = r_2 := (h2_q_68.I ha0 (show ¬ (a0 = k0 ∧ h.1 a0 = 8) from (fun z => absurd (z.2.symm.trans ka0) (by decide))) 2).trans (z_5)
      have y_74 : (q_68.1 a0 2).toInt = r_2.toInt := by rw [z_73]
      have z_75 : q_68.1 a1 6 = q.1 a1 6 := (h2_q_68.I ha1 (show ¬ (a1 = k0 ∧ h.1 a1 = 8) from (fun z => absurd (z.2.symm.trans ka1) (by decide))) 6).trans ((show q_4.1 a1 6 = q.1 a1 6 from by rw [eq_4]; exact sg_pI_k (by decide)))
      have y_76 : (q_68.1 a1 6).toInt = (q.1 a1 6).toInt := by rw [z_75]
      have z_77 : q_68.1 k0 1 = (q.1 k0 1) := (h3_q_68.1 1 (by decide)).trans (z_67)
      have y_78 : (q_68.1 k0 1).toInt = (q.1 k0 1).toInt := by rw [z_77]
      exact hret _ _ _ _ dX10_takeFactor_43 (zx_01 (by omega)) ⟨hV_q_68, hF_q_68, (sx_kg.tr (show sx_kg k0 [5, 6] q q_4 from by rw [eq_4]; exact sx_kg.pIo (sx_ka h kk0 ka0 (by decide))) (h3_q_68.mono (by decide))), (Or.inl ⟨by omega, by omega, (pc_fac_bad hC (by omega) hT (by omega) (by omega) (pz_sc1 (by omega))).trans (congrArg some (by omega))⟩)⟩
