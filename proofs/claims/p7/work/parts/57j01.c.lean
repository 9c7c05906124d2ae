set_option maxHeartbeats 4000000 in
set_option maxRecDepth 100000 in
theorem k_X10_beginSystem_c (l : Launch) (dC : Nat → ClassId) (dI : Nat → Nat → Nat) (h : Sh) (L : List Nat) (hN : sx_nd L) (q : Sg) (hV : sx_V h L q) {a0 : Nat} (ha0 : a0 ∈ L) (ka0 : h.1 a0 = 10) {a1 : Nat} (ha1 : a1 ∈ L) (ka1 : h.1 a1 = 9) {k0 : Nat} (ek0 : q.2.2.1 a0 0 = k0) {s0 : Nat} (es0 : q.2.2.1 a1 0 = s0) {c0 : Nat} (ec0 : q.2.2.1 a1 1 = c0) {m0 : Nat} (em0 : q.2.2.1 a1 2 = m0) {f0 : Nat} (ef0 : q.2.2.1 a1 3 = f0) {w0 : Nat} (ew0 : q.2.2.1 a1 4 = w0) {x0 : Nat} (ex0 : q.2.2.1 a1 5 = x0)  (F : Nat → Int32) (n9 : Nat) (k9 : Nat) (R9 : Option Nat × PU) (A9 : Nat) (hT : pz_T F n9 A9 (q.1 k0 0) (q.1 k0 1) (q.1 k0 10) (q.2.1 k0 2) (q.1 k0 3) (q.1 k0 4)) (hC : pm_c F n9 (k9 + 1) R9 A9 (q.1 a0 1) (q.1 a0 2) (q.1 a1 6) (q.2.2.2.2 s0) (q.2.2.2.1 c0) (q.2.2.2.2 m0) (q.2.2.2.1 f0) (q.2.2.2.1 w0)) (hy0 : (q.1 a0 1).toInt = 0) (hy1 : ¬ (q.1 k0 0).toInt = 0) : CMi l dC dI h L yX10_beginSystem wsX10_beginSystem ({ frames := 1, cells := 0, slots := 0, locals := 22 } : Room) q [.ref a0, .ref a1] (fun r q' => sx_V h L q' ∧ sx_fr h L (fun a => a = a0 ∧ h.1 a = 10 ∨ a = k0 ∧ h.1 a = 8) q q' ∧ sx_kg k0 [5, 6] q q' ∧ (r.toInt = 0 ∧ 0 ≤ (q'.1 k0 6).toInt ∧ R9.1 = some (q'.1 k0 6).toInt.toNat ∨ r.toInt = 1 ∧ ¬ (q.1 k0 0).toInt = 0 ∧ pm_c F n9 k9 R9 (pz_E F n9 A9) (q'.1 a0 1) (q'.1 a0 2) (q'.1 a1 6) (q'.2.2.2.2 s0) (q'.2.2.2.1 c0) (q'.2.2.2.2 m0) (q'.2.2.2.1 f0) (q'.2.2.2.1 w0))) := by
  refine cm_z (cc := cX10_beginSystem) (mL := 2) (own := RX10) hN (by decide) rfl rfl (Nat.le_of_ble_eq_true rfl) (fun Z B hret => ?_)
  have hF : sx_fr h L (fun a => a = a0 ∧ h.1 a = 10 ∨ a = k0 ∧ h.1 a = 8) q q := sx_fr.rf
  obtain ⟨hk0, kk0⟩ : k0 ∈ L ∧ h.1 k0 = 8 := by obtain ⟨r9, e9, z1, z2⟩ := hV.ref (t := 8) ha0 ka0 0 rfl (by decide); rw [← ek0, e9]; exact ⟨z1, z2⟩
  obtain ⟨hs0, ks0, ls0⟩ : s0 ∈ L ∧ h.1 s0 = 201 ∧ h.2.1 s0 = 3 := by obtain ⟨r9, e9, z1, z2, z3⟩ := hV.refn (t := 201) (n := 3) ha1 ka1 0 rfl (by decide) rfl (by decide); rw [← es0, e9]; exact ⟨z1, z2, z3⟩
  obtain ⟨hc0, kc0, lc0⟩ : c0 ∈ L ∧ h.1 c0 = 101 ∧ h.2.1 c0 = 3 := by obtain ⟨r9, e9, z1, z2, z3⟩ := hV.refn (t := 101) (n := 3) ha1 ka1 1 rfl (by decide) rfl (by decide); rw [← ec0, e9]; exact ⟨z1, z2, z3⟩
  obtain ⟨hm0, km0, lm0⟩ : m0 ∈ L ∧ h.1 m0 = 202 ∧ h.2.1 m0 = 15 := by obtain ⟨r9, e9, z1, z2, z3⟩ := hV.refn (t := 202) (n := 15) ha1 ka1 2 rfl (by decide) rfl (by decide); rw [← em0, e9]; exact ⟨z1, z2, z3⟩
  obtain ⟨hf0, kf0, lf0⟩ : f0 ∈ L ∧ h.1 f0 = 102 ∧ h.2.1 f0 = 15 := by obtain ⟨r9, e9, z1, z2, z3⟩ := hV.refn (t := 102) (n := 15) ha1 ka1 3 rfl (by decide) rfl (by decide); rw [← ef0, e9]; exact ⟨z1, z2, z3⟩
  obtain ⟨hw0, kw0, lw0⟩ : w0 ∈ L ∧ h.1 w0 = 103 ∧ h.2.1 w0 = 15 := by obtain ⟨r9, e9, z1, z2, z3⟩ := hV.refn (t := 103) (n := 15) ha1 ka1 4 rfl (by decide) rfl (by decide); rw [← ew0, e9]; exact ⟨z1, z2, z3⟩
  obtain ⟨hx0, kx0, lx0⟩ : x0 ∈ L ∧ h.1 x0 = 104 ∧ h.2.1 x0 = 15 := by obtain ⟨r9, e9, z1, z2, z3⟩ := hV.refn (t := 104) (n := 15) ha1 ka1 5 rfl (by decide) rfl (by decide); rw [← ex0, e9]; exact ⟨z1, z2, z3⟩
  show WA l dC dI h L ({ frames := 1, cells := 0, slots := 0, locals := 22 } : Room) 2 Z q 0 [(0, .ref a0), (1, .ref a1)] []
  have hlt := pc_lt hC
  have hpl := hT.2.1
  refine wa_aload_n B dX10_beginSystem_0 rfl 0 rfl ?_
  refine wa_getR B (C := RX10) (T := TX10) (N := 3) iq_X10_beginSystem_X10 ha0 ka0 (by decide) rfl 0 (by decide) (by decide) (by decide +kernel) rfl (fun _ _ _ => rfl) (v := k0) ek0 dX10_beginSystem_1 ?_
  refine wa_bipush B 6 dX10_beginSystem_4 (by decide) ?_
  have n_1 : (6 : Int32).toInt = 6 := rfl
  refine wa_callVi B (x := (RX8, TX8, 11)) (As := [.int 6]) (rest := []) (k_X8_demand_c l dC dI h L hN q hV (a0 := k0) hk0 kk0 6  ) (cwV 1 B.1.2.2.2.2 gX10_beginSystem_X8_demand rfl rfl rfl (by decide +kernel) ⟨Nat.le_of_ble_eq_true rfl, Nat.le_of_ble_eq_true rfl⟩) hk0 kk0 (by decide) rfl rfl rfl (Nat.le_of_ble_eq_true rfl) dX10_beginSystem_6 (fun r_3 q_2 w_4 => ?_)
  obtain ⟨hV_q_2, h2_q_2, h3_q_2, hw_4⟩ := w_4
  have hF_q_2 : sx_fr h L (fun a => a = a0 ∧ h.1 a = 10 ∨ a = k0 ∧ h.1 a = 8) q q_2 := hF.tr (h2_q_2.mono (fun a (z : a = k0 ∧ h.1 a = 8) => ((fun z => (Or.inr z)) z)))
  refine wa_if_ne B 14 dX10_beginSystem_9 (by decide) (fun (t_5 : ¬ r_3.toInt = 0) => ?_) (fun (t_5 : r_3.toInt = 0) => ?_)
  · refine wa_aload_n B dX10_beginSystem_14 rfl 0 rfl ?_
    refine wa_iconst B 1 dX10_beginSystem_15 (by decide) ?_
    refine wa_putI B (C := RX10) (T := TX10) (N := 3) iq_X10_beginSystem_X10 ha0 ka0 (by decide) rfl 1 (by decide) (by decide) (by decide +kernel) rfl (by decide) (v := 1) (ty := .int) tyX10 tyX10_ok nmX10 rfl (by decide +kernel) rfl rfl dX10_beginSystem_16 (fun q_6 eq_6 => ?_)
    have hV_q_6 : sx_V h L q_6 := by rw [eq_6]; exact hV_q_2.pI ka0 trivial
    have hF_q_6 : sx_fr h L (fun a => a = a0 ∧ h.1 a = 10 ∨ a = k0 ∧ h.1 a = 8) q q_6 := hF_q_2.tr (by rw [eq_6]; exact sx_fr.pI (show a0 = a0 ∧ h.1 a0 = 10 ∨ a0 = k0 ∧ h.1 a0 = 8 from (Or.inl ⟨rfl, ka0⟩)))
    have z_7 : q_6.1 a0 1 = 1 := by rw [eq_6]; exact sg_pI_e
    refine wa_aload_n B dX10_beginSystem_19 rfl 1 rfl ?_
    have z_8 : q_6.1 a1 6 = q.1 a1 6 := ((show q_6.1 a1 6 = q_2.1 a1 6 from by rw [eq_6]; exact sg_pI_k (by decide))).trans (h2_q_2.I ha1 (show ¬ (a1 = k0 ∧ h.1 a1 = 8) from (fun z => absurd (z.2.symm.trans ka1) (by decide))) 6)
    refine wa_getI B (C := RX9) (T := TX9) (N := 7) iq_X10_beginSystem_X9 ha1 ka1 (by decide) rfl 6 (by decide) (by decide) (by decide +kernel) rfl (by decide) (v := (q.1 a1 6)) z_8 dX10_beginSystem_20 ?_
    have g_9 : (0 : Int) ≤ (q.1 a1 6).toInt ∧ (q.1 a1 6).toInt ≤ 3 := by rw [← z_8]; exact hV_q_6.int ha1 ka1 6
    refine wa_iconst B 3 dX10_beginSystem_23 (by decide) ?_
    refine wa_icmp_lt B 45 dX10_beginSystem_24 (by decide) (fun (t_10 : (q.1 a1 6).toInt < 3) => ?_) (fun (t_10 : ¬ (q.1 a1 6).toInt < 3) => ?_)
    · refine wa_iconst B 1 dX10_beginSystem_45 (by decide) ?_
      refine wa_goto B 50 dX10_beginSystem_46 (by decide) ?_
      have y_11 : (q_6.1 a0 1).toInt = 1 := by rw [z_7]; rfl
      have z_12 : q_6.1 a0 2 = q.1 a0 2 := ((show q_6.1 a0 2 = q_2.1 a0 2 from by rw [eq_6]; exact sg_pI_k (by decide))).trans (h2_q_2.I ha0 (show ¬ (a0 = k0 ∧ h.1 a0 = 8) from (fun z => absurd (z.2.symm.trans ka0) (by decide))) 2)
      have y_13 : (q_6.1 a0 2).toInt = (q.1 a0 2).toInt := by rw [z_12]
      have y_14 : (q_6.1 a1 6).toInt = (q.1 a1 6).toInt := by rw [z_8]
      have z_15 : q_6.1 k0 6 = q_2.1 k0 6 := (show q_6.1 k0 6 = q_2.1 k0 6 from by rw [eq_6]; exact sg_pI_k (by decide))
      have y_16 : (q_6.1 k0 6).toInt = (q_2.1 k0 6).toInt := by rw [z_15]
      have y_17 : (q_6.1 a1 6).toInt = (q.1 a1 6).toInt := by rw [z_8]
      have z_18 : q_6.1 k0 1 = q.1 k0 1 := ((show q_6.1 k0 1 = q_2.1 k0 1 from by rw [eq_6]; exact sg_pI_a (sx_ka h kk0 ka0 (by decide)))).trans (h3_q_2.1 1 (by decide))
      have y_19 : (q_6.1 k0 1).toInt = (q.1 k0 1).toInt := by rw [z_18]
      have y_20 : (q_6.1 k0 6).toInt = (q_2.1 k0 6).toInt := by rw [z_15]
      have z_21 : q_6.2.2.2.2 s0 = q.2.2.2.2 s0 := ((show q_6.2.2.2.2 s0 = q_2.2.2.2.2 s0 from by rw [eq_6]; rfl)).trans (h2_q_2.Lg hs0 (show ¬ (s0 = k0 ∧ h.1 s0 = 8) from (fun z => absurd (z.2.symm.trans ks0) (by decide))) (by rw [ks0]; decide))
      have z_22 : q_6.2.2.2.1 c0 = q.2.2.2.1 c0 := ((show q_6.2.2.2.1 c0 = q_2.2.2.2.1 c0 from by rw [eq_6]; rfl)).trans (h2_q_2.G hc0 (show ¬ (c0 = k0 ∧ h.1 c0 = 8) from (fun z => absurd (z.2.symm.trans kc0) (by decide))) (by rw [kc0]; decide))
      have z_23 : q_6.2.2.2.2 m0 = q.2.2.2.2 m0 := ((show q_6.2.2.2.2 m0 = q_2.2.2.2.2 m0 from by rw [eq_6]; rfl)).trans (h2_q_2.Lg hm0 (show ¬ (m0 = k0 ∧ h.1 m0 = 8) from (fun z => absurd (z.2.symm.trans km0) (by decide))) (by rw [km0]; decide))
      have z_24 : q_6.2.2.2.1 f0 = q.2.2.2.1 f0 := ((show q_6.2.2.2.1 f0 = q_2.2.2.2.1 f0 from by rw [eq_6]; rfl)).trans (h2_q_2.G hf0 (show ¬ (f0 = k0 ∧ h.1 f0 = 8) from (fun z => absurd (z.2.symm.trans kf0) (by decide))) (by rw [kf0]; decide))
      have z_25 : q_6.2.2.2.1 w0 = q.2.2.2.1 w0 := ((show q_6.2.2.2.1 w0 = q_2.2.2.2.1 w0 from by rw [eq_6]; rfl)).trans (h2_q_2.G hw0 (show ¬ (w0 = k0 ∧ h.1 w0 = 8) from (fun z => absurd (z.2.symm.trans kw0) (by decide))) (by rw [kw0]; decide))
      exact hret _ _ _ _ dX10_beginSystem_50 (Or.inr rfl) ⟨hV_q_6, hF_q_6, (sx_kg.tr (h3_q_2.mono (by decide)) (show sx_kg k0 [5, 6] q_2 q_6 from by rw [eq_6]; exact sx_kg.pIo (sx_ka h kk0 ka0 (by decide)))), (Or.inr ⟨rfl, by omega, by rw [z_7, z_12, z_8, z_21, z_22, z_23, z_24, z_25]; exact pc_begin hC (by omega) hT (by omega) rfl⟩)⟩
    · refine wa_aload_n B dX10_beginSystem_27 rfl 0 rfl ?_
      have z_26 : q_6.2.2.1 a0 0 = k0 := ((show q_6.2.2.1 a0 0 = q_2.2.2.1 a0 0 from by rw [eq_6]; rfl)).trans ((h2_q_2.R ha0 (fun z9 => absurd z9.2 (by omega)) 0).trans (ek0))
      refine wa_getR B (C := RX10) (T := TX10) (N := 3) iq_X10_beginSystem_X10 ha0 ka0 (by decide) rfl 0 (by decide) (by decide) (by decide +kernel) rfl (fun _ _ _ => rfl) (v := k0) z_26 dX10_beginSystem_28 ?_
      refine wa_iconst B 4 dX10_beginSystem_31 (by decide) ?_
      refine wa_aload_n B dX10_beginSystem_32 rfl 0 rfl ?_
      refine wa_getR B (C := RX10) (T := TX10) (N := 3) iq_X10_beginSystem_X10 ha0 ka0 (by decide) rfl 0 (by decide) (by decide) (by decide +kernel) rfl (fun _ _ _ => rfl) (v := k0) z_26 dX10_beginSystem_33 ?_
      have z_27 : q_6.1 k0 1 = q.1 k0 1 := ((show q_6.1 k0 1 = q_2.1 k0 1 from by rw [eq_6]; exact sg_pI_a (sx_ka h kk0 ka0 (by decide)))).trans (h3_q_2.1 1 (by decide))
      refine wa_getI B (C := RX8) (T := TX8) (N := 11) iq_X10_beginSystem_X8 hk0 kk0 (by decide) rfl 1 (by decide) (by decide) (by decide +kernel) rfl (by decide) (v := (q.1 k0 1)) z_27 dX10_beginSystem_36 ?_
      refine wa_callVi B (x := (RX8, TX8, 11)) (As := [.int 4, .int (q.1 k0 1)]) (rest := []) (k_X8_refuse_c l dC dI h L hN q_6 hV_q_6 (a0 := k0) hk0 kk0 4 (q.1 k0 1)  ) (cwV 2 B.1.2.2.2.2 gX10_beginSystem_X8_refuse rfl rfl rfl (by decide +kernel) ⟨Nat.le_of_ble_eq_true rfl, Nat.le_of_ble_eq_true rfl⟩) hk0 kk0 (by decide) rfl rfl rfl (Nat.le_of_ble_eq_true rfl) dX10_beginSystem_39 (fun r_29 q_28 w_30 => ?_)
      obtain ⟨hV_q_28, h2_q_28, h3_q_28, hw_30⟩ := w_30
      have hF_q_28 : sx_fr h L (fun a => a = a0 ∧ h.1 a = 10 ∨ a = k0 ∧ h.1 a = 8) q q_28 := hF_q_6.tr (h2_q_28.mono (fun a (z : a = k0 ∧ h.1 a = 8) => ((fun z => (Or.inr z)) z)))
      refine wa_if_eq B 49 dX10_beginSystem_42 (by decide) (fun (t_31 : r_29.toInt = 0) => ?_) (fun (t_31 : ¬ r_29.toInt = 0) => ?_)
      · refine wa_iconst B 0 dX10_beginSystem_49 (by decide) ?_
        have z_32 : q_28.1 a0 1 = 1 := (h2_q_28.I ha0 (show ¬ (a0 = k0 ∧ h.1 a0 = 8) from (fun z => absurd (z.2.symm.trans ka0) (by decide))) 1).trans (z_7)
        have y_33 : (q_28.1 a0 1).toInt = 1 := by rw [z_32]; rfl
        have z_34 : q_28.1 a0 2 = q.1 a0 2 := (h2_q_28.I ha0 (show ¬ (a0 = k0 ∧ h.1 a0 = 8) from (fun z => absurd (z.2.symm.trans ka0) (by decide))) 2).trans (((show q_6.1 a0 2 = q_2.1 a0 2 from by rw [eq_6]; exact sg_pI_k (by decide))).trans (h2_q_2.I ha0 (show ¬ (a0 = k0 ∧ h.1 a0 = 8) from (fun z => absurd (z.2.symm.trans ka0) (by decide))) 2))
        have y_35 : (q_28.1 a0 2).toInt = (q.1 a0 2).toInt := by rw [z_34]
        have z_36 : q_28.1 a1 6 = (q.1 a1 6) := (h2_q_28.I ha1 (show ¬ (a1 = k0 ∧ h.1 a1 = 8) from (fun z => absurd (z.2.symm.trans ka1) (by decide))) 6).trans (z_8)
        have y_37 : (q_28.1 a1 6).toInt = (q.1 a1 6).toInt := by rw [z_36]
        have y_38 : (q_28.1 a1 6).toInt = (q.1 a1 6).toInt := by rw [z_36]
        have z_39 : q_28.1 k0 1 = (q.1 k0 1) := (h3_q_28.1 1 (by decide)).trans (z_27)
        have y_40 : (q_28.1 k0 1).toInt = (q.1 k0 1).toInt := by rw [z_39]
        exact hret _ _ _ _ dX10_beginSystem_50 (Or.inl rfl) ⟨hV_q_28, hF_q_28, (sx_kg.tr (sx_kg.tr (h3_q_2.mono (by decide)) (show sx_kg k0 [5, 6] q_2 q_6 from by rw [eq_6]; exact sx_kg.pIo (sx_ka h kk0 ka0 (by decide)))) (h3_q_28.mono (by decide))), (Or.inl ⟨rfl, by omega, (pc_begin_bad hC (by omega) hT (by omega) (by omega)).trans (congrArg some (by omega))⟩)⟩
      · refine wa_iconst B 1 dX10_beginSystem_45 (by decide) ?_
        refine wa_goto B 50 dX10_beginSystem_46 (by decide) ?_
        have z_41 : q_28.1 a0 1 = 1 := (h2_q_28.I ha0 (show ¬ (a0 = k0 ∧ h.1 a0 = 8) from (fun z => absurd (z.2.symm.trans ka0) (by decide))) 1).trans (z_7)
        have y_42 : (q_28.1 a0 1).toInt = 1 := by rw [z_41]; rfl
        have z_43 : q_28.1 a0 2 = q.1 a0 2 := (h2_q_28.I ha0 (show ¬ (a0 = k0 ∧ h.1 a0 = 8) from (fun z => absurd (z.2.symm.trans ka0) (by decide))) 2).trans (((show q_6.1 a0 2 = q_2.1 a0 2 from by rw [eq_6]; exact sg_pI_k (by decide))).trans (h2_q_2.I ha0 (show ¬ (a0 = k0 ∧ h.1 a0 = 8) from (fun z => absurd (z.2.symm.trans ka0) (by decide))) 2))
        have y_44 : (q_28.1 a0 2).toInt = (q.1 a0 2).toInt := by rw [z_43]
        have z_45 : q_28.1 a1 6 = (q.1 a1 6) := (h2_q_28.I ha1 (show ¬ (a1 = k0 ∧ h.1 a1 = 8) from (fun z => absurd (z.2.symm.trans ka1) (by decide))) 6).trans (z_8)
        have y_46 : (q_28.1 a1 6).toInt = (q.1 a1 6).toInt := by rw [z_45]
        have y_47 : (q_28.1 a1 6).toInt = (q.1 a1 6).toInt := by rw [z_45]
        have z_48 : q_28.1 k0 1 = (q.1 k0 1) := (h3_q_28.1 1 (by decide)).trans (z_27)
        have y_49 : (q_28.1 k0 1).toInt = (q.1 k0 1).toInt := by rw [z_48]
        exact hret _ _ _ _ dX10_beginSystem_50 (Or.inr rfl) ⟨hV_q_28, hF_q_28, (sx_kg.tr (sx_kg.tr (h3_q_2.mono (by decide)) (show sx_kg k0 [5, 6] q_2 q_6 from by rw [eq_6]; exact sx_kg.pIo (sx_ka h kk0 ka0 (by decide)))) (h3_q_28.mono (by decide))), (by exfalso; omega)⟩
  · refine wa_iconst B 0 dX10_beginSystem_12 (by decide) ?_
    have z_50 : q_2.1 a0 1 = q.1 a0 1 := h2_q_2.I ha0 (show ¬ (a0 = k0 ∧ h.1 a0 = 8) from (fun z => absurd (z.2.symm.trans ka0) (by decide))) 1
    have y_51 : (q_2.1 a0 1).toInt = (q.1 a0 1).toInt := by rw [z_50]
    have z_52 : q_2.1 a0 2 = q.1 a0 2 := h2_q_2.I ha0 (show ¬ (a0 = k0 ∧ h.1 a0 = 8) from (fun z => absurd (z.2.symm.trans ka0) (by decide))) 2
    have y_53 : (q_2.1 a0 2).toInt = (q.1 a0 2).toInt := by rw [z_52]
    have z_54 : q_2.1 a1 6 = q.1 a1 6 := h2_q_2.I ha1 (show ¬ (a1 = k0 ∧ h.1 a1 = 8) from (fun z => absurd (z.2.symm.trans ka1) (by decide))) 6
    have y_55 : (q_2.1 a1 6).toInt = (q.1 a1 6).toInt := by rw [z_54]
    have y_56 : (q_2.1 a1 6).toInt = (q.1 a1 6).toInt := by rw [z_54]
    have z_57 : q_2.1 k0 1 = q.1 k0 1 := h3_q_2.1 1 (by decide)
    have y_58 : (q_2.1 k0 1).toInt = (q.1 k0 1).toInt := by rw [z_57]
    exact hret _ _ _ _ dX10_beginSystem_13 (Or.inl rfl) ⟨hV_q_2, hF_q_2, (h3_q_2.mono (by decide)), (Or.inl ⟨rfl, by omega, (pc_begin_bad hC (by omega) hT (by omega) (by omega)).trans (congrArg some (by omega))⟩)⟩
