theorem iq_X10_endSystem_X10 : ∀ w ∈ wsX100, w ∈ wsX10_endSystem := fun _ h => List.mem_cons_of_mem _ (List.mem_append_left _ (List.mem_append_right _ h))
set_option maxHeartbeats 4000000 in
set_option maxRecDepth 100000 in
theorem k_X10_endSystem (l : Launch) (dC : Nat → ClassId) (dI : Nat → Nat → Nat) (h : Sh) (L : List Nat) (hN : sx_nd L) (q : Sg) (hV : sx_V h L q) {a0 : Nat} (ha0 : a0 ∈ L) (ka0 : h.1 a0 = 10)   : CMi l dC dI h L yX10_endSystem wsX10_endSystem ({ frames := 1, cells := 0, slots := 0, locals := 21 } : Room) q [.ref a0] (fun r q' => sx_V h L q' ∧ sx_fr h L (fun a => a = a0 ∧ h.1 a = 10 ∨ h.1 a = 8) q q' ∧ (r.toInt = 0 ∨ r.toInt = 1)) := by
  refine cm_z (cc := cX10_endSystem) (mL := 1) (own := RX10) hN (by decide) rfl rfl (Nat.le_of_ble_eq_true rfl) (fun Z B hret => ?_)
  have hF : sx_fr h L (fun a => a = a0 ∧ h.1 a = 10 ∨ h.1 a = 8) q q := sx_fr.rf
  show WA l dC dI h L ({ frames := 1, cells := 0, slots := 0, locals := 21 } : Room) 1 Z q 0 [(0, .ref a0)] []
  refine wa_aload_n B dX10_endSystem_0 rfl 0 rfl ?_
  refine wa_iconst B 0 dX10_endSystem_1 (by decide) ?_
  refine wa_putI B (C := RX10) (T := TX10) (N := 3) iq_X10_endSystem_X10 ha0 ka0 (by decide) rfl 1 (by decide) (by decide) (by decide +kernel) rfl (by decide) (v := 0) (ty := .int) tyX10 tyX10_ok nmX10 rfl (by decide +kernel) rfl rfl dX10_endSystem_2 (fun q_1 eq_1 => ?_)
  have hV_q_1 : sx_V h L q_1 := by rw [eq_1]; exact hV.pI ka0 trivial
  have hF_q_1 : sx_fr h L (fun a => a = a0 ∧ h.1 a = 10 ∨ h.1 a = 8) q q_1 := hF.tr (by rw [eq_1]; exact sx_fr.pI (show a0 = a0 ∧ h.1 a0 = 10 ∨ h.1 a0 = 8 from by omega))
  have z_2 : q_1.1 a0 1 = 0 := by rw [eq_1]; exact sg_pI_e
  refine wa_aload_n B dX10_endSystem_5 rfl 0 rfl ?_
  obtain ⟨a_3, ea_3, ha_3, ka_3⟩ := hV_q_1.ref (t := 8) ha0 ka0 0 rfl (by decide)
  refine wa_getR B (C := RX10) (T := TX10) (N := 3) iq_X10_endSystem_X10 ha0 ka0 (by decide) rfl 0 (by decide) (by decide) (by decide +kernel) rfl (fun _ _ _ => rfl) (v := a_3) ea_3 dX10_endSystem_6 ?_
  refine wa_iconst B 5 dX10_endSystem_9 (by decide) ?_
  refine wa_callVi B (x := (RX8, TX8, 11)) (As := [.int 5]) (rest := []) (k_X8_demand l dC dI h L hN q_1 hV_q_1 (a0 := a_3) ha_3 ka_3 5  ) (cwV 1 B.1.2.2.2.2 gX10_endSystem_X8_demand rfl rfl rfl (by decide +kernel) ⟨Nat.le_of_ble_eq_true rfl, Nat.le_of_ble_eq_true rfl⟩) ha_3 ka_3 (by decide) rfl rfl rfl (Nat.le_of_ble_eq_true rfl) dX10_endSystem_10 (fun r_5 q_4 w_6 => ?_)
  obtain ⟨hV_q_4, h2_q_4, hw_6⟩ := w_6
  have hF_q_4 : sx_fr h L (fun a => a = a0 ∧ h.1 a = 10 ∨ h.1 a = 8) q q_4 := hF_q_1.tr (h2_q_4.mono (fun a (z : a = a_3 ∧ h.1 a = 8) => (show a = a0 ∧ h.1 a = 10 ∨ h.1 a = 8 from by omega)))
  exact hret _ _ _ _ dX10_endSystem_13 (zx_01 (by omega)) ⟨hV_q_4, hF_q_4, (by first | omega | (refine ⟨?_, ?_⟩ <;> omega) | trivial)⟩
theorem iq_X10_beginSystem_X10 : ∀ w ∈ wsX100, w ∈ wsX10_beginSystem := fun _ h => List.mem_cons_of_mem _ (List.mem_append_left _ (List.mem_append_left _ (List.mem_append_right _ h)))
theorem iq_X10_beginSystem_X8 : ∀ w ∈ wsX80, w ∈ wsX10_beginSystem := fun _ h => List.mem_cons_of_mem _ (List.mem_append_right _ h)
theorem iq_X10_beginSystem_X9 : ∀ w ∈ wsX90, w ∈ wsX10_beginSystem := fun _ h => List.mem_cons_of_mem _ (List.mem_append_left _ (List.mem_append_right _ h))
set_option maxHeartbeats 4000000 in
set_option maxRecDepth 100000 in
theorem k_X10_beginSystem (l : Launch) (dC : Nat → ClassId) (dI : Nat → Nat → Nat) (h : Sh) (L : List Nat) (hN : sx_nd L) (q : Sg) (hV : sx_V h L q) {a0 : Nat} (ha0 : a0 ∈ L) (ka0 : h.1 a0 = 10) {a1 : Nat} (ha1 : a1 ∈ L) (ka1 : h.1 a1 = 9)   : CMi l dC dI h L yX10_beginSystem wsX10_beginSystem ({ frames := 1, cells := 0, slots := 0, locals := 22 } : Room) q [.ref a0, .ref a1] (fun r q' => sx_V h L q' ∧ sx_fr h L (fun a => a = a0 ∧ h.1 a = 10 ∨ h.1 a = 8) q q' ∧ (r.toInt = 0 ∨ r.toInt = 1)) := by
  refine cm_z (cc := cX10_beginSystem) (mL := 2) (own := RX10) hN (by decide) rfl rfl (Nat.le_of_ble_eq_true rfl) (fun Z B hret => ?_)
  have hF : sx_fr h L (fun a => a = a0 ∧ h.1 a = 10 ∨ h.1 a = 8) q q := sx_fr.rf
  show WA l dC dI h L ({ frames := 1, cells := 0, slots := 0, locals := 22 } : Room) 2 Z q 0 [(0, .ref a0), (1, .ref a1)] []
  refine wa_aload_n B dX10_beginSystem_0 rfl 0 rfl ?_
  obtain ⟨a_1, ea_1, ha_1, ka_1⟩ := hV.ref (t := 8) ha0 ka0 0 rfl (by decide)
  refine wa_getR B (C := RX10) (T := TX10) (N := 3) iq_X10_beginSystem_X10 ha0 ka0 (by decide) rfl 0 (by decide) (by decide) (by decide +kernel) rfl (fun _ _ _ => rfl) (v := a_1) ea_1 dX10_beginSystem_1 ?_
  refine wa_bipush B 6 dX10_beginSystem_4 (by decide) ?_
  refine wa_callVi B (x := (RX8, TX8, 11)) (As := [.int 6]) (rest := []) (k_X8_demand l dC dI h L hN q hV (a0 := a_1) ha_1 ka_1 6  ) (cwV 1 B.1.2.2.2.2 gX10_beginSystem_X8_demand rfl rfl rfl (by decide +kernel) ⟨Nat.le_of_ble_eq_true rfl, Nat.le_of_ble_eq_true rfl⟩) ha_1 ka_1 (by decide) rfl rfl rfl (Nat.le_of_ble_eq_true rfl) dX10_beginSystem_6 (fun r_3 q_2 w_4 => ?_)
  obtain ⟨hV_q_2, h2_q_2, hw_4⟩ := w_4
  have hF_q_2 : sx_fr h L (fun a => a = a0 ∧ h.1 a = 10 ∨ h.1 a = 8) q q_2 := hF.tr (h2_q_2.mono (fun a (z : a = a_1 ∧ h.1 a = 8) => (show a = a0 ∧ h.1 a = 10 ∨ h.1 a = 8 from by omega)))
  refine wa_if_ne B 14 dX10_beginSystem_9 (by decide) (fun (t_5 : ¬ r_3.toInt = 0) => ?_) (fun (t_5 : r_3.toInt = 0) => ?_)
  · refine wa_aload_n B dX10_beginSystem_14 rfl 0 rfl ?_
    refine wa_iconst B 1 dX10_beginSystem_15 (by decide) ?_
    refine wa_putI B (C := RX10) (T := TX10) (N := 3) iq_X10_beginSystem_X10 ha0 ka0 (by decide) rfl 1 (by decide) (by decide) (by decide +kernel) rfl (by decide) (v := 1) (ty := .int) tyX10 tyX10_ok nmX10 rfl (by decide +kernel) rfl rfl dX10_beginSystem_16 (fun q_6 eq_6 => ?_)
    have hV_q_6 : sx_V h L q_6 := by rw [eq_6]; exact hV_q_2.pI ka0 trivial
    have hF_q_6 : sx_fr h L (fun a => a = a0 ∧ h.1 a = 10 ∨ h.1 a = 8) q q_6 := hF_q_2.tr (by rw [eq_6]; exact sx_fr.pI (show a0 = a0 ∧ h.1 a0 = 10 ∨ h.1 a0 = 8 from by omega))
    have z_7 : q_6.1 a0 1 = 1 := by rw [eq_6]; exact sg_pI_e
    refine wa_aload_n B dX10_beginSystem_19 rfl 1 rfl ?_
    refine wa_getI B (C := RX9) (T := TX9) (N := 7) iq_X10_beginSystem_X9 ha1 ka1 (by decide) rfl 6 (by decide) (by decide) (by decide +kernel) rfl (by decide) (v := (q_6.1 a1 6)) rfl dX10_beginSystem_20 ?_
    have g_8 : (0 : Int) ≤ (q_6.1 a1 6).toInt ∧ (q_6.1 a1 6).toInt ≤ 3 := hV_q_6.int ha1 ka1 6
    refine wa_iconst B 3 dX10_beginSystem_23 (by decide) ?_
    refine wa_icmp_lt B 45 dX10_beginSystem_24 (by decide) (fun (t_9 : (q_6.1 a1 6).toInt < 3) => ?_) (fun (t_9 : ¬ (q_6.1 a1 6).toInt < 3) => ?_)
    · refine wa_iconst B 1 dX10_beginSystem_45 (by decide) ?_
      refine wa_goto B 50 dX10_beginSystem_46 (by decide) ?_
      exact hret _ _ _ _ dX10_beginSystem_50 (Or.inr rfl) ⟨hV_q_6, hF_q_6, (by have h9 : (1 : Int32).toInt = 1 := rfl; first | omega | (refine ⟨?_, ?_⟩ <;> omega) | trivial)⟩
    · refine wa_aload_n B dX10_beginSystem_27 rfl 0 rfl ?_
      have z_10 : q_6.2.2.1 a0 0 = a_1 := ((show q_6.2.2.1 a0 0 = q_2.2.2.1 a0 0 from by rw [eq_6]; rfl)).trans ((h2_q_2.R ha0 (show ¬ ((a0 = a_1 ∧ h.1 a0 = 8) ∧ (h.1 a0 = 8 ∨ h.1 a0 = 11)) from by omega) 0).trans (ea_1))
      refine wa_getR B (C := RX10) (T := TX10) (N := 3) iq_X10_beginSystem_X10 ha0 ka0 (by decide) rfl 0 (by decide) (by decide) (by decide +kernel) rfl (fun _ _ _ => rfl) (v := a_1) z_10 dX10_beginSystem_28 ?_
      refine wa_iconst B 4 dX10_beginSystem_31 (by decide) ?_
      refine wa_aload_n B dX10_beginSystem_32 rfl 0 rfl ?_
      refine wa_getR B (C := RX10) (T := TX10) (N := 3) iq_X10_beginSystem_X10 ha0 ka0 (by decide) rfl 0 (by decide) (by decide) (by decide +kernel) rfl (fun _ _ _ => rfl) (v := a_1) z_10 dX10_beginSystem_33 ?_
      refine wa_getI B (C := RX8) (T := TX8) (N := 11) iq_X10_beginSystem_X8 ha_1 ka_1 (by decide) rfl 1 (by decide) (by decide) (by decide +kernel) rfl (by decide) (v := (q_6.1 a_1 1)) rfl dX10_beginSystem_36 ?_
      refine wa_callVi B (x := (RX8, TX8, 11)) (As := [.int 4, .int (q_6.1 a_1 1)]) (rest := []) (k_X8_refuse l dC dI h L hN q_6 hV_q_6 (a0 := a_1) ha_1 ka_1 4 (q_6.1 a_1 1)  ) (cwV 2 B.1.2.2.2.2 gX10_beginSystem_X8_refuse rfl rfl rfl (by decide +kernel) ⟨Nat.le_of_ble_eq_true rfl, Nat.le_of_ble_eq_true rfl⟩) ha_1 ka_1 (by decide) rfl rfl rfl (Nat.le_of_ble_eq_true rfl) dX10_beginSystem_39 (fun r_12 q_11 w_13 => ?_)
      obtain ⟨hV_q_11, h2_q_11, hw_13⟩ := w_13
      have hF_q_11 : sx_fr h L (fun a => a = a0 ∧ h.1 a = 10 ∨ h.1 a = 8) q q_11 := hF_q_6.tr (h2_q_11.mono (fun a (z : a = a_1 ∧ h.1 a = 8) => (show a = a0 ∧ h.1 a = 10 ∨ h.1 a = 8 from by omega)))
      refine wa_if_eq B 49 dX10_beginSystem_42 (by decide) (fun (t_14 : r_12.toInt = 0) => ?_) (fun (t_14 : ¬ r_12.toInt = 0) => ?_)
      · refine wa_iconst B 0 dX10_beginSystem_49 (by decide) ?_
        exact hret _ _ _ _ dX10_beginSystem_50 (Or.inl rfl) ⟨hV_q_11, hF_q_11, (by have h9 : (0 : Int32).toInt = 0 := rfl; first | omega | (refine ⟨?_, ?_⟩ <;> omega) | trivial)⟩
      · refine wa_iconst B 1 dX10_beginSystem_45 (by decide) ?_
        refine wa_goto B 50 dX10_beginSystem_46 (by decide) ?_
        exact hret _ _ _ _ dX10_beginSystem_50 (Or.inr rfl) ⟨hV_q_11, hF_q_11, (by have h9 : (1 : Int32).toInt = 1 := rfl; first | omega | (refine ⟨?_, ?_⟩ <;> omega) | trivial)⟩
  · refine wa_iconst B 0 dX10_beginSystem_12 (by decide) ?_
    exact hret _ _ _ _ dX10_beginSystem_13 (Or.inl rfl) ⟨hV_q_2, hF_q_2, (by have h9 : (0 : Int32).toInt = 0 := rfl; first | omega | (refine ⟨?_, ?_⟩ <;> omega) | trivial)⟩
theorem iq_X10_isNewName_X10 : ∀ w ∈ wsX100, w ∈ wsX10_isNewName := fun _ h => List.mem_cons_of_mem _ (List.mem_append_left _ (List.mem_append_left _ (List.mem_append_right _ h)))
theorem iq_X10_isNewName_X8 : ∀ w ∈ wsX80, w ∈ wsX10_isNewName := fun _ h => List.mem_cons_of_mem _ (List.mem_append_left _ (List.mem_append_right _ h))
set_option maxHeartbeats 4000000 in
set_option maxRecDepth 100000 in
theorem k_X10_isNewName (l : Launch) (dC : Nat → ClassId) (dI : Nat → Nat → Nat) (h : Sh) (L : List Nat) (hN : sx_nd L) (q : Sg) (hV : sx_V h L q) {a0 : Nat} (ha0 : a0 ∈ L) (ka0 : h.1 a0 = 10) {a1 : Nat} (ha1 : a1 ∈ L) (ka1 : h.1 a1 = 9)   : CMi l dC dI h L yX10_isNewName wsX10_isNewName ({ frames := 2, cells := 0, slots := 0, locals := 46 } : Room) q [.ref a0, .ref a1] (fun r q' => sx_V h L q' ∧ sx_fr h L (fun a => a = a0 ∧ h.1 a = 10 ∨ h.1 a = 8) q q' ∧ (r.toInt = 0 ∨ r.toInt = 1)) := by
  refine cm_z (cc := cX10_isNewName) (mL := 2) (own := RX10) hN (by decide) rfl rfl (Nat.le_of_ble_eq_true rfl) (fun Z B hret => ?_)
  have hF : sx_fr h L (fun a => a = a0 ∧ h.1 a = 10 ∨ h.1 a = 8) q q := sx_fr.rf
  show WA l dC dI h L ({ frames := 2, cells := 0, slots := 0, locals := 46 } : Room) 2 Z q 0 [(0, .ref a0), (1, .ref a1)] []
  refine wa_aload_n B dX10_isNewName_0 rfl 0 rfl ?_
  obtain ⟨a_1, ea_1, ha_1, ka_1⟩ := hV.ref (t := 8) ha0 ka0 0 rfl (by decide)
  refine wa_getR B (C := RX10) (T := TX10) (N := 3) iq_X10_isNewName_X10 ha0 ka0 (by decide) rfl 0 (by decide) (by decide) (by decide +kernel) rfl (fun _ _ _ => rfl) (v := a_1) ea_1 dX10_isNewName_1 ?_
  refine wa_iconst B 2 dX10_isNewName_4 (by decide) ?_
  refine wa_callVi B (x := (RX8, TX8, 11)) (As := [.int 2]) (rest := []) (k_X8_demand l dC dI h L hN q hV (a0 := a_1) ha_1 ka_1 2  ) (cwV 1 B.1.2.2.2.2 gX10_isNewName_X8_demand rfl rfl rfl (by decide +kernel) ⟨Nat.le_of_ble_eq_true rfl, Nat.le_of_ble_eq_true rfl⟩) ha_1 ka_1 (by decide) rfl rfl rfl (Nat.le_of_ble_eq_true rfl) dX10_isNewName_5 (fun r_3 q_2 w_4 => ?_)
  obtain ⟨hV_q_2, h2_q_2, hw_4⟩ := w_4
  have hF_q_2 : sx_fr h L (fun a => a = a0 ∧ h.1 a = 10 ∨ h.1 a = 8) q q_2 := hF.tr (h2_q_2.mono (fun a (z : a = a_1 ∧ h.1 a = 8) => (show a = a0 ∧ h.1 a = 10 ∨ h.1 a = 8 from by omega)))
  refine wa_if_ne B 13 dX10_isNewName_8 (by decide) (fun (t_5 : ¬ r_3.toInt = 0) => ?_) (fun (t_5 : r_3.toInt = 0) => ?_)
  · refine wa_aload_n B dX10_isNewName_13 rfl 1 rfl ?_
    refine wa_aload_n B dX10_isNewName_14 rfl 0 rfl ?_
    have z_6 : q_2.2.2.1 a0 0 = a_1 := (h2_q_2.R ha0 (show ¬ ((a0 = a_1 ∧ h.1 a0 = 8) ∧ (h.1 a0 = 8 ∨ h.1 a0 = 11)) from by omega) 0).trans (ea_1)
    refine wa_getR B (C := RX10) (T := TX10) (N := 3) iq_X10_isNewName_X10 ha0 ka0 (by decide) rfl 0 (by decide) (by decide) (by decide +kernel) rfl (fun _ _ _ => rfl) (v := a_1) z_6 dX10_isNewName_15 ?_
    refine wa_getJ B (C := RX8) (T := TX8) (N := 11) iq_X10_isNewName_X8 ha_1 ka_1 (by decide) rfl 2 (by decide) (by decide) (by decide +kernel) rfl (by decide) (v := (q_2.2.1 a_1 2)) rfl dX10_isNewName_18 ?_
    refine wa_callVi B (x := (RX9, TX9, 7)) (As := [.long (q_2.2.1 a_1 2)]) (rest := []) (k_X9_isTaken l dC dI h L hN q_2 hV_q_2 (a0 := a1) ha1 ka1 (q_2.2.1 a_1 2)  ) (cwV 1 B.1.2.2.2.2 gX10_isNewName_X9_isTaken rfl rfl rfl (by decide +kernel) ⟨Nat.le_of_ble_eq_true rfl, Nat.le_of_ble_eq_true rfl⟩) ha1 ka1 (by decide) rfl rfl rfl (Nat.le_of_ble_eq_true rfl) dX10_isNewName_21 (fun r_8 q_7 w_9 => ?_)
    obtain ⟨ew_9, hw_9⟩ := w_9
    subst ew_9
    refine wa_if_eq B 45 dX10_isNewName_24 (by decide) (fun (t_10 : r_8.toInt = 0) => ?_) (fun (t_10 : ¬ r_8.toInt = 0) => ?_)
    · refine wa_iconst B 1 dX10_isNewName_45 (by decide) ?_
      refine wa_goto B 50 dX10_isNewName_46 (by decide) ?_
      exact hret _ _ _ _ dX10_isNewName_50 (Or.inr rfl) ⟨hV_q_2, hF_q_2, (by have h9 : (1 : Int32).toInt = 1 := rfl; first | omega | (refine ⟨?_, ?_⟩ <;> omega) | trivial)⟩
    · refine wa_aload_n B dX10_isNewName_27 rfl 0 rfl ?_
      refine wa_getR B (C := RX10) (T := TX10) (N := 3) iq_X10_isNewName_X10 ha0 ka0 (by decide) rfl 0 (by decide) (by decide) (by decide +kernel) rfl (fun _ _ _ => rfl) (v := a_1) z_6 dX10_isNewName_28 ?_
      refine wa_iconst B 3 dX10_isNewName_31 (by decide) ?_
      refine wa_aload_n B dX10_isNewName_32 rfl 0 rfl ?_
      refine wa_getR B (C := RX10) (T := TX10) (N := 3) iq_X10_isNewName_X10 ha0 ka0 (by decide) rfl 0 (by decide) (by decide) (by decide +kernel) rfl (fun _ _ _ => rfl) (v := a_1) z_6 dX10_isNewName_33 ?_
      refine wa_getI B (C := RX8) (T := TX8) (N := 11) iq_X10_isNewName_X8 ha_1 ka_1 (by decide) rfl 1 (by decide) (by decide) (by decide +kernel) rfl (by decide) (v := (q_2.1 a_1 1)) rfl dX10_isNewName_36 ?_
      refine wa_callVi B (x := (RX8, TX8, 11)) (As := [.int 3, .int (q_2.1 a_1 1)]) (rest := []) (k_X8_refuse l dC dI h L hN q_2 hV_q_2 (a0 := a_1) ha_1 ka_1 3 (q_2.1 a_1 1)  ) (cwV 2 B.1.2.2.2.2 gX10_isNewName_X8_refuse rfl rfl rfl (by decide +kernel) ⟨Nat.le_of_ble_eq_true rfl, Nat.le_of_ble_eq_true rfl⟩) ha_1 ka_1 (by decide) rfl rfl rfl (Nat.le_of_ble_eq_true rfl) dX10_isNewName_39 (fun r_12 q_11 w_13 => ?_)
      obtain ⟨hV_q_11, h2_q_11, hw_13⟩ := w_13
      have hF_q_11 : sx_fr h L (fun a => a = a0 ∧ h.1 a = 10 ∨ h.1 a = 8) q q_11 := hF_q_2.tr (h2_q_11.mono (fun a (z : a = a_1 ∧ h.1 a = 8) => (show a = a0 ∧ h.1 a = 10 ∨ h.1 a = 8 from by omega)))
      refine wa_if_eq B 49 dX10_isNewName_42 (by decide) (fun (t_14 : r_12.toInt = 0) => ?_) (fun (t_14 : ¬ r_12.toInt = 0) => ?_)
      · refine wa_iconst B 0 dX10_isNewName_49 (by decide) ?_
        exact hret _ _ _ _ dX10_isNewName_50 (Or.inl rfl) ⟨hV_q_11, hF_q_11, (by have h9 : (0 : Int32).toInt = 0 := rfl; first | omega | (refine ⟨?_, ?_⟩ <;> omega) | trivial)⟩
      · refine wa_iconst B 1 dX10_isNewName_45 (by decide) ?_
        refine wa_goto B 50 dX10_isNewName_46 (by decide) ?_
        exact hret _ _ _ _ dX10_isNewName_50 (Or.inr rfl) ⟨hV_q_11, hF_q_11, (by have h9 : (1 : Int32).toInt = 1 := rfl; first | omega | (refine ⟨?_, ?_⟩ <;> omega) | trivial)⟩
  · refine wa_iconst B 0 dX10_isNewName_11 (by decide) ?_
    exact hret _ _ _ _ dX10_isNewName_12 (Or.inl rfl) ⟨hV_q_2, hF_q_2, (by have h9 : (0 : Int32).toInt = 0 := rfl; first | omega | (refine ⟨?_, ?_⟩ <;> omega) | trivial)⟩
theorem iq_X10_takeSystemName_X10 : ∀ w ∈ wsX100, w ∈ wsX10_takeSystemName := fun _ h => List.mem_cons_of_mem _ (List.mem_append_left _ (List.mem_append_left _ (List.mem_append_right _ h)))
theorem iq_X10_takeSystemName_X8 : ∀ w ∈ wsX80, w ∈ wsX10_takeSystemName := fun _ h => List.mem_cons_of_mem _ (List.mem_append_left _ (List.mem_append_right _ h))
set_option maxHeartbeats 4000000 in
set_option maxRecDepth 100000 in
theorem k_X10_takeSystemName (l : Launch) (dC : Nat → ClassId) (dI : Nat → Nat → Nat) (h : Sh) (L : List Nat) (hN : sx_nd L) (q : Sg) (hV : sx_V h L q) {a0 : Nat} (ha0 : a0 ∈ L) (ka0 : h.1 a0 = 10) {a1 : Nat} (ha1 : a1 ∈ L) (ka1 : h.1 a1 = 9)   : CMi l dC dI h L yX10_takeSystemName wsX10_takeSystemName ({ frames := 3, cells := 0, slots := 0, locals := 67 } : Room) q [.ref a0, .ref a1] (fun r q' => sx_V h L q' ∧ sx_fr h L (fun a => h.1 a = 10 ∨ h.1 a = 8 ∨ h.1 a = 9 ∨ h.1 a = 201 ∨ h.1 a = 101 ∨ h.1 a = 202 ∨ h.1 a = 102 ∨ h.1 a = 103 ∨ h.1 a = 104) q q' ∧ (r.toInt = 0 ∨ r.toInt = 1)) := by
  refine cm_z (cc := cX10_takeSystemName) (mL := 2) (own := RX10) hN (by decide) rfl rfl (Nat.le_of_ble_eq_true rfl) (fun Z B hret => ?_)
  have hF : sx_fr h L (fun a => h.1 a = 10 ∨ h.1 a = 8 ∨ h.1 a = 9 ∨ h.1 a = 201 ∨ h.1 a = 101 ∨ h.1 a = 202 ∨ h.1 a = 102 ∨ h.1 a = 103 ∨ h.1 a = 104) q q := sx_fr.rf
  show WA l dC dI h L ({ frames := 3, cells := 0, slots := 0, locals := 67 } : Room) 2 Z q 0 [(0, .ref a0), (1, .ref a1)] []
  refine wa_aload_n B dX10_takeSystemName_0 rfl 0 rfl ?_
  refine wa_aload_n B dX10_takeSystemName_1 rfl 1 rfl ?_
  refine wa_callVi B (x := (RX10, TX10, 3)) (As := [.ref a1]) (rest := []) (k_X10_isNewName l dC dI h L hN q hV (a0 := a0) ha0 ka0 (a1 := a1) ha1 ka1  ) (cwV 1 B.1.2.2.2.2 gX10_takeSystemName_X10_isNewName rfl rfl rfl (by decide +kernel) ⟨Nat.le_of_ble_eq_true rfl, Nat.le_of_ble_eq_true rfl⟩) ha0 ka0 (by decide) rfl rfl rfl (Nat.le_of_ble_eq_true rfl) dX10_takeSystemName_2 (fun r_2 q_1 w_3 => ?_)
  obtain ⟨hV_q_1, h2_q_1, hw_3⟩ := w_3
  have hF_q_1 : sx_fr h L (fun a => h.1 a = 10 ∨ h.1 a = 8 ∨ h.1 a = 9 ∨ h.1 a = 201 ∨ h.1 a = 101 ∨ h.1 a = 202 ∨ h.1 a = 102 ∨ h.1 a = 103 ∨ h.1 a = 104) q q_1 := hF.tr (h2_q_1.mono (fun a (z : a = a0 ∧ h.1 a = 10 ∨ h.1 a = 8) => (show h.1 a = 10 ∨ h.1 a = 8 ∨ h.1 a = 9 ∨ h.1 a = 201 ∨ h.1 a = 101 ∨ h.1 a = 202 ∨ h.1 a = 102 ∨ h.1 a = 103 ∨ h.1 a = 104 from by omega)))
  refine wa_if_ne B 10 dX10_takeSystemName_5 (by decide) (fun (t_4 : ¬ r_2.toInt = 0) => ?_) (fun (t_4 : r_2.toInt = 0) => ?_)
  · refine wa_aload_n B dX10_takeSystemName_10 rfl 1 rfl ?_
    refine wa_aload_n B dX10_takeSystemName_11 rfl 0 rfl ?_
    obtain ⟨a_5, ea_5, ha_5, ka_5⟩ := hV_q_1.ref (t := 8) ha0 ka0 0 rfl (by decide)
    refine wa_getR B (C := RX10) (T := TX10) (N := 3) iq_X10_takeSystemName_X10 ha0 ka0 (by decide) rfl 0 (by decide) (by decide) (by decide +kernel) rfl (fun _ _ _ => rfl) (v := a_5) ea_5 dX10_takeSystemName_12 ?_
    refine wa_getJ B (C := RX8) (T := TX8) (N := 11) iq_X10_takeSystemName_X8 ha_5 ka_5 (by decide) rfl 2 (by decide) (by decide) (by decide +kernel) rfl (by decide) (v := (q_1.2.1 a_5 2)) rfl dX10_takeSystemName_15 ?_
    refine wa_callVv B (x := (RX9, TX9, 7)) (As := [.long (q_1.2.1 a_5 2)]) (rest := []) (k_X9_addSystem l dC dI h L hN q_1 hV_q_1 (a0 := a1) ha1 ka1 (q_1.2.1 a_5 2)  ) (cwV 1 B.1.2.2.2.2 gX10_takeSystemName_X9_addSystem rfl rfl rfl (by decide +kernel) ⟨Nat.le_of_ble_eq_true rfl, Nat.le_of_ble_eq_true rfl⟩) ha1 ka1 (by decide) rfl rfl rfl (Nat.le_of_ble_eq_true rfl) dX10_takeSystemName_18 (fun q_6 w_7 => ?_)
    obtain ⟨hV_q_6, h2_q_6⟩ := w_7
    have hF_q_6 : sx_fr h L (fun a => h.1 a = 10 ∨ h.1 a = 8 ∨ h.1 a = 9 ∨ h.1 a = 201 ∨ h.1 a = 101 ∨ h.1 a = 202 ∨ h.1 a = 102 ∨ h.1 a = 103 ∨ h.1 a = 104) q q_6 := hF_q_1.tr (h2_q_6.mono (fun a (z : a = a1 ∧ h.1 a = 9 ∨ h.1 a = 201) => (show h.1 a = 10 ∨ h.1 a = 8 ∨ h.1 a = 9 ∨ h.1 a = 201 ∨ h.1 a = 101 ∨ h.1 a = 202 ∨ h.1 a = 102 ∨ h.1 a = 103 ∨ h.1 a = 104 from by omega)))
    refine wa_aload_n B dX10_takeSystemName_21 rfl 0 rfl ?_
    refine wa_iconst B 2 dX10_takeSystemName_22 (by decide) ?_
    refine wa_putI B (C := RX10) (T := TX10) (N := 3) iq_X10_takeSystemName_X10 ha0 ka0 (by decide) rfl 1 (by decide) (by decide) (by decide +kernel) rfl (by decide) (v := 2) (ty := .int) tyX10 tyX10_ok nmX10 rfl (by decide +kernel) rfl rfl dX10_takeSystemName_23 (fun q_8 eq_8 => ?_)
    have hV_q_8 : sx_V h L q_8 := by rw [eq_8]; exact hV_q_6.pI ka0 trivial
    have hF_q_8 : sx_fr h L (fun a => h.1 a = 10 ∨ h.1 a = 8 ∨ h.1 a = 9 ∨ h.1 a = 201 ∨ h.1 a = 101 ∨ h.1 a = 202 ∨ h.1 a = 102 ∨ h.1 a = 103 ∨ h.1 a = 104) q q_8 := hF_q_6.tr (by rw [eq_8]; exact sx_fr.pI (show h.1 a0 = 10 ∨ h.1 a0 = 8 ∨ h.1 a0 = 9 ∨ h.1 a0 = 201 ∨ h.1 a0 = 101 ∨ h.1 a0 = 202 ∨ h.1 a0 = 102 ∨ h.1 a0 = 103 ∨ h.1 a0 = 104 from by omega))
    have z_9 : q_8.1 a0 1 = 2 := by rw [eq_8]; exact sg_pI_e
    refine wa_iconst B 1 dX10_takeSystemName_26 (by decide) ?_
    exact hret _ _ _ _ dX10_takeSystemName_27 (Or.inr rfl) ⟨hV_q_8, hF_q_8, (by have h9 : (1 : Int32).toInt = 1 := rfl; first | omega | (refine ⟨?_, ?_⟩ <;> omega) | trivial)⟩
  · refine wa_iconst B 0 dX10_takeSystemName_8 (by decide) ?_
    exact hret _ _ _ _ dX10_takeSystemName_9 (Or.inl rfl) ⟨hV_q_1, hF_q_1, (by have h9 : (0 : Int32).toInt = 0 := rfl; first | omega | (refine ⟨?_, ?_⟩ <;> omega) | trivial)⟩
theorem iq_X10_takeUnitName_X10 : ∀ w ∈ wsX100, w ∈ wsX10_takeUnitName := fun _ h => List.mem_cons_of_mem _ (List.mem_append_left _ (List.mem_append_left _ (List.mem_append_right _ h)))
theorem iq_X10_takeUnitName_X8 : ∀ w ∈ wsX80, w ∈ wsX10_takeUnitName := fun _ h => List.mem_cons_of_mem _ (List.mem_append_left _ (List.mem_append_right _ h))
set_option maxHeartbeats 4000000 in
set_option maxRecDepth 100000 in
theorem k_X10_takeUnitName (l : Launch) (dC : Nat → ClassId) (dI : Nat → Nat → Nat) (h : Sh) (L : List Nat) (hN : sx_nd L) (q : Sg) (hV : sx_V h L q) {a0 : Nat} (ha0 : a0 ∈ L) (ka0 : h.1 a0 = 10) {a1 : Nat} (ha1 : a1 ∈ L) (ka1 : h.1 a1 = 9)   : CMi l dC dI h L yX10_takeUnitName wsX10_takeUnitName ({ frames := 3, cells := 0, slots := 0, locals := 67 } : Room) q [.ref a0, .ref a1] (fun r q' => sx_V h L q' ∧ sx_fr h L (fun a => h.1 a = 10 ∨ h.1 a = 8 ∨ h.1 a = 9 ∨ h.1 a = 201 ∨ h.1 a = 101 ∨ h.1 a = 202 ∨ h.1 a = 102 ∨ h.1 a = 103 ∨ h.1 a = 104) q q' ∧ (r.toInt = 0 ∨ r.toInt = 1)) := by
  refine cm_z (cc := cX10_takeUnitName) (mL := 2) (own := RX10) hN (by decide) rfl rfl (Nat.le_of_ble_eq_true rfl) (fun Z B hret => ?_)
  have hF : sx_fr h L (fun a => h.1 a = 10 ∨ h.1 a = 8 ∨ h.1 a = 9 ∨ h.1 a = 201 ∨ h.1 a = 101 ∨ h.1 a = 202 ∨ h.1 a = 102 ∨ h.1 a = 103 ∨ h.1 a = 104) q q := sx_fr.rf
  show WA l dC dI h L ({ frames := 3, cells := 0, slots := 0, locals := 67 } : Room) 2 Z q 0 [(0, .ref a0), (1, .ref a1)] []
  refine wa_aload_n B dX10_takeUnitName_0 rfl 0 rfl ?_
  refine wa_aload_n B dX10_takeUnitName_1 rfl 1 rfl ?_
  refine wa_callVi B (x := (RX10, TX10, 3)) (As := [.ref a1]) (rest := []) (k_X10_isNewName l dC dI h L hN q hV (a0 := a0) ha0 ka0 (a1 := a1) ha1 ka1  ) (cwV 1 B.1.2.2.2.2 gX10_takeUnitName_X10_isNewName rfl rfl rfl (by decide +kernel) ⟨Nat.le_of_ble_eq_true rfl, Nat.le_of_ble_eq_true rfl⟩) ha0 ka0 (by decide) rfl rfl rfl (Nat.le_of_ble_eq_true rfl) dX10_takeUnitName_2 (fun r_2 q_1 w_3 => ?_)
  obtain ⟨hV_q_1, h2_q_1, hw_3⟩ := w_3
  have hF_q_1 : sx_fr h L (fun a => h.1 a = 10 ∨ h.1 a = 8 ∨ h.1 a = 9 ∨ h.1 a = 201 ∨ h.1 a = 101 ∨ h.1 a = 202 ∨ h.1 a = 102 ∨ h.1 a = 103 ∨ h.1 a = 104) q q_1 := hF.tr (h2_q_1.mono (fun a (z : a = a0 ∧ h.1 a = 10 ∨ h.1 a = 8) => (show h.1 a = 10 ∨ h.1 a = 8 ∨ h.1 a = 9 ∨ h.1 a = 201 ∨ h.1 a = 101 ∨ h.1 a = 202 ∨ h.1 a = 102 ∨ h.1 a = 103 ∨ h.1 a = 104 from by omega)))
  refine wa_if_ne B 10 dX10_takeUnitName_5 (by decide) (fun (t_4 : ¬ r_2.toInt = 0) => ?_) (fun (t_4 : r_2.toInt = 0) => ?_)
  · refine wa_aload_n B dX10_takeUnitName_10 rfl 1 rfl ?_
    refine wa_aload_n B dX10_takeUnitName_11 rfl 0 rfl ?_
    obtain ⟨a_5, ea_5, ha_5, ka_5⟩ := hV_q_1.ref (t := 8) ha0 ka0 0 rfl (by decide)
    refine wa_getR B (C := RX10) (T := TX10) (N := 3) iq_X10_takeUnitName_X10 ha0 ka0 (by decide) rfl 0 (by decide) (by decide) (by decide +kernel) rfl (fun _ _ _ => rfl) (v := a_5) ea_5 dX10_takeUnitName_12 ?_
    refine wa_getJ B (C := RX8) (T := TX8) (N := 11) iq_X10_takeUnitName_X8 ha_5 ka_5 (by decide) rfl 2 (by decide) (by decide) (by decide +kernel) rfl (by decide) (v := (q_1.2.1 a_5 2)) rfl dX10_takeUnitName_15 ?_
    refine wa_aload_n B dX10_takeUnitName_18 rfl 0 rfl ?_
    refine wa_getI B (C := RX10) (T := TX10) (N := 3) iq_X10_takeUnitName_X10 ha0 ka0 (by decide) rfl 2 (by decide) (by decide) (by decide +kernel) rfl (by decide) (v := (q_1.1 a0 2)) rfl dX10_takeUnitName_19 ?_
    refine wa_callVv B (x := (RX9, TX9, 7)) (As := [.long (q_1.2.1 a_5 2), .int (q_1.1 a0 2)]) (rest := []) (k_X9_addUnit l dC dI h L hN q_1 hV_q_1 (a0 := a1) ha1 ka1 (q_1.2.1 a_5 2) (q_1.1 a0 2)  ) (cwV 2 B.1.2.2.2.2 gX10_takeUnitName_X9_addUnit rfl rfl rfl (by decide +kernel) ⟨Nat.le_of_ble_eq_true rfl, Nat.le_of_ble_eq_true rfl⟩) ha1 ka1 (by decide) rfl rfl rfl (Nat.le_of_ble_eq_true rfl) dX10_takeUnitName_22 (fun q_6 w_7 => ?_)
    obtain ⟨hV_q_6, h2_q_6⟩ := w_7
    have hF_q_6 : sx_fr h L (fun a => h.1 a = 10 ∨ h.1 a = 8 ∨ h.1 a = 9 ∨ h.1 a = 201 ∨ h.1 a = 101 ∨ h.1 a = 202 ∨ h.1 a = 102 ∨ h.1 a = 103 ∨ h.1 a = 104) q q_6 := hF_q_1.tr (h2_q_6.mono (fun a (z : h.1 a = 202 ∨ h.1 a = 102 ∨ h.1 a = 103 ∨ h.1 a = 104 ∨ h.1 a = 101) => (show h.1 a = 10 ∨ h.1 a = 8 ∨ h.1 a = 9 ∨ h.1 a = 201 ∨ h.1 a = 101 ∨ h.1 a = 202 ∨ h.1 a = 102 ∨ h.1 a = 103 ∨ h.1 a = 104 from by omega)))
    refine wa_aload_n B dX10_takeUnitName_25 rfl 0 rfl ?_
    refine wa_iconst B 4 dX10_takeUnitName_26 (by decide) ?_
    refine wa_putI B (C := RX10) (T := TX10) (N := 3) iq_X10_takeUnitName_X10 ha0 ka0 (by decide) rfl 1 (by decide) (by decide) (by decide +kernel) rfl (by decide) (v := 4) (ty := .int) tyX10 tyX10_ok nmX10 rfl (by decide +kernel) rfl rfl dX10_takeUnitName_27 (fun q_8 eq_8 => ?_)
    have hV_q_8 : sx_V h L q_8 := by rw [eq_8]; exact hV_q_6.pI ka0 trivial
    have hF_q_8 : sx_fr h L (fun a => h.1 a = 10 ∨ h.1 a = 8 ∨ h.1 a = 9 ∨ h.1 a = 201 ∨ h.1 a = 101 ∨ h.1 a = 202 ∨ h.1 a = 102 ∨ h.1 a = 103 ∨ h.1 a = 104) q q_8 := hF_q_6.tr (by rw [eq_8]; exact sx_fr.pI (show h.1 a0 = 10 ∨ h.1 a0 = 8 ∨ h.1 a0 = 9 ∨ h.1 a0 = 201 ∨ h.1 a0 = 101 ∨ h.1 a0 = 202 ∨ h.1 a0 = 102 ∨ h.1 a0 = 103 ∨ h.1 a0 = 104 from by omega))
    have z_9 : q_8.1 a0 1 = 4 := by rw [eq_8]; exact sg_pI_e
    refine wa_iconst B 1 dX10_takeUnitName_30 (by decide) ?_
    exact hret _ _ _ _ dX10_takeUnitName_31 (Or.inr rfl) ⟨hV_q_8, hF_q_8, (by have h9 : (1 : Int32).toInt = 1 := rfl; first | omega | (refine ⟨?_, ?_⟩ <;> omega) | trivial)⟩
  · refine wa_iconst B 0 dX10_takeUnitName_8 (by decide) ?_
    exact hret _ _ _ _ dX10_takeUnitName_9 (Or.inl rfl) ⟨hV_q_1, hF_q_1, (by have h9 : (0 : Int32).toInt = 0 := rfl; first | omega | (refine ⟨?_, ?_⟩ <;> omega) | trivial)⟩
theorem iq_X10_takeFactor_X10 : ∀ w ∈ wsX100, w ∈ wsX10_takeFactor := fun _ h => List.mem_cons_of_mem _ (List.mem_append_left _ (List.mem_append_left _ (List.mem_append_right _ h)))
theorem iq_X10_takeFactor_X8 : ∀ w ∈ wsX80, w ∈ wsX10_takeFactor := fun _ h => List.mem_cons_of_mem _ (List.mem_append_left _ (List.mem_append_right _ h))
set_option maxHeartbeats 4000000 in
set_option maxRecDepth 100000 in
theorem k_X10_takeFactor (l : Launch) (dC : Nat → ClassId) (dI : Nat → Nat → Nat) (h : Sh) (L : List Nat) (hN : sx_nd L) (q : Sg) (hV : sx_V h L q) {a0 : Nat} (ha0 : a0 ∈ L) (ka0 : h.1 a0 = 10) {a1 : Nat} (ha1 : a1 ∈ L) (ka1 : h.1 a1 = 9)   : CMi l dC dI h L yX10_takeFactor wsX10_takeFactor ({ frames := 1, cells := 0, slots := 0, locals := 22 } : Room) q [.ref a0, .ref a1] (fun r q' => sx_V h L q' ∧ sx_fr h L (fun a => a = a0 ∧ h.1 a = 10 ∨ h.1 a = 8) q q' ∧ (r.toInt = 0 ∨ r.toInt = 1)) := by
  refine cm_z (cc := cX10_takeFactor) (mL := 2) (own := RX10) hN (by decide) rfl rfl (Nat.le_of_ble_eq_true rfl) (fun Z B hret => ?_)
  have hF : sx_fr h L (fun a => a = a0 ∧ h.1 a = 10 ∨ h.1 a = 8) q q := sx_fr.rf
  show WA l dC dI h L ({ frames := 1, cells := 0, slots := 0, locals := 22 } : Room) 2 Z q 0 [(0, .ref a0), (1, .ref a1)] []
  refine wa_aload_n B dX10_takeFactor_0 rfl 0 rfl ?_
  refine wa_aload_n B dX10_takeFactor_1 rfl 0 rfl ?_
  obtain ⟨a_1, ea_1, ha_1, ka_1⟩ := hV.ref (t := 8) ha0 ka0 0 rfl (by decide)
  refine wa_getR B (C := RX10) (T := TX10) (N := 3) iq_X10_takeFactor_X10 ha0 ka0 (by decide) rfl 0 (by decide) (by decide) (by decide +kernel) rfl (fun _ _ _ => rfl) (v := a_1) ea_1 dX10_takeFactor_2 ?_
  refine wa_callVi B (x := (RX8, TX8, 11)) (As := []) (rest := [.ref a0]) (k_X8_number l dC dI h L hN q hV (a0 := a_1) ha_1 ka_1  ) (cwV 0 B.1.2.2.2.2 gX10_takeFactor_X8_number rfl rfl rfl (by decide +kernel) ⟨Nat.le_of_ble_eq_true rfl, Nat.le_of_ble_eq_true rfl⟩) ha_1 ka_1 (by decide) rfl rfl rfl (Nat.le_of_ble_eq_true rfl) dX10_takeFactor_5 (fun r_3 q_2 w_4 => ?_)
  subst w_4
  refine wa_putI B (C := RX10) (T := TX10) (N := 3) iq_X10_takeFactor_X10 ha0 ka0 (by decide) rfl 2 (by decide) (by decide) (by decide +kernel) rfl (by decide) (v := r_3) (ty := .int) tyX10 tyX10_ok nmX10 rfl (by decide +kernel) rfl rfl dX10_takeFactor_8 (fun q_5 eq_5 => ?_)
  have hV_q_5 : sx_V h L q_5 := by rw [eq_5]; exact hV.pI ka0 trivial
  have hF_q_5 : sx_fr h L (fun a => a = a0 ∧ h.1 a = 10 ∨ h.1 a = 8) q q_5 := hF.tr (by rw [eq_5]; exact sx_fr.pI (show a0 = a0 ∧ h.1 a0 = 10 ∨ h.1 a0 = 8 from by omega))
  have z_6 : q_5.1 a0 2 = r_3 := by rw [eq_5]; exact sg_pI_e
  refine wa_aload_n B dX10_takeFactor_11 rfl 0 rfl ?_
  refine wa_getI B (C := RX10) (T := TX10) (N := 3) iq_X10_takeFactor_X10 ha0 ka0 (by decide) rfl 2 (by decide) (by decide) (by decide +kernel) rfl (by decide) (v := r_3) z_6 dX10_takeFactor_12 ?_
  refine wa_iconst B 2 dX10_takeFactor_15 (by decide) ?_
  refine wa_icmp_lt B 28 dX10_takeFactor_16 (by decide) (fun (t_7 : r_3.toInt < 2) => ?_) (fun (t_7 : ¬ r_3.toInt < 2) => ?_)
  · refine wa_aload_n B dX10_takeFactor_28 rfl 0 rfl ?_
    have z_8 : q_5.2.2.1 a0 0 = a_1 := ((show q_5.2.2.1 a0 0 = q.2.2.1 a0 0 from by rw [eq_5]; rfl)).trans (ea_1)
    refine wa_getR B (C := RX10) (T := TX10) (N := 3) iq_X10_takeFactor_X10 ha0 ka0 (by decide) rfl 0 (by decide) (by decide) (by decide +kernel) rfl (fun _ _ _ => rfl) (v := a_1) z_8 dX10_takeFactor_29 ?_
    refine wa_iconst B 2 dX10_takeFactor_32 (by decide) ?_
    refine wa_aload_n B dX10_takeFactor_33 rfl 0 rfl ?_
    refine wa_getR B (C := RX10) (T := TX10) (N := 3) iq_X10_takeFactor_X10 ha0 ka0 (by decide) rfl 0 (by decide) (by decide) (by decide +kernel) rfl (fun _ _ _ => rfl) (v := a_1) z_8 dX10_takeFactor_34 ?_
    refine wa_getI B (C := RX8) (T := TX8) (N := 11) iq_X10_takeFactor_X8 ha_1 ka_1 (by decide) rfl 1 (by decide) (by decide) (by decide +kernel) rfl (by decide) (v := (q_5.1 a_1 1)) rfl dX10_takeFactor_37 ?_
    refine wa_callVi B (x := (RX8, TX8, 11)) (As := [.int 2, .int (q_5.1 a_1 1)]) (rest := []) (k_X8_refuse l dC dI h L hN q_5 hV_q_5 (a0 := a_1) ha_1 ka_1 2 (q_5.1 a_1 1)  ) (cwV 2 B.1.2.2.2.2 gX10_takeFactor_X8_refuse rfl rfl rfl (by decide +kernel) ⟨Nat.le_of_ble_eq_true rfl, Nat.le_of_ble_eq_true rfl⟩) ha_1 ka_1 (by decide) rfl rfl rfl (Nat.le_of_ble_eq_true rfl) dX10_takeFactor_40 (fun r_10 q_9 w_11 => ?_)
    obtain ⟨hV_q_9, h2_q_9, hw_11⟩ := w_11
    have hF_q_9 : sx_fr h L (fun a => a = a0 ∧ h.1 a = 10 ∨ h.1 a = 8) q q_9 := hF_q_5.tr (h2_q_9.mono (fun a (z : a = a_1 ∧ h.1 a = 8) => (show a = a0 ∧ h.1 a = 10 ∨ h.1 a = 8 from by omega)))
    exact hret _ _ _ _ dX10_takeFactor_43 (zx_01 (by omega)) ⟨hV_q_9, hF_q_9, (by first | omega | (refine ⟨?_, ?_⟩ <;> omega) | trivial)⟩
  · refine wa_aload_n B dX10_takeFactor_19 rfl 0 rfl ?_
    refine wa_getI B (C := RX10) (T := TX10) (N := 3) iq_X10_takeFactor_X10 ha0 ka0 (by decide) rfl 2 (by decide) (by decide) (by decide +kernel) rfl (by decide) (v := r_3) z_6 dX10_takeFactor_20 ?_
    refine wa_bipush B 60 dX10_takeFactor_23 (by decide) ?_
    refine wa_icmp_le B 44 dX10_takeFactor_25 (by decide) (fun (t_12 : r_3.toInt ≤ 60) => ?_) (fun (t_12 : ¬ r_3.toInt ≤ 60) => ?_)
    · refine wa_aload_n B dX10_takeFactor_44 rfl 0 rfl ?_
      refine wa_iconst B 3 dX10_takeFactor_45 (by decide) ?_
      refine wa_putI B (C := RX10) (T := TX10) (N := 3) iq_X10_takeFactor_X10 ha0 ka0 (by decide) rfl 1 (by decide) (by decide) (by decide +kernel) rfl (by decide) (v := 3) (ty := .int) tyX10 tyX10_ok nmX10 rfl (by decide +kernel) rfl rfl dX10_takeFactor_46 (fun q_13 eq_13 => ?_)
      have hV_q_13 : sx_V h L q_13 := by rw [eq_13]; exact hV_q_5.pI ka0 trivial
      have hF_q_13 : sx_fr h L (fun a => a = a0 ∧ h.1 a = 10 ∨ h.1 a = 8) q q_13 := hF_q_5.tr (by rw [eq_13]; exact sx_fr.pI (show a0 = a0 ∧ h.1 a0 = 10 ∨ h.1 a0 = 8 from by omega))
      have z_14 : q_13.1 a0 1 = 3 := by rw [eq_13]; exact sg_pI_e
      refine wa_aload_n B dX10_takeFactor_49 rfl 1 rfl ?_
      obtain ⟨a_15, ea_15, ha_15, ka_15, la_15⟩ := hV_q_13.refn (n := 3) (t := 101) ha1 ka1 1 rfl (by decide) rfl (by decide)
      refine wa_callVi B (x := (RX9, TX9, 7)) (As := []) (rest := []) (k_X9_isFull l dC dI h L hN q_13 hV_q_13 (a0 := a1) ha1 ka1 (b0 := a_15) ea_15  ) (cwV 0 B.1.2.2.2.2 gX10_takeFactor_X9_isFull rfl rfl rfl (by decide +kernel) ⟨Nat.le_of_ble_eq_true rfl, Nat.le_of_ble_eq_true rfl⟩) ha1 ka1 (by decide) rfl rfl rfl (Nat.le_of_ble_eq_true rfl) dX10_takeFactor_50 (fun r_17 q_16 w_18 => ?_)
      obtain ⟨ew_18, hw_18⟩ := w_18
      subst ew_18
      refine wa_if_eq B 74 dX10_takeFactor_53 (by decide) (fun (t_19 : r_17.toInt = 0) => ?_) (fun (t_19 : ¬ r_17.toInt = 0) => ?_)
      · refine wa_iconst B 1 dX10_takeFactor_74 (by decide) ?_
        refine wa_goto B 79 dX10_takeFactor_75 (by decide) ?_
        exact hret _ _ _ _ dX10_takeFactor_79 (Or.inr rfl) ⟨hV_q_13, hF_q_13, (by have h9 : (1 : Int32).toInt = 1 := rfl; first | omega | (refine ⟨?_, ?_⟩ <;> omega) | trivial)⟩
      · refine wa_aload_n B dX10_takeFactor_56 rfl 0 rfl ?_
        have z_20 : q_13.2.2.1 a0 0 = a_1 := ((show q_13.2.2.1 a0 0 = q_5.2.2.1 a0 0 from by rw [eq_13]; rfl)).trans (((show q_5.2.2.1 a0 0 = q.2.2.1 a0 0 from by rw [eq_5]; rfl)).trans (ea_1))
        refine wa_getR B (C := RX10) (T := TX10) (N := 3) iq_X10_takeFactor_X10 ha0 ka0 (by decide) rfl 0 (by decide) (by decide) (by decide +kernel) rfl (fun _ _ _ => rfl) (v := a_1) z_20 dX10_takeFactor_57 ?_
        refine wa_iconst B 4 dX10_takeFactor_60 (by decide) ?_
        refine wa_aload_n B dX10_takeFactor_61 rfl 0 rfl ?_
        refine wa_getR B (C := RX10) (T := TX10) (N := 3) iq_X10_takeFactor_X10 ha0 ka0 (by decide) rfl 0 (by decide) (by decide) (by decide +kernel) rfl (fun _ _ _ => rfl) (v := a_1) z_20 dX10_takeFactor_62 ?_
        refine wa_getI B (C := RX8) (T := TX8) (N := 11) iq_X10_takeFactor_X8 ha_1 ka_1 (by decide) rfl 1 (by decide) (by decide) (by decide +kernel) rfl (by decide) (v := (q_13.1 a_1 1)) rfl dX10_takeFactor_65 ?_
        refine wa_callVi B (x := (RX8, TX8, 11)) (As := [.int 4, .int (q_13.1 a_1 1)]) (rest := []) (k_X8_refuse l dC dI h L hN q_13 hV_q_13 (a0 := a_1) ha_1 ka_1 4 (q_13.1 a_1 1)  ) (cwV 2 B.1.2.2.2.2 gX10_takeFactor_X8_refuse rfl rfl rfl (by decide +kernel) ⟨Nat.le_of_ble_eq_true rfl, Nat.le_of_ble_eq_true rfl⟩) ha_1 ka_1 (by decide) rfl rfl rfl (Nat.le_of_ble_eq_true rfl) dX10_takeFactor_68 (fun r_22 q_21 w_23 => ?_)
        obtain ⟨hV_q_21, h2_q_21, hw_23⟩ := w_23
        have hF_q_21 : sx_fr h L (fun a => a = a0 ∧ h.1 a = 10 ∨ h.1 a = 8) q q_21 := hF_q_13.tr (h2_q_21.mono (fun a (z : a = a_1 ∧ h.1 a = 8) => (show a = a0 ∧ h.1 a = 10 ∨ h.1 a = 8 from by omega)))
        refine wa_if_eq B 78 dX10_takeFactor_71 (by decide) (fun (t_24 : r_22.toInt = 0) => ?_) (fun (t_24 : ¬ r_22.toInt = 0) => ?_)
        · refine wa_iconst B 0 dX10_takeFactor_78 (by decide) ?_
          exact hret _ _ _ _ dX10_takeFactor_79 (Or.inl rfl) ⟨hV_q_21, hF_q_21, (by have h9 : (0 : Int32).toInt = 0 := rfl; first | omega | (refine ⟨?_, ?_⟩ <;> omega) | trivial)⟩
        · refine wa_iconst B 1 dX10_takeFactor_74 (by decide) ?_
          refine wa_goto B 79 dX10_takeFactor_75 (by decide) ?_
          exact hret _ _ _ _ dX10_takeFactor_79 (Or.inr rfl) ⟨hV_q_21, hF_q_21, (by have h9 : (1 : Int32).toInt = 1 := rfl; first | omega | (refine ⟨?_, ?_⟩ <;> omega) | trivial)⟩
    · refine wa_aload_n B dX10_takeFactor_28 rfl 0 rfl ?_
      have z_25 : q_5.2.2.1 a0 0 = a_1 := ((show q_5.2.2.1 a0 0 = q.2.2.1 a0 0 from by rw [eq_5]; rfl)).trans (ea_1)
      refine wa_getR B (C := RX10) (T := TX10) (N := 3) iq_X10_takeFactor_X10 ha0 ka0 (by decide) rfl 0 (by decide) (by decide) (by decide +kernel) rfl (fun _ _ _ => rfl) (v := a_1) z_25 dX10_takeFactor_29 ?_
      refine wa_iconst B 2 dX10_takeFactor_32 (by decide) ?_
      refine wa_aload_n B dX10_takeFactor_33 rfl 0 rfl ?_
      refine wa_getR B (C := RX10) (T := TX10) (N := 3) iq_X10_takeFactor_X10 ha0 ka0 (by decide) rfl 0 (by decide) (by decide) (by decide +kernel) rfl (fun _ _ _ => rfl) (v := a_1) z_25 dX10_takeFactor_34 ?_
      refine wa_getI B (C := RX8) (T := TX8) (N := 11) iq_X10_takeFactor_X8 ha_1 ka_1 (by decide) rfl 1 (by decide) (by decide) (by decide +kernel) rfl (by decide) (v := (q_5.1 a_1 1)) rfl dX10_takeFactor_37 ?_
      refine wa_callVi B (x := (RX8, TX8, 11)) (As := [.int 2, .int (q_5.1 a_1 1)]) (rest := []) (k_X8_refuse l dC dI h L hN q_5 hV_q_5 (a0 := a_1) ha_1 ka_1 2 (q_5.1 a_1 1)  ) (cwV 2 B.1.2.2.2.2 gX10_takeFactor_X8_refuse rfl rfl rfl (by decide +kernel) ⟨Nat.le_of_ble_eq_true rfl, Nat.le_of_ble_eq_true rfl⟩) ha_1 ka_1 (by decide) rfl rfl rfl (Nat.le_of_ble_eq_true rfl) dX10_takeFactor_40 (fun r_27 q_26 w_28 => ?_)
      obtain ⟨hV_q_26, h2_q_26, hw_28⟩ := w_28
      have hF_q_26 : sx_fr h L (fun a => a = a0 ∧ h.1 a = 10 ∨ h.1 a = 8) q q_26 := hF_q_5.tr (h2_q_26.mono (fun a (z : a = a_1 ∧ h.1 a = 8) => (show a = a0 ∧ h.1 a = 10 ∨ h.1 a = 8 from by omega)))
      exact hret _ _ _ _ dX10_takeFactor_43 (zx_01 (by omega)) ⟨hV_q_26, hF_q_26, (by first | omega | (refine ⟨?_, ?_⟩ <;> omega) | trivial)⟩
theorem iq_X10_takeToken_X10 : ∀ w ∈ wsX100, w ∈ wsX10_takeToken := fun _ h => List.mem_cons_of_mem _ (List.mem_append_left _ (List.mem_append_left _ (List.mem_append_right _ h)))
theorem iq_X10_takeToken_X8 : ∀ w ∈ wsX80, w ∈ wsX10_takeToken := fun _ h => List.mem_cons_of_mem _ (List.mem_append_left _ (List.mem_append_right _ h))
set_option maxHeartbeats 4000000 in
set_option maxRecDepth 100000 in
theorem k_X10_takeToken (l : Launch) (dC : Nat → ClassId) (dI : Nat → Nat → Nat) (h : Sh) (L : List Nat) (hN : sx_nd L) (q : Sg) (hV : sx_V h L q) {a0 : Nat} (ha0 : a0 ∈ L) (ka0 : h.1 a0 = 10) {a1 : Nat} (ha1 : a1 ∈ L) (ka1 : h.1 a1 = 9)   : CMi l dC dI h L yX10_takeToken wsX10_takeToken ({ frames := 4, cells := 0, slots := 0, locals := 88 } : Room) q [.ref a0, .ref a1] (fun r q' => sx_V h L q' ∧ sx_fr h L (fun a => h.1 a = 10 ∨ h.1 a = 8 ∨ h.1 a = 9 ∨ h.1 a = 201 ∨ h.1 a = 101 ∨ h.1 a = 202 ∨ h.1 a = 102 ∨ h.1 a = 103 ∨ h.1 a = 104) q q' ∧ (r.toInt = 0 ∨ r.toInt = 1)) := by
  refine cm_z (cc := cX10_takeToken) (mL := 2) (own := RX10) hN (by decide) rfl rfl (Nat.le_of_ble_eq_true rfl) (fun Z B hret => ?_)
  have hF : sx_fr h L (fun a => h.1 a = 10 ∨ h.1 a = 8 ∨ h.1 a = 9 ∨ h.1 a = 201 ∨ h.1 a = 101 ∨ h.1 a = 202 ∨ h.1 a = 102 ∨ h.1 a = 103 ∨ h.1 a = 104) q q := sx_fr.rf
  show WA l dC dI h L ({ frames := 4, cells := 0, slots := 0, locals := 88 } : Room) 2 Z q 0 [(0, .ref a0), (1, .ref a1)] []
  refine wa_aload_n B dX10_takeToken_0 rfl 0 rfl ?_
  refine wa_getI B (C := RX10) (T := TX10) (N := 3) iq_X10_takeToken_X10 ha0 ka0 (by decide) rfl 1 (by decide) (by decide) (by decide +kernel) rfl (by decide) (v := (q.1 a0 1)) rfl dX10_takeToken_1 ?_
  rcases (show ((q.1 a0 1).toInt < 0 ∨ 3 < (q.1 a0 1).toInt) ∨ (q.1 a0 1).toInt = 0 ∨ (q.1 a0 1).toInt = 1 ∨ (q.1 a0 1).toInt = 2 ∨ (q.1 a0 1).toInt = 3 by omega) with t_1 | t_1 | t_1 | t_1 | t_1
  · refine wa_tswOut B 73 dX10_takeToken_4 (by first | omega | exact t_1) (by decide) ?_
    refine wa_aload_n B dX10_takeToken_73 rfl 0 rfl ?_
    obtain ⟨a_2, ea_2, ha_2, ka_2⟩ := hV.ref (t := 8) ha0 ka0 0 rfl (by decide)
    refine wa_getR B (C := RX10) (T := TX10) (N := 3) iq_X10_takeToken_X10 ha0 ka0 (by decide) rfl 0 (by decide) (by decide) (by decide +kernel) rfl (fun _ _ _ => rfl) (v := a_2) ea_2 dX10_takeToken_74 ?_
    refine wa_getI B (C := RX8) (T := TX8) (N := 11) iq_X10_takeToken_X8 ha_2 ka_2 (by decide) rfl 0 (by decide) (by decide) (by decide +kernel) rfl (by decide) (v := (q.1 a_2 0)) rfl dX10_takeToken_77 ?_
    refine wa_iconst B 3 dX10_takeToken_80 (by decide) ?_
    refine wa_icmp_ne B 92 dX10_takeToken_81 (by decide) (fun (t_3 : ¬ (q.1 a_2 0).toInt = 3) => ?_) (fun (t_3 : (q.1 a_2 0).toInt = 3) => ?_)
    · refine wa_aload_n B dX10_takeToken_92 rfl 0 rfl ?_
      refine wa_callVi B (x := (RX10, TX10, 3)) (As := []) (rest := []) (k_X10_endSystem l dC dI h L hN q hV (a0 := a0) ha0 ka0  ) (cwV 0 B.1.2.2.2.2 gX10_takeToken_X10_endSystem rfl rfl rfl (by decide +kernel) ⟨Nat.le_of_ble_eq_true rfl, Nat.le_of_ble_eq_true rfl⟩) ha0 ka0 (by decide) rfl rfl rfl (Nat.le_of_ble_eq_true rfl) dX10_takeToken_93 (fun r_5 q_4 w_6 => ?_)
      obtain ⟨hV_q_4, h2_q_4, hw_6⟩ := w_6
      have hF_q_4 : sx_fr h L (fun a => h.1 a = 10 ∨ h.1 a = 8 ∨ h.1 a = 9 ∨ h.1 a = 201 ∨ h.1 a = 101 ∨ h.1 a = 202 ∨ h.1 a = 102 ∨ h.1 a = 103 ∨ h.1 a = 104) q q_4 := hF.tr (h2_q_4.mono (fun a (z : a = a0 ∧ h.1 a = 10 ∨ h.1 a = 8) => (show h.1 a = 10 ∨ h.1 a = 8 ∨ h.1 a = 9 ∨ h.1 a = 201 ∨ h.1 a = 101 ∨ h.1 a = 202 ∨ h.1 a = 102 ∨ h.1 a = 103 ∨ h.1 a = 104 from by omega)))
      exact hret _ _ _ _ dX10_takeToken_96 (zx_01 (by omega)) ⟨hV_q_4, hF_q_4, (by first | omega | (refine ⟨?_, ?_⟩ <;> omega) | trivial)⟩
    · refine wa_aload_n B dX10_takeToken_84 rfl 0 rfl ?_
      refine wa_aload_n B dX10_takeToken_85 rfl 1 rfl ?_
      refine wa_callVi B (x := (RX10, TX10, 3)) (As := [.ref a1]) (rest := []) (k_X10_takeFactor l dC dI h L hN q hV (a0 := a0) ha0 ka0 (a1 := a1) ha1 ka1  ) (cwV 1 B.1.2.2.2.2 gX10_takeToken_X10_takeFactor rfl rfl rfl (by decide +kernel) ⟨Nat.le_of_ble_eq_true rfl, Nat.le_of_ble_eq_true rfl⟩) ha0 ka0 (by decide) rfl rfl rfl (Nat.le_of_ble_eq_true rfl) dX10_takeToken_86 (fun r_8 q_7 w_9 => ?_)
      obtain ⟨hV_q_7, h2_q_7, hw_9⟩ := w_9
      have hF_q_7 : sx_fr h L (fun a => h.1 a = 10 ∨ h.1 a = 8 ∨ h.1 a = 9 ∨ h.1 a = 201 ∨ h.1 a = 101 ∨ h.1 a = 202 ∨ h.1 a = 102 ∨ h.1 a = 103 ∨ h.1 a = 104) q q_7 := hF.tr (h2_q_7.mono (fun a (z : a = a0 ∧ h.1 a = 10 ∨ h.1 a = 8) => (show h.1 a = 10 ∨ h.1 a = 8 ∨ h.1 a = 9 ∨ h.1 a = 201 ∨ h.1 a = 101 ∨ h.1 a = 202 ∨ h.1 a = 102 ∨ h.1 a = 103 ∨ h.1 a = 104 from by omega)))
      refine wa_goto B 96 dX10_takeToken_89 (by decide) ?_
      exact hret _ _ _ _ dX10_takeToken_96 (zx_01 (by omega)) ⟨hV_q_7, hF_q_7, (by first | omega | (refine ⟨?_, ?_⟩ <;> omega) | trivial)⟩
  · refine wa_tswIn B 36 0 dX10_takeToken_4 t_1 (by decide) (by decide) rfl (by decide) ?_
    refine wa_aload_n B dX10_takeToken_36 rfl 0 rfl ?_
    refine wa_aload_n B dX10_takeToken_37 rfl 1 rfl ?_
    refine wa_callVi B (x := (RX10, TX10, 3)) (As := [.ref a1]) (rest := []) (k_X10_beginSystem l dC dI h L hN q hV (a0 := a0) ha0 ka0 (a1 := a1) ha1 ka1  ) (cwV 1 B.1.2.2.2.2 gX10_takeToken_X10_beginSystem rfl rfl rfl (by decide +kernel) ⟨Nat.le_of_ble_eq_true rfl, Nat.le_of_ble_eq_true rfl⟩) ha0 ka0 (by decide) rfl rfl rfl (Nat.le_of_ble_eq_true rfl) dX10_takeToken_38 (fun r_11 q_10 w_12 => ?_)
    obtain ⟨hV_q_10, h2_q_10, hw_12⟩ := w_12
    have hF_q_10 : sx_fr h L (fun a => h.1 a = 10 ∨ h.1 a = 8 ∨ h.1 a = 9 ∨ h.1 a = 201 ∨ h.1 a = 101 ∨ h.1 a = 202 ∨ h.1 a = 102 ∨ h.1 a = 103 ∨ h.1 a = 104) q q_10 := hF.tr (h2_q_10.mono (fun a (z : a = a0 ∧ h.1 a = 10 ∨ h.1 a = 8) => (show h.1 a = 10 ∨ h.1 a = 8 ∨ h.1 a = 9 ∨ h.1 a = 201 ∨ h.1 a = 101 ∨ h.1 a = 202 ∨ h.1 a = 102 ∨ h.1 a = 103 ∨ h.1 a = 104 from by omega)))
    exact hret _ _ _ _ dX10_takeToken_41 (zx_01 (by omega)) ⟨hV_q_10, hF_q_10, (by first | omega | (refine ⟨?_, ?_⟩ <;> omega) | trivial)⟩
  · refine wa_tswIn B 42 1 dX10_takeToken_4 t_1 (by decide) (by decide) rfl (by decide) ?_
    refine wa_aload_n B dX10_takeToken_42 rfl 0 rfl ?_
    refine wa_aload_n B dX10_takeToken_43 rfl 1 rfl ?_
    refine wa_callVi B (x := (RX10, TX10, 3)) (As := [.ref a1]) (rest := []) (k_X10_takeSystemName l dC dI h L hN q hV (a0 := a0) ha0 ka0 (a1 := a1) ha1 ka1  ) (cwV 1 B.1.2.2.2.2 gX10_takeToken_X10_takeSystemName rfl rfl rfl (by decide +kernel) ⟨Nat.le_of_ble_eq_true rfl, Nat.le_of_ble_eq_true rfl⟩) ha0 ka0 (by decide) rfl rfl rfl (Nat.le_of_ble_eq_true rfl) dX10_takeToken_44 (fun r_14 q_13 w_15 => ?_)
    obtain ⟨hV_q_13, h2_q_13, hw_15⟩ := w_15
    have hF_q_13 : sx_fr h L (fun a => h.1 a = 10 ∨ h.1 a = 8 ∨ h.1 a = 9 ∨ h.1 a = 201 ∨ h.1 a = 101 ∨ h.1 a = 202 ∨ h.1 a = 102 ∨ h.1 a = 103 ∨ h.1 a = 104) q q_13 := hF.tr (h2_q_13.mono (fun a (z : h.1 a = 10 ∨ h.1 a = 8 ∨ h.1 a = 9 ∨ h.1 a = 201 ∨ h.1 a = 101 ∨ h.1 a = 202 ∨ h.1 a = 102 ∨ h.1 a = 103 ∨ h.1 a = 104) => (show h.1 a = 10 ∨ h.1 a = 8 ∨ h.1 a = 9 ∨ h.1 a = 201 ∨ h.1 a = 101 ∨ h.1 a = 202 ∨ h.1 a = 102 ∨ h.1 a = 103 ∨ h.1 a = 104 from by omega)))
    exact hret _ _ _ _ dX10_takeToken_47 (zx_01 (by omega)) ⟨hV_q_13, hF_q_13, (by first | omega | (refine ⟨?_, ?_⟩ <;> omega) | trivial)⟩
  · refine wa_tswIn B 48 2 dX10_takeToken_4 t_1 (by decide) (by decide) rfl (by decide) ?_
    refine wa_aload_n B dX10_takeToken_48 rfl 0 rfl ?_
    refine wa_iconst B 1 dX10_takeToken_49 (by decide) ?_
    refine wa_putI B (C := RX10) (T := TX10) (N := 3) iq_X10_takeToken_X10 ha0 ka0 (by decide) rfl 2 (by decide) (by decide) (by decide +kernel) rfl (by decide) (v := 1) (ty := .int) tyX10 tyX10_ok nmX10 rfl (by decide +kernel) rfl rfl dX10_takeToken_50 (fun q_16 eq_16 => ?_)
    have hV_q_16 : sx_V h L q_16 := by rw [eq_16]; exact hV.pI ka0 trivial
    have hF_q_16 : sx_fr h L (fun a => h.1 a = 10 ∨ h.1 a = 8 ∨ h.1 a = 9 ∨ h.1 a = 201 ∨ h.1 a = 101 ∨ h.1 a = 202 ∨ h.1 a = 102 ∨ h.1 a = 103 ∨ h.1 a = 104) q q_16 := hF.tr (by rw [eq_16]; exact sx_fr.pI (show h.1 a0 = 10 ∨ h.1 a0 = 8 ∨ h.1 a0 = 9 ∨ h.1 a0 = 201 ∨ h.1 a0 = 101 ∨ h.1 a0 = 202 ∨ h.1 a0 = 102 ∨ h.1 a0 = 103 ∨ h.1 a0 = 104 from by omega))
    have z_17 : q_16.1 a0 2 = 1 := by rw [eq_16]; exact sg_pI_e
    refine wa_aload_n B dX10_takeToken_53 rfl 0 rfl ?_
    refine wa_iconst B 3 dX10_takeToken_54 (by decide) ?_
    refine wa_putI B (C := RX10) (T := TX10) (N := 3) iq_X10_takeToken_X10 ha0 ka0 (by decide) rfl 1 (by decide) (by decide) (by decide +kernel) rfl (by decide) (v := 3) (ty := .int) tyX10 tyX10_ok nmX10 rfl (by decide +kernel) rfl rfl dX10_takeToken_55 (fun q_18 eq_18 => ?_)
    have hV_q_18 : sx_V h L q_18 := by rw [eq_18]; exact hV_q_16.pI ka0 trivial
    have hF_q_18 : sx_fr h L (fun a => h.1 a = 10 ∨ h.1 a = 8 ∨ h.1 a = 9 ∨ h.1 a = 201 ∨ h.1 a = 101 ∨ h.1 a = 202 ∨ h.1 a = 102 ∨ h.1 a = 103 ∨ h.1 a = 104) q q_18 := hF_q_16.tr (by rw [eq_18]; exact sx_fr.pI (show h.1 a0 = 10 ∨ h.1 a0 = 8 ∨ h.1 a0 = 9 ∨ h.1 a0 = 201 ∨ h.1 a0 = 101 ∨ h.1 a0 = 202 ∨ h.1 a0 = 102 ∨ h.1 a0 = 103 ∨ h.1 a0 = 104 from by omega))
    have z_19 : q_18.1 a0 1 = 3 := by rw [eq_18]; exact sg_pI_e
    refine wa_aload_n B dX10_takeToken_58 rfl 0 rfl ?_
    obtain ⟨a_20, ea_20, ha_20, ka_20⟩ := hV_q_18.ref (t := 8) ha0 ka0 0 rfl (by decide)
    refine wa_getR B (C := RX10) (T := TX10) (N := 3) iq_X10_takeToken_X10 ha0 ka0 (by decide) rfl 0 (by decide) (by decide) (by decide +kernel) rfl (fun _ _ _ => rfl) (v := a_20) ea_20 dX10_takeToken_59 ?_
    refine wa_iconst B 4 dX10_takeToken_62 (by decide) ?_
    refine wa_callVi B (x := (RX8, TX8, 11)) (As := [.int 4]) (rest := []) (k_X8_demand l dC dI h L hN q_18 hV_q_18 (a0 := a_20) ha_20 ka_20 4  ) (cwV 1 B.1.2.2.2.2 gX10_takeToken_X8_demand rfl rfl rfl (by decide +kernel) ⟨Nat.le_of_ble_eq_true rfl, Nat.le_of_ble_eq_true rfl⟩) ha_20 ka_20 (by decide) rfl rfl rfl (Nat.le_of_ble_eq_true rfl) dX10_takeToken_63 (fun r_22 q_21 w_23 => ?_)
    obtain ⟨hV_q_21, h2_q_21, hw_23⟩ := w_23
    have hF_q_21 : sx_fr h L (fun a => h.1 a = 10 ∨ h.1 a = 8 ∨ h.1 a = 9 ∨ h.1 a = 201 ∨ h.1 a = 101 ∨ h.1 a = 202 ∨ h.1 a = 102 ∨ h.1 a = 103 ∨ h.1 a = 104) q q_21 := hF_q_18.tr (h2_q_21.mono (fun a (z : a = a_20 ∧ h.1 a = 8) => (show h.1 a = 10 ∨ h.1 a = 8 ∨ h.1 a = 9 ∨ h.1 a = 201 ∨ h.1 a = 101 ∨ h.1 a = 202 ∨ h.1 a = 102 ∨ h.1 a = 103 ∨ h.1 a = 104 from by omega)))
    exact hret _ _ _ _ dX10_takeToken_66 (zx_01 (by omega)) ⟨hV_q_21, hF_q_21, (by first | omega | (refine ⟨?_, ?_⟩ <;> omega) | trivial)⟩
  · refine wa_tswIn B 67 3 dX10_takeToken_4 t_1 (by decide) (by decide) rfl (by decide) ?_
    refine wa_aload_n B dX10_takeToken_67 rfl 0 rfl ?_
    refine wa_aload_n B dX10_takeToken_68 rfl 1 rfl ?_
    refine wa_callVi B (x := (RX10, TX10, 3)) (As := [.ref a1]) (rest := []) (k_X10_takeUnitName l dC dI h L hN q hV (a0 := a0) ha0 ka0 (a1 := a1) ha1 ka1  ) (cwV 1 B.1.2.2.2.2 gX10_takeToken_X10_takeUnitName rfl rfl rfl (by decide +kernel) ⟨Nat.le_of_ble_eq_true rfl, Nat.le_of_ble_eq_true rfl⟩) ha0 ka0 (by decide) rfl rfl rfl (Nat.le_of_ble_eq_true rfl) dX10_takeToken_69 (fun r_25 q_24 w_26 => ?_)
    obtain ⟨hV_q_24, h2_q_24, hw_26⟩ := w_26
    have hF_q_24 : sx_fr h L (fun a => h.1 a = 10 ∨ h.1 a = 8 ∨ h.1 a = 9 ∨ h.1 a = 201 ∨ h.1 a = 101 ∨ h.1 a = 202 ∨ h.1 a = 102 ∨ h.1 a = 103 ∨ h.1 a = 104) q q_24 := hF.tr (h2_q_24.mono (fun a (z : h.1 a = 10 ∨ h.1 a = 8 ∨ h.1 a = 9 ∨ h.1 a = 201 ∨ h.1 a = 101 ∨ h.1 a = 202 ∨ h.1 a = 102 ∨ h.1 a = 103 ∨ h.1 a = 104) => (show h.1 a = 10 ∨ h.1 a = 8 ∨ h.1 a = 9 ∨ h.1 a = 201 ∨ h.1 a = 101 ∨ h.1 a = 202 ∨ h.1 a = 102 ∨ h.1 a = 103 ∨ h.1 a = 104 from by omega)))
    exact hret _ _ _ _ dX10_takeToken_72 (zx_01 (by omega)) ⟨hV_q_24, hF_q_24, (by first | omega | (refine ⟨?_, ?_⟩ <;> omega) | trivial)⟩
theorem iq_X10_read_X10 : ∀ w ∈ wsX100, w ∈ wsX10_read := fun _ h => List.mem_cons_of_mem _ (List.mem_append_left _ (List.mem_append_left _ (List.mem_append_left _ (List.mem_append_right _ h))))
theorem iq_X10_read_X8 : ∀ w ∈ wsX80, w ∈ wsX10_read := fun _ h => List.mem_cons_of_mem _ (List.mem_append_left _ (List.mem_append_left _ (List.mem_append_right _ h)))
theorem iq_X10_read_X9 : ∀ w ∈ wsX90, w ∈ wsX10_read := fun _ h => List.mem_cons_of_mem _ (List.mem_append_left _ (List.mem_append_right _ h))
set_option maxHeartbeats 4000000 in
set_option maxRecDepth 100000 in
theorem k_X10_read (l : Launch) (dC : Nat → ClassId) (dI : Nat → Nat → Nat) (h : Sh) (L : List Nat) (hN : sx_nd L) (q : Sg) (hV : sx_V h L q) {a0 : Nat} (ha0 : a0 ∈ L) (ka0 : h.1 a0 = 10) {a1 : Nat} (ha1 : a1 ∈ L) (ka1 : h.1 a1 = 7) {a2 : Nat} (ha2 : a2 ∈ L) (ka2 : h.1 a2 = 9)   : CMi l dC dI h L yX10_read wsX10_read ({ frames := 5, cells := 0, slots := 0, locals := 109 } : Room) q [.ref a0, .ref a1, .ref a2] (fun r q' => sx_V h L q' ∧ sx_fr h L (fun a => h.1 a = 10 ∨ h.1 a = 8 ∨ h.1 a = 9 ∨ h.1 a = 201 ∨ h.1 a = 101 ∨ h.1 a = 202 ∨ h.1 a = 102 ∨ h.1 a = 103 ∨ h.1 a = 104) q q' ∧ (r.toInt = 0 ∨ r.toInt = 1)) := by
  refine cm_z (cc := cX10_read) (mL := 4) (own := RX10) hN (by decide) rfl rfl (Nat.le_of_ble_eq_true rfl) (fun Z B hret => ?_)
  have hF : sx_fr h L (fun a => h.1 a = 10 ∨ h.1 a = 8 ∨ h.1 a = 9 ∨ h.1 a = 201 ∨ h.1 a = 101 ∨ h.1 a = 202 ∨ h.1 a = 102 ∨ h.1 a = 103 ∨ h.1 a = 104) q q := sx_fr.rf
  show WA l dC dI h L ({ frames := 5, cells := 0, slots := 0, locals := 109 } : Room) 4 Z q 0 [(0, .ref a0), (1, .ref a1), (2, .ref a2)] []
  refine wa_aload_n B dX10_read_0 rfl 2 rfl ?_
  refine wa_callVv B (x := (RX9, TX9, 7)) (As := []) (rest := []) (k_X9_clear l dC dI h L hN q hV (a0 := a2) ha2 ka2  ) (cwV 0 B.1.2.2.2.2 gX10_read_X9_clear rfl rfl rfl (by decide +kernel) ⟨Nat.le_of_ble_eq_true rfl, Nat.le_of_ble_eq_true rfl⟩) ha2 ka2 (by decide) rfl rfl rfl (Nat.le_of_ble_eq_true rfl) dX10_read_1 (fun q_1 w_2 => ?_)
  obtain ⟨hV_q_1, h2_q_1⟩ := w_2
  have hF_q_1 : sx_fr h L (fun a => h.1 a = 10 ∨ h.1 a = 8 ∨ h.1 a = 9 ∨ h.1 a = 201 ∨ h.1 a = 101 ∨ h.1 a = 202 ∨ h.1 a = 102 ∨ h.1 a = 103 ∨ h.1 a = 104) q q_1 := hF.tr (h2_q_1.mono (fun a (z : a = a2 ∧ h.1 a = 9 ∨ h.1 a = 201 ∨ h.1 a = 101 ∨ h.1 a = 202) => (show h.1 a = 10 ∨ h.1 a = 8 ∨ h.1 a = 9 ∨ h.1 a = 201 ∨ h.1 a = 101 ∨ h.1 a = 202 ∨ h.1 a = 102 ∨ h.1 a = 103 ∨ h.1 a = 104 from by omega)))
  refine wa_aload_n B dX10_read_4 rfl 0 rfl ?_
  obtain ⟨a_3, ea_3, ha_3, ka_3⟩ := hV_q_1.ref (t := 8) ha0 ka0 0 rfl (by decide)
  refine wa_getR B (C := RX10) (T := TX10) (N := 3) iq_X10_read_X10 ha0 ka0 (by decide) rfl 0 (by decide) (by decide) (by decide +kernel) rfl (fun _ _ _ => rfl) (v := a_3) ea_3 dX10_read_5 ?_
  refine wa_aload_n B dX10_read_8 rfl 1 rfl ?_
  refine wa_sipush B 400 dX10_read_9 (by decide) ?_
  refine wa_iconst B 0 dX10_read_12 (by decide) ?_
  refine wa_callVv B (x := (RX8, TX8, 11)) (As := [.ref a1, .int 400, .int 0]) (rest := []) (k_X8_begin l dC dI h L hN q_1 hV_q_1 (a0 := a_3) ha_3 ka_3 (a1 := a1) ha1 ka1 400 0  (by first | assumption | omega | decide)) (cwV 3 B.1.2.2.2.2 gX10_read_X8_begin rfl rfl rfl (by decide +kernel) ⟨Nat.le_of_ble_eq_true rfl, Nat.le_of_ble_eq_true rfl⟩) ha_3 ka_3 (by decide) rfl rfl rfl (Nat.le_of_ble_eq_true rfl) dX10_read_13 (fun q_4 w_5 => ?_)
  obtain ⟨hV_q_4, h2_q_4⟩ := w_5
  have hF_q_4 : sx_fr h L (fun a => h.1 a = 10 ∨ h.1 a = 8 ∨ h.1 a = 9 ∨ h.1 a = 201 ∨ h.1 a = 101 ∨ h.1 a = 202 ∨ h.1 a = 102 ∨ h.1 a = 103 ∨ h.1 a = 104) q q_4 := hF_q_1.tr (h2_q_4.mono (fun a (z : a = a_3 ∧ h.1 a = 8) => (show h.1 a = 10 ∨ h.1 a = 8 ∨ h.1 a = 9 ∨ h.1 a = 201 ∨ h.1 a = 101 ∨ h.1 a = 202 ∨ h.1 a = 102 ∨ h.1 a = 103 ∨ h.1 a = 104 from by omega)))
  refine wa_aload_n B dX10_read_16 rfl 0 rfl ?_
  refine wa_iconst B 0 dX10_read_17 (by decide) ?_
  refine wa_putI B (C := RX10) (T := TX10) (N := 3) iq_X10_read_X10 ha0 ka0 (by decide) rfl 1 (by decide) (by decide) (by decide +kernel) rfl (by decide) (v := 0) (ty := .int) tyX10 tyX10_ok nmX10 rfl (by decide +kernel) rfl rfl dX10_read_18 (fun q_6 eq_6 => ?_)
  have hV_q_6 : sx_V h L q_6 := by rw [eq_6]; exact hV_q_4.pI ka0 trivial
  have hF_q_6 : sx_fr h L (fun a => h.1 a = 10 ∨ h.1 a = 8 ∨ h.1 a = 9 ∨ h.1 a = 201 ∨ h.1 a = 101 ∨ h.1 a = 202 ∨ h.1 a = 102 ∨ h.1 a = 103 ∨ h.1 a = 104) q q_6 := hF_q_4.tr (by rw [eq_6]; exact sx_fr.pI (show h.1 a0 = 10 ∨ h.1 a0 = 8 ∨ h.1 a0 = 9 ∨ h.1 a0 = 201 ∨ h.1 a0 = 101 ∨ h.1 a0 = 202 ∨ h.1 a0 = 102 ∨ h.1 a0 = 103 ∨ h.1 a0 = 104 from by omega))
  have z_7 : q_6.1 a0 1 = 0 := by rw [eq_6]; exact sg_pI_e
  refine wa_iconst B 0 dX10_read_21 (by decide) ?_
  refine wa_istore_n B [(3, .int 0), (0, .ref a0), (1, .ref a1), (2, .ref a2)] dX10_read_22 rfl (by decide) rfl ?_
  have z_10 : q_6.2.2.1 a0 0 = a_3 := ((show q_6.2.2.1 a0 0 = q_4.2.2.1 a0 0 from by rw [eq_6]; rfl)).trans ((h2_q_4.R ha0 (show ¬ ((a0 = a_3 ∧ h.1 a0 = 8) ∧ (h.1 a0 = 8 ∨ h.1 a0 = 11)) from by omega) 0).trans (ea_3))
  have Lp_23_12 : ∀ (n : Nat) (v_8 : Int32) (q_9 : Sg), sx_V h L q_9 → sx_fr h L (fun a => h.1 a = 10 ∨ h.1 a = 8 ∨ h.1 a = 9 ∨ h.1 a = 201 ∨ h.1 a = 101 ∨ h.1 a = 202 ∨ h.1 a = 102 ∨ h.1 a = 103 ∨ h.1 a = 104) q q_9 → q_9.2.2.1 a0 0 = a_3 → 0 ≤ v_8.toInt → (401 - v_8.toInt : Int).toNat < n → WA l dC dI h L ({ frames := 5, cells := 0, slots := 0, locals := 109 } : Room) 4 Z q_9 23 [(3, .int v_8), (0, .ref a0), (1, .ref a1), (2, .ref a2)] [] := by
    intro n
    induction n with
    | zero =>
      intro v_8 q_9 hV_q_9 hF_q_9 p0_q_9 x_11 hn
      exact absurd hn (Nat.not_lt_zero _)
    | succ n ih_13 =>
      intro v_8 q_9 hV_q_9 hF_q_9 p0_q_9 x_11 hn
      refine wa_iload_n B dX10_read_23 rfl 0 rfl ?_
      refine wa_sipush B 400 dX10_read_24 (by decide) ?_
      refine wa_icmp_gt B 82 dX10_read_27 (by decide) (fun (t_14 : 400 < v_8.toInt) => ?_) (fun (t_14 : ¬ 400 < v_8.toInt) => ?_)
      · refine wa_iconst B 0 dX10_read_82 (by decide) ?_
        exact hret _ _ _ _ dX10_read_83 (Or.inl rfl) ⟨hV_q_9, hF_q_9, (by have h9 : (0 : Int32).toInt = 0 := rfl; first | omega | (refine ⟨?_, ?_⟩ <;> omega) | trivial)⟩
      · refine wa_aload_n B dX10_read_30 rfl 1 rfl ?_
        refine wa_getR B (C := RX10) (T := TX10) (N := 3) iq_X10_read_X10 ha0 ka0 (by decide) rfl 0 (by decide) (by decide) (by decide +kernel) rfl (fun _ _ _ => rfl) (v := a_3) p0_q_9 dX10_read_31 ?_
        refine wa_callVv B (x := (RX8, TX8, 11)) (As := []) (rest := []) (k_X8_advance l dC dI h L hN q_9 hV_q_9 (a0 := a_3) ha_3 ka_3  ) (cwV 0 B.1.2.2.2.2 gX10_read_X8_advance rfl rfl rfl (by decide +kernel) ⟨Nat.le_of_ble_eq_true rfl, Nat.le_of_ble_eq_true rfl⟩) ha_3 ka_3 (by decide) rfl rfl rfl (Nat.le_of_ble_eq_true rfl) dX10_read_34 (fun q_15 w_16 => ?_)
        obtain ⟨hV_q_15, h2_q_15⟩ := w_16
        have hF_q_15 : sx_fr h L (fun a => h.1 a = 10 ∨ h.1 a = 8 ∨ h.1 a = 9 ∨ h.1 a = 201 ∨ h.1 a = 101 ∨ h.1 a = 202 ∨ h.1 a = 102 ∨ h.1 a = 103 ∨ h.1 a = 104) q q_15 := hF_q_9.tr (h2_q_15.mono (fun a (z : a = a_3 ∧ h.1 a = 8) => (show h.1 a = 10 ∨ h.1 a = 8 ∨ h.1 a = 9 ∨ h.1 a = 201 ∨ h.1 a = 101 ∨ h.1 a = 202 ∨ h.1 a = 102 ∨ h.1 a = 103 ∨ h.1 a = 104 from by omega)))
        refine wa_aload_n B dX10_read_37 rfl 1 rfl ?_
        refine wa_getI B (C := RX10) (T := TX10) (N := 3) iq_X10_read_X10 ha0 ka0 (by decide) rfl 1 (by decide) (by decide) (by decide +kernel) rfl (by decide) (v := (q_15.1 a0 1)) rfl dX10_read_38 ?_
        refine wa_if_ne B 66 dX10_read_41 (by decide) (fun (t_17 : ¬ (q_15.1 a0 1).toInt = 0) => ?_) (fun (t_17 : (q_15.1 a0 1).toInt = 0) => ?_)
        · refine wa_aload_n B dX10_read_66 rfl 1 rfl ?_
          refine wa_aload_n B dX10_read_67 rfl 3 rfl ?_
          refine wa_callVi B (x := (RX10, TX10, 3)) (As := [.ref a2]) (rest := []) (k_X10_takeToken l dC dI h L hN q_15 hV_q_15 (a0 := a0) ha0 ka0 (a1 := a2) ha2 ka2  ) (cwV 1 B.1.2.2.2.2 gX10_read_X10_takeToken rfl rfl rfl (by decide +kernel) ⟨Nat.le_of_ble_eq_true rfl, Nat.le_of_ble_eq_true rfl⟩) ha0 ka0 (by decide) rfl rfl rfl (Nat.le_of_ble_eq_true rfl) dX10_read_68 (fun r_19 q_18 w_20 => ?_)
          obtain ⟨hV_q_18, h2_q_18, hw_20⟩ := w_20
          have hF_q_18 : sx_fr h L (fun a => h.1 a = 10 ∨ h.1 a = 8 ∨ h.1 a = 9 ∨ h.1 a = 201 ∨ h.1 a = 101 ∨ h.1 a = 202 ∨ h.1 a = 102 ∨ h.1 a = 103 ∨ h.1 a = 104) q q_18 := hF_q_15.tr (h2_q_18.mono (fun a (z : h.1 a = 10 ∨ h.1 a = 8 ∨ h.1 a = 9 ∨ h.1 a = 201 ∨ h.1 a = 101 ∨ h.1 a = 202 ∨ h.1 a = 102 ∨ h.1 a = 103 ∨ h.1 a = 104) => (show h.1 a = 10 ∨ h.1 a = 8 ∨ h.1 a = 9 ∨ h.1 a = 201 ∨ h.1 a = 101 ∨ h.1 a = 202 ∨ h.1 a = 102 ∨ h.1 a = 103 ∨ h.1 a = 104 from by omega)))
          refine wa_if_ne B 76 dX10_read_71 (by decide) (fun (t_21 : ¬ r_19.toInt = 0) => ?_) (fun (t_21 : r_19.toInt = 0) => ?_)
          · obtain ⟨v_22, ev_22⟩ : ∃ z : Int32, z = v_8 + 1 := ⟨_, rfl⟩
            refine wa_iinc B [(3, .int v_22), (0, .ref a0), (1, .ref a1), (2, .ref a2)] v_22 dX10_read_76 0 rfl (by rw [ev_22]; rfl) (by decide) rfl ?_
            refine wa_goto B 23 dX10_read_79 (by decide) ?_
            have tv_22 : v_22.toInt = v_8.toInt + 1 := by have b0 := zx_bd v_8; rw [ev_22]; exact zx_add (show (-2147483648 : Int) ≤ v_8.toInt + 1 by omega) (show v_8.toInt + 1 < (2147483648 : Int) by omega)
            have z_23 : q_18.2.2.1 a0 0 = a_3 := (h2_q_18.R ha0 (show ¬ ((h.1 a0 = 10 ∨ h.1 a0 = 8 ∨ h.1 a0 = 9 ∨ h.1 a0 = 201 ∨ h.1 a0 = 101 ∨ h.1 a0 = 202 ∨ h.1 a0 = 102 ∨ h.1 a0 = 103 ∨ h.1 a0 = 104) ∧ (h.1 a0 = 8 ∨ h.1 a0 = 11)) from by omega) 0).trans ((h2_q_15.R ha0 (show ¬ ((a0 = a_3 ∧ h.1 a0 = 8) ∧ (h.1 a0 = 8 ∨ h.1 a0 = 11)) from by omega) 0).trans (p0_q_9))
            exact ih_13 v_22 q_18 hV_q_18 hF_q_18 z_23 (show 0 ≤ v_22.toInt from by first | assumption | omega | decide) (show (401 - v_22.toInt : Int).toNat < _ from by omega)
          · refine wa_iconst B 0 dX10_read_74 (by decide) ?_
            exact hret _ _ _ _ dX10_read_75 (Or.inl rfl) ⟨hV_q_18, hF_q_18, (by have h9 : (0 : Int32).toInt = 0 := rfl; first | omega | (refine ⟨?_, ?_⟩ <;> omega) | trivial)⟩
        · refine wa_aload_n B dX10_read_44 rfl 1 rfl ?_
          have z_24 : q_15.2.2.1 a0 0 = a_3 := (h2_q_15.R ha0 (show ¬ ((a0 = a_3 ∧ h.1 a0 = 8) ∧ (h.1 a0 = 8 ∨ h.1 a0 = 11)) from by omega) 0).trans (p0_q_9)
          refine wa_getR B (C := RX10) (T := TX10) (N := 3) iq_X10_read_X10 ha0 ka0 (by decide) rfl 0 (by decide) (by decide) (by decide +kernel) rfl (fun _ _ _ => rfl) (v := a_3) z_24 dX10_read_45 ?_
          refine wa_getI B (C := RX8) (T := TX8) (N := 11) iq_X10_read_X8 ha_3 ka_3 (by decide) rfl 0 (by decide) (by decide) (by decide +kernel) rfl (by decide) (v := (q_15.1 a_3 0)) rfl dX10_read_48 ?_
          refine wa_if_ne B 66 dX10_read_51 (by decide) (fun (t_25 : ¬ (q_15.1 a_3 0).toInt = 0) => ?_) (fun (t_25 : (q_15.1 a_3 0).toInt = 0) => ?_)
          · refine wa_aload_n B dX10_read_66 rfl 1 rfl ?_
            refine wa_aload_n B dX10_read_67 rfl 3 rfl ?_
            refine wa_callVi B (x := (RX10, TX10, 3)) (As := [.ref a2]) (rest := []) (k_X10_takeToken l dC dI h L hN q_15 hV_q_15 (a0 := a0) ha0 ka0 (a1 := a2) ha2 ka2  ) (cwV 1 B.1.2.2.2.2 gX10_read_X10_takeToken rfl rfl rfl (by decide +kernel) ⟨Nat.le_of_ble_eq_true rfl, Nat.le_of_ble_eq_true rfl⟩) ha0 ka0 (by decide) rfl rfl rfl (Nat.le_of_ble_eq_true rfl) dX10_read_68 (fun r_27 q_26 w_28 => ?_)
            obtain ⟨hV_q_26, h2_q_26, hw_28⟩ := w_28
            have hF_q_26 : sx_fr h L (fun a => h.1 a = 10 ∨ h.1 a = 8 ∨ h.1 a = 9 ∨ h.1 a = 201 ∨ h.1 a = 101 ∨ h.1 a = 202 ∨ h.1 a = 102 ∨ h.1 a = 103 ∨ h.1 a = 104) q q_26 := hF_q_15.tr (h2_q_26.mono (fun a (z : h.1 a = 10 ∨ h.1 a = 8 ∨ h.1 a = 9 ∨ h.1 a = 201 ∨ h.1 a = 101 ∨ h.1 a = 202 ∨ h.1 a = 102 ∨ h.1 a = 103 ∨ h.1 a = 104) => (show h.1 a = 10 ∨ h.1 a = 8 ∨ h.1 a = 9 ∨ h.1 a = 201 ∨ h.1 a = 101 ∨ h.1 a = 202 ∨ h.1 a = 102 ∨ h.1 a = 103 ∨ h.1 a = 104 from by omega)))
            refine wa_if_ne B 76 dX10_read_71 (by decide) (fun (t_29 : ¬ r_27.toInt = 0) => ?_) (fun (t_29 : r_27.toInt = 0) => ?_)
            · obtain ⟨v_30, ev_30⟩ : ∃ z : Int32, z = v_8 + 1 := ⟨_, rfl⟩
              refine wa_iinc B [(3, .int v_30), (0, .ref a0), (1, .ref a1), (2, .ref a2)] v_30 dX10_read_76 0 rfl (by rw [ev_30]; rfl) (by decide) rfl ?_
              refine wa_goto B 23 dX10_read_79 (by decide) ?_
              have tv_30 : v_30.toInt = v_8.toInt + 1 := by have b0 := zx_bd v_8; rw [ev_30]; exact zx_add (show (-2147483648 : Int) ≤ v_8.toInt + 1 by omega) (show v_8.toInt + 1 < (2147483648 : Int) by omega)
              have z_31 : q_26.2.2.1 a0 0 = a_3 := (h2_q_26.R ha0 (show ¬ ((h.1 a0 = 10 ∨ h.1 a0 = 8 ∨ h.1 a0 = 9 ∨ h.1 a0 = 201 ∨ h.1 a0 = 101 ∨ h.1 a0 = 202 ∨ h.1 a0 = 102 ∨ h.1 a0 = 103 ∨ h.1 a0 = 104) ∧ (h.1 a0 = 8 ∨ h.1 a0 = 11)) from by omega) 0).trans (z_24)
              exact ih_13 v_30 q_26 hV_q_26 hF_q_26 z_31 (show 0 ≤ v_30.toInt from by first | assumption | omega | decide) (show (401 - v_30.toInt : Int).toNat < _ from by omega)
            · refine wa_iconst B 0 dX10_read_74 (by decide) ?_
              exact hret _ _ _ _ dX10_read_75 (Or.inl rfl) ⟨hV_q_26, hF_q_26, (by have h9 : (0 : Int32).toInt = 0 := rfl; first | omega | (refine ⟨?_, ?_⟩ <;> omega) | trivial)⟩
          · refine wa_aload_n B dX10_read_54 rfl 1 rfl ?_
            refine wa_getR B (C := RX10) (T := TX10) (N := 3) iq_X10_read_X10 ha0 ka0 (by decide) rfl 0 (by decide) (by decide) (by decide +kernel) rfl (fun _ _ _ => rfl) (v := a_3) z_24 dX10_read_55 ?_
            refine wa_aload_n B dX10_read_58 rfl 3 rfl ?_
            refine wa_getI B (C := RX9) (T := TX9) (N := 7) iq_X10_read_X9 ha2 ka2 (by decide) rfl 6 (by decide) (by decide) (by decide +kernel) rfl (by decide) (v := (q_15.1 a2 6)) rfl dX10_read_59 ?_
            have g_32 : (0 : Int) ≤ (q_15.1 a2 6).toInt ∧ (q_15.1 a2 6).toInt ≤ 3 := hV_q_15.int ha2 ka2 6
            refine wa_callVi B (x := (RX8, TX8, 11)) (As := [.int (q_15.1 a2 6)]) (rest := []) (k_X8_endsWell l dC dI h L hN q_15 hV_q_15 (a0 := a_3) ha_3 ka_3 (q_15.1 a2 6)  ) (cwV 1 B.1.2.2.2.2 gX10_read_X8_endsWell rfl rfl rfl (by decide +kernel) ⟨Nat.le_of_ble_eq_true rfl, Nat.le_of_ble_eq_true rfl⟩) ha_3 ka_3 (by decide) rfl rfl rfl (Nat.le_of_ble_eq_true rfl) dX10_read_62 (fun r_34 q_33 w_35 => ?_)
            obtain ⟨hV_q_33, h2_q_33, hw_35⟩ := w_35
            have hF_q_33 : sx_fr h L (fun a => h.1 a = 10 ∨ h.1 a = 8 ∨ h.1 a = 9 ∨ h.1 a = 201 ∨ h.1 a = 101 ∨ h.1 a = 202 ∨ h.1 a = 102 ∨ h.1 a = 103 ∨ h.1 a = 104) q q_33 := hF_q_15.tr (h2_q_33.mono (fun a (z : a = a_3 ∧ h.1 a = 8) => (show h.1 a = 10 ∨ h.1 a = 8 ∨ h.1 a = 9 ∨ h.1 a = 201 ∨ h.1 a = 101 ∨ h.1 a = 202 ∨ h.1 a = 102 ∨ h.1 a = 103 ∨ h.1 a = 104 from by omega)))
            exact hret _ _ _ _ dX10_read_65 (zx_01 (by omega)) ⟨hV_q_33, hF_q_33, (by first | omega | (refine ⟨?_, ?_⟩ <;> omega) | trivial)⟩
  exact Lp_23_12 _ 0 q_6 hV_q_6 hF_q_6 z_10 (show 0 ≤ 0 from by first | assumption | omega | decide) (Nat.lt_succ_self _)
theorem iq_X6_takeCount_X6 : ∀ w ∈ wsX60, w ∈ wsX6_takeCount := fun _ h => List.mem_cons_of_mem _ (List.mem_append_left _ (List.mem_append_right _ h))
theorem iq_X6_takeCount_X8 : ∀ w ∈ wsX80, w ∈ wsX6_takeCount := fun _ h => List.mem_cons_of_mem _ (List.mem_append_right _ h)
set_option maxHeartbeats 4000000 in
set_option maxRecDepth 100000 in
theorem k_X6_takeCount (l : Launch) (dC : Nat → ClassId) (dI : Nat → Nat → Nat) (h : Sh) (L : List Nat) (hN : sx_nd L) (q : Sg) (hV : sx_V h L q) {a0 : Nat} (ha0 : a0 ∈ L) (ka0 : h.1 a0 = 6)   : CMi l dC dI h L yX6_takeCount wsX6_takeCount ({ frames := 1, cells := 0, slots := 0, locals := 21 } : Room) q [.ref a0] (fun r q' => sx_V h L q' ∧ sx_fr h L (fun a => h.1 a = 6 ∨ h.1 a = 8) q q' ∧ (r.toInt = 0 ∨ r.toInt = 1)) := by
  refine cm_z (cc := cX6_takeCount) (mL := 1) (own := RX6) hN (by decide) rfl rfl (Nat.le_of_ble_eq_true rfl) (fun Z B hret => ?_)
  have hF : sx_fr h L (fun a => h.1 a = 6 ∨ h.1 a = 8) q q := sx_fr.rf
  show WA l dC dI h L ({ frames := 1, cells := 0, slots := 0, locals := 21 } : Room) 1 Z q 0 [(0, .ref a0)] []
  refine wa_aload_n B dX6_takeCount_0 rfl 0 rfl ?_
  refine wa_aload_n B dX6_takeCount_1 rfl 0 rfl ?_
  obtain ⟨a_1, ea_1, ha_1, ka_1⟩ := hV.ref (t := 8) ha0 ka0 0 rfl (by decide)
  refine wa_getR B (C := RX6) (T := TX6) (N := 8) iq_X6_takeCount_X6 ha0 ka0 (by decide) rfl 0 (by decide) (by decide) (by decide +kernel) rfl (fun _ _ _ => rfl) (v := a_1) ea_1 dX6_takeCount_2 ?_
  refine wa_getI B (C := RX8) (T := TX8) (N := 11) iq_X6_takeCount_X8 ha_1 ka_1 (by decide) rfl 1 (by decide) (by decide) (by decide +kernel) rfl (by decide) (v := (q.1 a_1 1)) rfl dX6_takeCount_5 ?_
  refine wa_putI B (C := RX6) (T := TX6) (N := 8) iq_X6_takeCount_X6 ha0 ka0 (by decide) rfl 5 (by decide) (by decide) (by decide +kernel) rfl (by decide) (v := (q.1 a_1 1)) (ty := .int) tyX6 tyX6_ok nmX6 rfl (by decide +kernel) rfl rfl dX6_takeCount_8 (fun q_2 eq_2 => ?_)
  have hV_q_2 : sx_V h L q_2 := by rw [eq_2]; exact hV.pI ka0 trivial
  have hF_q_2 : sx_fr h L (fun a => h.1 a = 6 ∨ h.1 a = 8) q q_2 := hF.tr (by rw [eq_2]; exact sx_fr.pI (show h.1 a0 = 6 ∨ h.1 a0 = 8 from by omega))
  have z_3 : q_2.1 a0 5 = (q.1 a_1 1) := by rw [eq_2]; exact sg_pI_e
  refine wa_aload_n B dX6_takeCount_11 rfl 0 rfl ?_
  refine wa_aload_n B dX6_takeCount_12 rfl 0 rfl ?_
  have z_4 : q_2.2.2.1 a0 0 = a_1 := ((show q_2.2.2.1 a0 0 = q.2.2.1 a0 0 from by rw [eq_2]; rfl)).trans (ea_1)
  refine wa_getR B (C := RX6) (T := TX6) (N := 8) iq_X6_takeCount_X6 ha0 ka0 (by decide) rfl 0 (by decide) (by decide) (by decide +kernel) rfl (fun _ _ _ => rfl) (v := a_1) z_4 dX6_takeCount_13 ?_
  refine wa_getI B (C := RX8) (T := TX8) (N := 11) iq_X6_takeCount_X8 ha_1 ka_1 (by decide) rfl 3 (by decide) (by decide) (by decide +kernel) rfl (by decide) (v := (q_2.1 a_1 3)) rfl dX6_takeCount_16 ?_
  refine wa_putI B (C := RX6) (T := TX6) (N := 8) iq_X6_takeCount_X6 ha0 ka0 (by decide) rfl 6 (by decide) (by decide) (by decide +kernel) rfl (by decide) (v := (q_2.1 a_1 3)) (ty := .int) tyX6 tyX6_ok nmX6 rfl (by decide +kernel) rfl rfl dX6_takeCount_19 (fun q_5 eq_5 => ?_)
  have hV_q_5 : sx_V h L q_5 := by rw [eq_5]; exact hV_q_2.pI ka0 trivial
  have hF_q_5 : sx_fr h L (fun a => h.1 a = 6 ∨ h.1 a = 8) q q_5 := hF_q_2.tr (by rw [eq_5]; exact sx_fr.pI (show h.1 a0 = 6 ∨ h.1 a0 = 8 from by omega))
  have z_6 : q_5.1 a0 6 = (q_2.1 a_1 3) := by rw [eq_5]; exact sg_pI_e
  refine wa_aload_n B dX6_takeCount_22 rfl 0 rfl ?_
  refine wa_aload_n B dX6_takeCount_23 rfl 0 rfl ?_
  have z_7 : q_5.2.2.1 a0 0 = a_1 := ((show q_5.2.2.1 a0 0 = q_2.2.2.1 a0 0 from by rw [eq_5]; rfl)).trans (z_4)
  refine wa_getR B (C := RX6) (T := TX6) (N := 8) iq_X6_takeCount_X6 ha0 ka0 (by decide) rfl 0 (by decide) (by decide) (by decide +kernel) rfl (fun _ _ _ => rfl) (v := a_1) z_7 dX6_takeCount_24 ?_
  refine wa_getI B (C := RX8) (T := TX8) (N := 11) iq_X6_takeCount_X8 ha_1 ka_1 (by decide) rfl 4 (by decide) (by decide) (by decide +kernel) rfl (by decide) (v := (q_5.1 a_1 4)) rfl dX6_takeCount_27 ?_
  refine wa_putI B (C := RX6) (T := TX6) (N := 8) iq_X6_takeCount_X6 ha0 ka0 (by decide) rfl 7 (by decide) (by decide) (by decide +kernel) rfl (by decide) (v := (q_5.1 a_1 4)) (ty := .int) tyX6 tyX6_ok nmX6 rfl (by decide +kernel) rfl rfl dX6_takeCount_30 (fun q_8 eq_8 => ?_)
  have hV_q_8 : sx_V h L q_8 := by rw [eq_8]; exact hV_q_5.pI ka0 trivial
  have hF_q_8 : sx_fr h L (fun a => h.1 a = 6 ∨ h.1 a = 8) q q_8 := hF_q_5.tr (by rw [eq_8]; exact sx_fr.pI (show h.1 a0 = 6 ∨ h.1 a0 = 8 from by omega))
  have z_9 : q_8.1 a0 7 = (q_5.1 a_1 4) := by rw [eq_8]; exact sg_pI_e
  refine wa_aload_n B dX6_takeCount_33 rfl 0 rfl ?_
  refine wa_iconst B 2 dX6_takeCount_34 (by decide) ?_
  refine wa_putI B (C := RX6) (T := TX6) (N := 8) iq_X6_takeCount_X6 ha0 ka0 (by decide) rfl 1 (by decide) (by decide) (by decide +kernel) rfl (by decide) (v := 2) (ty := .int) tyX6 tyX6_ok nmX6 rfl (by decide +kernel) rfl rfl dX6_takeCount_35 (fun q_10 eq_10 => ?_)
  have hV_q_10 : sx_V h L q_10 := by rw [eq_10]; exact hV_q_8.pI ka0 trivial
  have hF_q_10 : sx_fr h L (fun a => h.1 a = 6 ∨ h.1 a = 8) q q_10 := hF_q_8.tr (by rw [eq_10]; exact sx_fr.pI (show h.1 a0 = 6 ∨ h.1 a0 = 8 from by omega))
  have z_11 : q_10.1 a0 1 = 2 := by rw [eq_10]; exact sg_pI_e
  refine wa_aload_n B dX6_takeCount_38 rfl 0 rfl ?_
  have z_12 : q_10.2.2.1 a0 0 = a_1 := ((show q_10.2.2.1 a0 0 = q_8.2.2.1 a0 0 from by rw [eq_10]; rfl)).trans (((show q_8.2.2.1 a0 0 = q_5.2.2.1 a0 0 from by rw [eq_8]; rfl)).trans (z_7))
  refine wa_getR B (C := RX6) (T := TX6) (N := 8) iq_X6_takeCount_X6 ha0 ka0 (by decide) rfl 0 (by decide) (by decide) (by decide +kernel) rfl (fun _ _ _ => rfl) (v := a_1) z_12 dX6_takeCount_39 ?_
  refine wa_iconst B 3 dX6_takeCount_42 (by decide) ?_
  refine wa_callVi B (x := (RX8, TX8, 11)) (As := [.int 3]) (rest := []) (k_X8_demand l dC dI h L hN q_10 hV_q_10 (a0 := a_1) ha_1 ka_1 3  ) (cwV 1 B.1.2.2.2.2 gX6_takeCount_X8_demand rfl rfl rfl (by decide +kernel) ⟨Nat.le_of_ble_eq_true rfl, Nat.le_of_ble_eq_true rfl⟩) ha_1 ka_1 (by decide) rfl rfl rfl (Nat.le_of_ble_eq_true rfl) dX6_takeCount_43 (fun r_14 q_13 w_15 => ?_)
  obtain ⟨hV_q_13, h2_q_13, hw_15⟩ := w_15
  have hF_q_13 : sx_fr h L (fun a => h.1 a = 6 ∨ h.1 a = 8) q q_13 := hF_q_10.tr (h2_q_13.mono (fun a (z : a = a_1 ∧ h.1 a = 8) => (show h.1 a = 6 ∨ h.1 a = 8 from by omega)))
  exact hret _ _ _ _ dX6_takeCount_46 (zx_01 (by omega)) ⟨hV_q_13, hF_q_13, (by first | omega | (refine ⟨?_, ?_⟩ <;> omega) | trivial)⟩
theorem iq_X6_canCountBe_X6 : ∀ w ∈ wsX60, w ∈ wsX6_canCountBe := fun _ h => List.mem_cons_of_mem _ (List.mem_append_right _ h)
set_option maxHeartbeats 4000000 in
set_option maxRecDepth 100000 in
theorem k_X6_canCountBe (l : Launch) (dC : Nat → ClassId) (dI : Nat → Nat → Nat) (h : Sh) (L : List Nat) (hN : sx_nd L) (q : Sg) (hV : sx_V h L q) {a0 : Nat} (ha0 : a0 ∈ L) (ka0 : h.1 a0 = 6) (n1 : Int32)   : CMi l dC dI h L yX6_canCountBe wsX6_canCountBe ({ frames := 0, cells := 0, slots := 0, locals := 0 } : Room) q [.ref a0, .int n1] (fun r q' => q = q' ∧ (r.toInt = 0 ∨ r.toInt = 1)) := by
  refine cm_z (cc := cX6_canCountBe) (mL := 4) (own := RX6) hN (by decide) rfl rfl (Nat.le_of_ble_eq_true rfl) (fun Z B hret => ?_)
  show WA l dC dI h L ({ frames := 0, cells := 0, slots := 0, locals := 0 } : Room) 4 Z q 0 [(0, .ref a0), (1, .int n1)] []
  refine wa_aload_n B dX6_canCountBe_0 rfl 0 rfl ?_
  refine wa_getI B (C := RX6) (T := TX6) (N := 8) iq_X6_canCountBe_X6 ha0 ka0 (by decide) rfl 6 (by decide) (by decide) (by decide +kernel) rfl (by decide) (v := (q.1 a0 6)) rfl dX6_canCountBe_1 ?_
  refine wa_iconst B (-1) dX6_canCountBe_4 (by decide) ?_
  refine wa_icmp_ne B 39 dX6_canCountBe_5 (by decide) (fun (t_1 : ¬ (q.1 a0 6).toInt = (-1)) => ?_) (fun (t_1 : (q.1 a0 6).toInt = (-1)) => ?_)
  · refine wa_aload_n B dX6_canCountBe_39 rfl 0 rfl ?_
    refine wa_getI B (C := RX6) (T := TX6) (N := 8) iq_X6_canCountBe_X6 ha0 ka0 (by decide) rfl 6 (by decide) (by decide) (by decide +kernel) rfl (by decide) (v := (q.1 a0 6)) rfl dX6_canCountBe_40 ?_
    refine wa_bipush B 10 dX6_canCountBe_43 (by decide) ?_
    refine wa_icmp_ne B 52 dX6_canCountBe_45 (by decide) (fun (t_2 : ¬ (q.1 a0 6).toInt = 10) => ?_) (fun (t_2 : (q.1 a0 6).toInt = 10) => ?_)
    · refine wa_aload_n B dX6_canCountBe_52 rfl 0 rfl ?_
      refine wa_getI B (C := RX6) (T := TX6) (N := 8) iq_X6_canCountBe_X6 ha0 ka0 (by decide) rfl 6 (by decide) (by decide) (by decide +kernel) rfl (by decide) (v := (q.1 a0 6)) rfl dX6_canCountBe_53 ?_
      refine wa_istore_n B [(2, .int (q.1 a0 6)), (0, .ref a0), (1, .int n1)] dX6_canCountBe_56 rfl (by decide) rfl ?_
      refine wa_aload_n B dX6_canCountBe_57 rfl 1 rfl ?_
      refine wa_getI B (C := RX6) (T := TX6) (N := 8) iq_X6_canCountBe_X6 ha0 ka0 (by decide) rfl 7 (by decide) (by decide) (by decide +kernel) rfl (by decide) (v := (q.1 a0 7)) rfl dX6_canCountBe_58 ?_
      refine wa_bipush B 10 dX6_canCountBe_61 (by decide) ?_
      refine wa_icmp_ne B 70 dX6_canCountBe_63 (by decide) (fun (t_3 : ¬ (q.1 a0 7).toInt = 10) => ?_) (fun (t_3 : (q.1 a0 7).toInt = 10) => ?_)
      · refine wa_aload_n B dX6_canCountBe_70 rfl 1 rfl ?_
        refine wa_getI B (C := RX6) (T := TX6) (N := 8) iq_X6_canCountBe_X6 ha0 ka0 (by decide) rfl 7 (by decide) (by decide) (by decide +kernel) rfl (by decide) (v := (q.1 a0 7)) rfl dX6_canCountBe_71 ?_
        refine wa_istore_n B [(3, .int (q.1 a0 7)), (2, .int (q.1 a0 6)), (0, .ref a0), (1, .int n1)] dX6_canCountBe_74 rfl (by decide) rfl ?_
        refine wa_iload_n B dX6_canCountBe_75 rfl 1 rfl ?_
        refine wa_iconst B 1 dX6_canCountBe_76 (by decide) ?_
        refine wa_icmp_lt B 94 dX6_canCountBe_77 (by decide) (fun (t_4 : (q.1 a0 6).toInt < 1) => ?_) (fun (t_4 : ¬ (q.1 a0 6).toInt < 1) => ?_)
        · refine wa_iconst B 0 dX6_canCountBe_94 (by decide) ?_
          exact hret _ _ _ _ dX6_canCountBe_95 (Or.inl rfl) ⟨rfl, (by have h9 : (0 : Int32).toInt = 0 := rfl; first | omega | (refine ⟨?_, ?_⟩ <;> omega) | trivial)⟩
        · refine wa_bipush B 10 dX6_canCountBe_80 (by decide) ?_
          refine wa_iload_n B dX6_canCountBe_82 rfl 1 rfl ?_
          refine wa_imul B dX6_canCountBe_83 (fun v_5 ev_5 => ?_)
          refine wa_iload_n B dX6_canCountBe_84 rfl 0 rfl ?_
          refine wa_iadd B dX6_canCountBe_85 (fun v_6 ev_6 => ?_)
          refine wa_iload_n B dX6_canCountBe_86 rfl 3 rfl ?_
          refine wa_icmp_gt B 94 dX6_canCountBe_87 (by decide) (fun (t_7 : n1.toInt < v_6.toInt) => ?_) (fun (t_7 : ¬ n1.toInt < v_6.toInt) => ?_)
          · refine wa_iconst B 0 dX6_canCountBe_94 (by decide) ?_
            exact hret _ _ _ _ dX6_canCountBe_95 (Or.inl rfl) ⟨rfl, (by have h9 : (0 : Int32).toInt = 0 := rfl; first | omega | (refine ⟨?_, ?_⟩ <;> omega) | trivial)⟩
          · refine wa_iconst B 1 dX6_canCountBe_90 (by decide) ?_
            refine wa_goto B 95 dX6_canCountBe_91 (by decide) ?_
            exact hret _ _ _ _ dX6_canCountBe_95 (Or.inr rfl) ⟨rfl, (by have h9 : (1 : Int32).toInt = 1 := rfl; first | omega | (refine ⟨?_, ?_⟩ <;> omega) | trivial)⟩
      · refine wa_iconst B 0 dX6_canCountBe_66 (by decide) ?_
        refine wa_goto B 74 dX6_canCountBe_67 (by decide) ?_
        refine wa_istore_n B [(3, .int 0), (2, .int (q.1 a0 6)), (0, .ref a0), (1, .int n1)] dX6_canCountBe_74 rfl (by decide) rfl ?_
        refine wa_iload_n B dX6_canCountBe_75 rfl 1 rfl ?_
        refine wa_iconst B 1 dX6_canCountBe_76 (by decide) ?_
        refine wa_icmp_lt B 94 dX6_canCountBe_77 (by decide) (fun (t_8 : (q.1 a0 6).toInt < 1) => ?_) (fun (t_8 : ¬ (q.1 a0 6).toInt < 1) => ?_)
        · refine wa_iconst B 0 dX6_canCountBe_94 (by decide) ?_
          exact hret _ _ _ _ dX6_canCountBe_95 (Or.inl rfl) ⟨rfl, (by have h9 : (0 : Int32).toInt = 0 := rfl; first | omega | (refine ⟨?_, ?_⟩ <;> omega) | trivial)⟩
        · refine wa_bipush B 10 dX6_canCountBe_80 (by decide) ?_
          refine wa_iload_n B dX6_canCountBe_82 rfl 1 rfl ?_
          refine wa_imul B dX6_canCountBe_83 (fun v_9 ev_9 => ?_)
          refine wa_iload_n B dX6_canCountBe_84 rfl 0 rfl ?_
          refine wa_iadd B dX6_canCountBe_85 (fun v_10 ev_10 => ?_)
          refine wa_iload_n B dX6_canCountBe_86 rfl 3 rfl ?_
          refine wa_icmp_gt B 94 dX6_canCountBe_87 (by decide) (fun (t_11 : n1.toInt < v_10.toInt) => ?_) (fun (t_11 : ¬ n1.toInt < v_10.toInt) => ?_)
          · refine wa_iconst B 0 dX6_canCountBe_94 (by decide) ?_
            exact hret _ _ _ _ dX6_canCountBe_95 (Or.inl rfl) ⟨rfl, (by have h9 : (0 : Int32).toInt = 0 := rfl; first | omega | (refine ⟨?_, ?_⟩ <;> omega) | trivial)⟩
          · refine wa_iconst B 1 dX6_canCountBe_90 (by decide) ?_
            refine wa_goto B 95 dX6_canCountBe_91 (by decide) ?_
            exact hret _ _ _ _ dX6_canCountBe_95 (Or.inr rfl) ⟨rfl, (by have h9 : (1 : Int32).toInt = 1 := rfl; first | omega | (refine ⟨?_, ?_⟩ <;> omega) | trivial)⟩
    · refine wa_iconst B 1 dX6_canCountBe_48 (by decide) ?_
      refine wa_goto B 56 dX6_canCountBe_49 (by decide) ?_
      refine wa_istore_n B [(2, .int 1), (0, .ref a0), (1, .int n1)] dX6_canCountBe_56 rfl (by decide) rfl ?_
      refine wa_aload_n B dX6_canCountBe_57 rfl 1 rfl ?_
      refine wa_getI B (C := RX6) (T := TX6) (N := 8) iq_X6_canCountBe_X6 ha0 ka0 (by decide) rfl 7 (by decide) (by decide) (by decide +kernel) rfl (by decide) (v := (q.1 a0 7)) rfl dX6_canCountBe_58 ?_
      refine wa_bipush B 10 dX6_canCountBe_61 (by decide) ?_
      refine wa_icmp_ne B 70 dX6_canCountBe_63 (by decide) (fun (t_12 : ¬ (q.1 a0 7).toInt = 10) => ?_) (fun (t_12 : (q.1 a0 7).toInt = 10) => ?_)
      · refine wa_aload_n B dX6_canCountBe_70 rfl 1 rfl ?_
        refine wa_getI B (C := RX6) (T := TX6) (N := 8) iq_X6_canCountBe_X6 ha0 ka0 (by decide) rfl 7 (by decide) (by decide) (by decide +kernel) rfl (by decide) (v := (q.1 a0 7)) rfl dX6_canCountBe_71 ?_
        refine wa_istore_n B [(3, .int (q.1 a0 7)), (2, .int 1), (0, .ref a0), (1, .int n1)] dX6_canCountBe_74 rfl (by decide) rfl ?_
        refine wa_iload_n B dX6_canCountBe_75 rfl 1 rfl ?_
        refine wa_iconst B 1 dX6_canCountBe_76 (by decide) ?_
        refine wa_icmp_lt B 94 dX6_canCountBe_77 (by decide) (fun z => absurd z (by decide)) (fun _ => ?_)
        refine wa_bipush B 10 dX6_canCountBe_80 (by decide) ?_
        refine wa_iload_n B dX6_canCountBe_82 rfl 1 rfl ?_
        refine wa_imul B dX6_canCountBe_83 (fun v_13 ev_13 => ?_)
        refine wa_iload_n B dX6_canCountBe_84 rfl 0 rfl ?_
        refine wa_iadd B dX6_canCountBe_85 (fun v_14 ev_14 => ?_)
        refine wa_iload_n B dX6_canCountBe_86 rfl 3 rfl ?_
        refine wa_icmp_gt B 94 dX6_canCountBe_87 (by decide) (fun (t_15 : n1.toInt < v_14.toInt) => ?_) (fun (t_15 : ¬ n1.toInt < v_14.toInt) => ?_)
        · refine wa_iconst B 0 dX6_canCountBe_94 (by decide) ?_
          exact hret _ _ _ _ dX6_canCountBe_95 (Or.inl rfl) ⟨rfl, (by have h9 : (0 : Int32).toInt = 0 := rfl; first | omega | (refine ⟨?_, ?_⟩ <;> omega) | trivial)⟩
        · refine wa_iconst B 1 dX6_canCountBe_90 (by decide) ?_
          refine wa_goto B 95 dX6_canCountBe_91 (by decide) ?_
          exact hret _ _ _ _ dX6_canCountBe_95 (Or.inr rfl) ⟨rfl, (by have h9 : (1 : Int32).toInt = 1 := rfl; first | omega | (refine ⟨?_, ?_⟩ <;> omega) | trivial)⟩
      · refine wa_iconst B 0 dX6_canCountBe_66 (by decide) ?_
        refine wa_goto B 74 dX6_canCountBe_67 (by decide) ?_
        refine wa_istore_n B [(3, .int 0), (2, .int 1), (0, .ref a0), (1, .int n1)] dX6_canCountBe_74 rfl (by decide) rfl ?_
        refine wa_iload_n B dX6_canCountBe_75 rfl 1 rfl ?_
        refine wa_iconst B 1 dX6_canCountBe_76 (by decide) ?_
        refine wa_icmp_lt B 94 dX6_canCountBe_77 (by decide) (fun z => absurd z (by decide)) (fun _ => ?_)
        refine wa_bipush B 10 dX6_canCountBe_80 (by decide) ?_
        refine wa_iload_n B dX6_canCountBe_82 rfl 1 rfl ?_
        refine wa_imul B dX6_canCountBe_83 (fun v_16 ev_16 => ?_)
        refine wa_iload_n B dX6_canCountBe_84 rfl 0 rfl ?_
        refine wa_iadd B dX6_canCountBe_85 (fun v_17 ev_17 => ?_)
        refine wa_iload_n B dX6_canCountBe_86 rfl 3 rfl ?_
        refine wa_icmp_gt B 94 dX6_canCountBe_87 (by decide) (fun (t_18 : n1.toInt < v_17.toInt) => ?_) (fun (t_18 : ¬ n1.toInt < v_17.toInt) => ?_)
        · refine wa_iconst B 0 dX6_canCountBe_94 (by decide) ?_
          exact hret _ _ _ _ dX6_canCountBe_95 (Or.inl rfl) ⟨rfl, (by have h9 : (0 : Int32).toInt = 0 := rfl; first | omega | (refine ⟨?_, ?_⟩ <;> omega) | trivial)⟩
        · refine wa_iconst B 1 dX6_canCountBe_90 (by decide) ?_
          refine wa_goto B 95 dX6_canCountBe_91 (by decide) ?_
          exact hret _ _ _ _ dX6_canCountBe_95 (Or.inr rfl) ⟨rfl, (by have h9 : (1 : Int32).toInt = 1 := rfl; first | omega | (refine ⟨?_, ?_⟩ <;> omega) | trivial)⟩
  · refine wa_aload_n B dX6_canCountBe_8 rfl 0 rfl ?_
    refine wa_getI B (C := RX6) (T := TX6) (N := 8) iq_X6_canCountBe_X6 ha0 ka0 (by decide) rfl 7 (by decide) (by decide) (by decide +kernel) rfl (by decide) (v := (q.1 a0 7)) rfl dX6_canCountBe_9 ?_
    refine wa_bipush B 10 dX6_canCountBe_12 (by decide) ?_
    refine wa_icmp_eq B 33 dX6_canCountBe_14 (by decide) (fun (t_19 : (q.1 a0 7).toInt = 10) => ?_) (fun (t_19 : ¬ (q.1 a0 7).toInt = 10) => ?_)
    · refine wa_iconst B 1 dX6_canCountBe_33 (by decide) ?_
      refine wa_goto B 38 dX6_canCountBe_34 (by decide) ?_
      exact hret _ _ _ _ dX6_canCountBe_38 (Or.inr rfl) ⟨rfl, (by have h9 : (1 : Int32).toInt = 1 := rfl; first | omega | (refine ⟨?_, ?_⟩ <;> omega) | trivial)⟩
    · refine wa_aload_n B dX6_canCountBe_17 rfl 0 rfl ?_
      refine wa_getI B (C := RX6) (T := TX6) (N := 8) iq_X6_canCountBe_X6 ha0 ka0 (by decide) rfl 7 (by decide) (by decide) (by decide +kernel) rfl (by decide) (v := (q.1 a0 7)) rfl dX6_canCountBe_18 ?_
      refine wa_iconst B 1 dX6_canCountBe_21 (by decide) ?_
      refine wa_icmp_lt B 37 dX6_canCountBe_22 (by decide) (fun (t_20 : (q.1 a0 7).toInt < 1) => ?_) (fun (t_20 : ¬ (q.1 a0 7).toInt < 1) => ?_)
      · refine wa_iconst B 0 dX6_canCountBe_37 (by decide) ?_
        exact hret _ _ _ _ dX6_canCountBe_38 (Or.inl rfl) ⟨rfl, (by have h9 : (0 : Int32).toInt = 0 := rfl; first | omega | (refine ⟨?_, ?_⟩ <;> omega) | trivial)⟩
      · refine wa_aload_n B dX6_canCountBe_25 rfl 0 rfl ?_
        refine wa_getI B (C := RX6) (T := TX6) (N := 8) iq_X6_canCountBe_X6 ha0 ka0 (by decide) rfl 7 (by decide) (by decide) (by decide +kernel) rfl (by decide) (v := (q.1 a0 7)) rfl dX6_canCountBe_26 ?_
        refine wa_iload_n B dX6_canCountBe_29 rfl 1 rfl ?_
        refine wa_icmp_gt B 37 dX6_canCountBe_30 (by decide) (fun (t_21 : n1.toInt < (q.1 a0 7).toInt) => ?_) (fun (t_21 : ¬ n1.toInt < (q.1 a0 7).toInt) => ?_)
        · refine wa_iconst B 0 dX6_canCountBe_37 (by decide) ?_
          exact hret _ _ _ _ dX6_canCountBe_38 (Or.inl rfl) ⟨rfl, (by have h9 : (0 : Int32).toInt = 0 := rfl; first | omega | (refine ⟨?_, ?_⟩ <;> omega) | trivial)⟩
        · refine wa_iconst B 1 dX6_canCountBe_33 (by decide) ?_
          refine wa_goto B 38 dX6_canCountBe_34 (by decide) ?_
          exact hret _ _ _ _ dX6_canCountBe_38 (Or.inr rfl) ⟨rfl, (by have h9 : (1 : Int32).toInt = 1 := rfl; first | omega | (refine ⟨?_, ?_⟩ <;> omega) | trivial)⟩
theorem iq_X6_addAmount_X6 : ∀ w ∈ wsX60, w ∈ wsX6_addAmount := fun _ h => List.mem_cons_of_mem _ (List.mem_append_left _ (List.mem_append_left _ (List.mem_append_left _ (List.mem_append_right _ h))))
theorem iq_X6_addAmount_X9 : ∀ w ∈ wsX90, w ∈ wsX6_addAmount := fun _ h => List.mem_cons_of_mem _ (List.mem_append_left _ (List.mem_append_left _ (List.mem_append_left _ (List.mem_append_left _ (List.mem_append_right _ h)))))
set_option maxHeartbeats 4000000 in
set_option maxRecDepth 100000 in
theorem k_X6_addAmount (l : Launch) (dC : Nat → ClassId) (dI : Nat → Nat → Nat) (h : Sh) (L : List Nat) (hN : sx_nd L) (q : Sg) (hV : sx_V h L q) {a0 : Nat} (ha0 : a0 ∈ L) (ka0 : h.1 a0 = 6) {a1 : Nat} (ha1 : a1 ∈ L) (ka1 : h.1 a1 = 9) (n1 : Int32) {a2 : Nat} (ha2 : a2 ∈ L) (ka2 : h.1 a2 = 5)  (hy0 : 0 ≤ n1.toInt) (hy1 : n1.toInt ≤ 14) : CMv l dC dI h L yX6_addAmount wsX6_addAmount ({ frames := 1, cells := 0, slots := 0, locals := 24 } : Room) q [.ref a0, .ref a1, .int n1, .ref a2] (fun q' => sx_V h L q' ∧ sx_fr h L (fun a => h.1 a = 6 ∨ h.1 a = 8 ∨ h.1 a = 5 ∨ h.1 a = 2 ∨ h.1 a = 1) q q') := by
  refine cm_v (cc := cX6_addAmount) (mL := 9) (own := RX6) hN (by decide) rfl rfl (Nat.le_of_ble_eq_true rfl) (fun Z B hret => ?_)
  have hF : sx_fr h L (fun a => h.1 a = 6 ∨ h.1 a = 8 ∨ h.1 a = 5 ∨ h.1 a = 2 ∨ h.1 a = 1) q q := sx_fr.rf
  show WA l dC dI h L ({ frames := 1, cells := 0, slots := 0, locals := 24 } : Room) 9 Z q 0 [(0, .ref a0), (1, .ref a1), (2, .int n1), (3, .ref a2)] []
  refine wa_aload_n B dX6_addAmount_0 rfl 1 rfl ?_
  obtain ⟨a_1, ea_1, ha_1, ka_1, la_1⟩ := hV.refn (n := 15) (t := 103) ha1 ka1 4 rfl (by decide) rfl (by decide)
  refine wa_getR B (C := RX9) (T := TX9) (N := 7) iq_X6_addAmount_X9 ha1 ka1 (by decide) rfl 4 (by decide) (by decide) (by decide +kernel) rfl (fun _ _ _ => rfl) (v := a_1) ea_1 dX6_addAmount_1 ?_
  refine wa_iload_n B dX6_addAmount_4 rfl 2 rfl ?_
  refine wa_iaload B ha_1 ka_1 (by decide) (by decide) (show 0 ≤ n1.toInt by omega) (show n1.toInt < (h.2.1 a_1 : Int) by omega) (v := (q.2.2.2.1 a_1 (n1 : Int32).toNatClampNeg)) rfl dX6_addAmount_5 ?_
  refine wa_istore B [(4, .int ((q.2.2.2.1 a_1 (n1 : Int32).toNatClampNeg))), (0, .ref a0), (1, .ref a1), (2, .int n1), (3, .ref a2)] dX6_addAmount_6 (by decide) rfl ?_
  refine wa_aload_n B dX6_addAmount_8 rfl 2 rfl ?_
  obtain ⟨a_2, ea_2, ha_2, ka_2, la_2⟩ := hV.refn (n := 15) (t := 104) ha1 ka1 5 rfl (by decide) rfl (by decide)
  refine wa_getR B (C := RX9) (T := TX9) (N := 7) iq_X6_addAmount_X9 ha1 ka1 (by decide) rfl 5 (by decide) (by decide) (by decide +kernel) rfl (fun _ _ _ => rfl) (v := a_2) ea_2 dX6_addAmount_9 ?_
  refine wa_iload_n B dX6_addAmount_12 rfl 3 rfl ?_
  refine wa_iaload B ha_2 ka_2 (by decide) (by decide) (show 0 ≤ n1.toInt by omega) (show n1.toInt < (h.2.1 a_2 : Int) by omega) (v := (q.2.2.2.1 a_2 (n1 : Int32).toNatClampNeg)) rfl dX6_addAmount_13 ?_
  refine wa_istore B [(5, .int ((q.2.2.2.1 a_2 (n1 : Int32).toNatClampNeg))), (4, .int ((q.2.2.2.1 a_1 (n1 : Int32).toNatClampNeg))), (0, .ref a0), (1, .ref a1), (2, .int n1), (3, .ref a2)] dX6_addAmount_14 (by decide) rfl ?_
  refine wa_aload_n B dX6_addAmount_16 rfl 2 rfl ?_
  refine wa_getI B (C := RX6) (T := TX6) (N := 8) iq_X6_addAmount_X6 ha0 ka0 (by decide) rfl 6 (by decide) (by decide) (by decide +kernel) rfl (by decide) (v := (q.1 a0 6)) rfl dX6_addAmount_17 ?_
  refine wa_iconst B (-1) dX6_addAmount_20 (by decide) ?_
  have Jn_44_4 : ∀  (v_3 : Int32), WA l dC dI h L ({ frames := 1, cells := 0, slots := 0, locals := 24 } : Room) 9 Z q 44 [(5, .int ((q.2.2.2.1 a_2 (n1 : Int32).toNatClampNeg))), (4, .int ((q.2.2.2.1 a_1 (n1 : Int32).toNatClampNeg))), (0, .ref a0), (1, .ref a1), (2, .int n1), (3, .ref a2)] [.int v_3] := by
    intro v_3
    refine wa_istore B [(6, .int v_3), (5, .int ((q.2.2.2.1 a_2 (n1 : Int32).toNatClampNeg))), (4, .int ((q.2.2.2.1 a_1 (n1 : Int32).toNatClampNeg))), (0, .ref a0), (1, .ref a1), (2, .int n1), (3, .ref a2)] dX6_addAmount_44 (by decide) rfl ?_
    refine wa_aload_n B dX6_addAmount_46 rfl 3 rfl ?_
    refine wa_getI B (C := RX6) (T := TX6) (N := 8) iq_X6_addAmount_X6 ha0 ka0 (by decide) rfl 7 (by decide) (by decide) (by decide +kernel) rfl (by decide) (v := (q.1 a0 7)) rfl dX6_addAmount_47 ?_
    refine wa_bipush B 10 dX6_addAmount_50 (by decide) ?_
    have Jn_63_6 : ∀  (v_5 : Int32), WA l dC dI h L ({ frames := 1, cells := 0, slots := 0, locals := 24 } : Room) 9 Z q 63 [(6, .int v_3), (5, .int ((q.2.2.2.1 a_2 (n1 : Int32).toNatClampNeg))), (4, .int ((q.2.2.2.1 a_1 (n1 : Int32).toNatClampNeg))), (0, .ref a0), (1, .ref a1), (2, .int n1), (3, .ref a2)] [.int v_5] := by
      intro v_5
      refine wa_istore B [(7, .int v_5), (6, .int v_3), (5, .int ((q.2.2.2.1 a_2 (n1 : Int32).toNatClampNeg))), (4, .int ((q.2.2.2.1 a_1 (n1 : Int32).toNatClampNeg))), (0, .ref a0), (1, .ref a1), (2, .int n1), (3, .ref a2)] dX6_addAmount_63 (by decide) rfl ?_
      refine wa_aload_n B dX6_addAmount_65 rfl 7 rfl ?_
      refine wa_iload_n B dX6_addAmount_66 rfl 6 rfl ?_
      refine wa_callSi B (As := [.int n1]) (rest := [.ref a2]) (k_X9_systemOf l dC dI h L hN q hV n1  ) (va_cwS 1 B.1.2.2.2.2 gX6_addAmount_X9_systemOf rfl rfl rfl (by decide +kernel) ⟨Nat.le_of_ble_eq_true rfl, Nat.le_of_ble_eq_true rfl⟩) rfl rfl (Nat.le_of_ble_eq_true rfl) dX6_addAmount_67 (fun r_8 q_7 w_9 => ?_)
      subst w_9
      refine wa_iload B dX6_addAmount_70 1 rfl ?_
      refine wa_iload B dX6_addAmount_72 0 rfl ?_
      refine wa_iadd B dX6_addAmount_74 (fun v_10 ev_10 => ?_)
      refine wa_iload B dX6_addAmount_75 3 rfl ?_
      refine wa_imul B dX6_addAmount_77 (fun v_11 ev_11 => ?_)
      refine wa_callVv B (x := (RX5, TX5, 7)) (As := [.int r_8, .int v_11]) (rest := []) (k_X5_addKnown l dC dI h L hN q hV (a0 := a2) ha2 ka2 r_8 v_11  ) (cwV 2 B.1.2.2.2.2 gX6_addAmount_X5_addKnown rfl rfl rfl (by decide +kernel) ⟨Nat.le_of_ble_eq_true rfl, Nat.le_of_ble_eq_true rfl⟩) ha2 ka2 (by decide) rfl rfl rfl (Nat.le_of_ble_eq_true rfl) dX6_addAmount_78 (fun q_12 w_13 => ?_)
      obtain ⟨hV_q_12, h2_q_12⟩ := w_13
      have hF_q_12 : sx_fr h L (fun a => h.1 a = 6 ∨ h.1 a = 8 ∨ h.1 a = 5 ∨ h.1 a = 2 ∨ h.1 a = 1) q q_12 := hF.tr (h2_q_12.mono (fun a (z : h.1 a = 2) => (show h.1 a = 6 ∨ h.1 a = 8 ∨ h.1 a = 5 ∨ h.1 a = 2 ∨ h.1 a = 1 from by omega)))
      refine wa_aload_n B dX6_addAmount_81 rfl 4 rfl ?_
      have z_14 : q_12.1 a0 6 = q.1 a0 6 := h2_q_12.I ha0 (show ¬ (h.1 a0 = 2) from by omega) 6
      refine wa_getI B (C := RX6) (T := TX6) (N := 8) iq_X6_addAmount_X6 ha0 ka0 (by decide) rfl 6 (by decide) (by decide) (by decide +kernel) rfl (by decide) (v := (q.1 a0 6)) z_14 dX6_addAmount_82 ?_
      refine wa_bipush B 10 dX6_addAmount_85 (by decide) ?_
      have z_16 : q_12.1 a0 7 = q.1 a0 7 := h2_q_12.I ha0 (show ¬ (h.1 a0 = 2) from by omega) 7
      have z_17 : q_12.2.2.1 a1 4 = a_1 := (h2_q_12.R ha1 (show ¬ ((h.1 a1 = 2) ∧ (h.1 a1 = 8 ∨ h.1 a1 = 11)) from by omega) 4).trans (ea_1)
      have z_18 : q_12.2.2.1 a1 5 = a_2 := (h2_q_12.R ha1 (show ¬ ((h.1 a1 = 2) ∧ (h.1 a1 = 8 ∨ h.1 a1 = 11)) from by omega) 5).trans (ea_2)
      have z_19 : q_12.2.2.2.1 a_1 = q.2.2.2.1 a_1 := h2_q_12.G ha_1 (show ¬ (h.1 a_1 = 2) from by omega) (by rw [ka_1]; decide)
      have z_20 : q_12.2.2.2.1 a_2 = q.2.2.2.1 a_2 := h2_q_12.G ha_2 (show ¬ (h.1 a_2 = 2) from by omega) (by rw [ka_2]; decide)
      have Jn_108_21 : ∀  (q_15 : Sg), sx_V h L q_15 → sx_fr h L (fun a => h.1 a = 6 ∨ h.1 a = 8 ∨ h.1 a = 5 ∨ h.1 a = 2 ∨ h.1 a = 1) q q_15 → q_15.1 a0 6 = (q.1 a0 6) → q_15.1 a0 7 = (q.1 a0 7) → q_15.2.2.1 a1 4 = a_1 → q_15.2.2.1 a1 5 = a_2 → q_15.2.2.2.1 a_1 = (q.2.2.2.1 a_1) → q_15.2.2.2.1 a_2 = (q.2.2.2.1 a_2) → WA l dC dI h L ({ frames := 1, cells := 0, slots := 0, locals := 24 } : Room) 9 Z q_15 108 [(7, .int v_5), (6, .int v_3), (5, .int ((q.2.2.2.1 a_2 (n1 : Int32).toNatClampNeg))), (4, .int ((q.2.2.2.1 a_1 (n1 : Int32).toNatClampNeg))), (0, .ref a0), (1, .ref a1), (2, .int n1), (3, .ref a2)] [] := by
        intro q_15 hV_q_15 hF_q_15 p0_q_15 p1_q_15 p2_q_15 p3_q_15 p4_q_15 p5_q_15
        refine wa_aload_n B dX6_addAmount_108 rfl 4 rfl ?_
        refine wa_getI B (C := RX6) (T := TX6) (N := 8) iq_X6_addAmount_X6 ha0 ka0 (by decide) rfl 7 (by decide) (by decide) (by decide +kernel) rfl (by decide) (v := (q.1 a0 7)) p1_q_15 dX6_addAmount_109 ?_
        refine wa_bipush B 10 dX6_addAmount_112 (by decide) ?_
        refine wa_icmp_ne B 163 dX6_addAmount_114 (by decide) (fun (t_22 : ¬ (q.1 a0 7).toInt = 10) => ?_) (fun (t_22 : (q.1 a0 7).toInt = 10) => ?_)
        · exact hret _ _ _ dX6_addAmount_163 ⟨hV_q_15, hF_q_15⟩
        · refine wa_aload_n B dX6_addAmount_117 rfl 4 rfl ?_
          refine wa_getI B (C := RX6) (T := TX6) (N := 8) iq_X6_addAmount_X6 ha0 ka0 (by decide) rfl 6 (by decide) (by decide) (by decide +kernel) rfl (by decide) (v := (q.1 a0 6)) p0_q_15 dX6_addAmount_118 ?_
          refine wa_iconst B (-1) dX6_addAmount_121 (by decide) ?_
          have Jn_130_24 : ∀  (v_23 : Int32), WA l dC dI h L ({ frames := 1, cells := 0, slots := 0, locals := 24 } : Room) 9 Z q_15 130 [(7, .int v_5), (6, .int v_3), (5, .int ((q.2.2.2.1 a_2 (n1 : Int32).toNatClampNeg))), (4, .int ((q.2.2.2.1 a_1 (n1 : Int32).toNatClampNeg))), (0, .ref a0), (1, .ref a1), (2, .int n1), (3, .ref a2)] [.int v_23] := by
            intro v_23
            refine wa_istore B [(8, .int v_23), (7, .int v_5), (6, .int v_3), (5, .int ((q.2.2.2.1 a_2 (n1 : Int32).toNatClampNeg))), (4, .int ((q.2.2.2.1 a_1 (n1 : Int32).toNatClampNeg))), (0, .ref a0), (1, .ref a1), (2, .int n1), (3, .ref a2)] dX6_addAmount_130 (by decide) rfl ?_
            refine wa_aload_n B dX6_addAmount_132 rfl 8 rfl ?_
            refine wa_iconst B 1 dX6_addAmount_133 (by decide) ?_
            refine wa_iload B dX6_addAmount_134 4 rfl ?_
            refine wa_callVr B (x := (RX5, TX5, 7)) (As := [.int 1, .int ((q.2.2.2.1 a_1 (n1 : Int32).toNatClampNeg))]) (rest := []) (k_X5_addHole l dC dI h L hN q_15 hV_q_15 (a0 := a2) ha2 ka2 1 ((q.2.2.2.1 a_1 (n1 : Int32).toNatClampNeg))  ) (cwV 2 B.1.2.2.2.2 gX6_addAmount_X5_addHole rfl rfl rfl (by decide +kernel) ⟨Nat.le_of_ble_eq_true rfl, Nat.le_of_ble_eq_true rfl⟩) ha2 ka2 (by decide) rfl rfl rfl (Nat.le_of_ble_eq_true rfl) dX6_addAmount_136 (fun r_26 q_25 w_27 => ?_)
            obtain ⟨hV_q_25, h2_q_25, hw_27⟩ := w_27
            have hF_q_25 : sx_fr h L (fun a => h.1 a = 6 ∨ h.1 a = 8 ∨ h.1 a = 5 ∨ h.1 a = 2 ∨ h.1 a = 1) q q_25 := hF_q_15.tr (h2_q_25.mono (fun a (z : a = a2 ∧ h.1 a = 5 ∨ h.1 a = 1 ∨ h.1 a = 2) => (show h.1 a = 6 ∨ h.1 a = 8 ∨ h.1 a = 5 ∨ h.1 a = 2 ∨ h.1 a = 1 from by omega)))
            obtain ⟨hr_26, kr_26⟩ := hw_27
            refine wa_iload B dX6_addAmount_139 0 rfl ?_
            refine wa_iload B dX6_addAmount_141 3 rfl ?_
            refine wa_iload B dX6_addAmount_143 2 rfl ?_
            refine wa_isub B dX6_addAmount_145 (fun v_28 ev_28 => ?_)
            refine wa_aload_n B dX6_addAmount_146 rfl 5 rfl ?_
            have z_29 : q_25.1 a0 6 = (q.1 a0 6) := (h2_q_25.I ha0 (show ¬ (a0 = a2 ∧ h.1 a0 = 5 ∨ h.1 a0 = 1 ∨ h.1 a0 = 2) from by omega) 6).trans (p0_q_15)
            refine wa_getI B (C := RX6) (T := TX6) (N := 8) iq_X6_addAmount_X6 ha0 ka0 (by decide) rfl 6 (by decide) (by decide) (by decide +kernel) rfl (by decide) (v := (q.1 a0 6)) z_29 dX6_addAmount_147 ?_
            refine wa_bipush B 10 dX6_addAmount_150 (by decide) ?_
            have Jn_160_32 : ∀  (v_30 : Int32), v_30.toInt = 0 ∨ v_30.toInt = 1 → WA l dC dI h L ({ frames := 1, cells := 0, slots := 0, locals := 24 } : Room) 9 Z q_25 160 [(8, .int v_23), (7, .int v_5), (6, .int v_3), (5, .int ((q.2.2.2.1 a_2 (n1 : Int32).toNatClampNeg))), (4, .int ((q.2.2.2.1 a_1 (n1 : Int32).toNatClampNeg))), (0, .ref a0), (1, .ref a1), (2, .int n1), (3, .ref a2)] [.int v_30, .int v_28, .int v_23, .ref r_26] := by
              intro v_30 x_31
              refine wa_callVv B (x := (RX1, TX1, 7)) (As := [.int v_23, .int v_28, .int v_30]) (rest := []) (k_X1_limit l dC dI h L hN q_25 hV_q_25 (a0 := r_26) hr_26 kr_26 v_23 v_28 v_30  (by first | assumption | omega | decide)) (cwV 3 B.1.2.2.2.2 gX6_addAmount_X1_limit rfl rfl rfl (by decide +kernel) ⟨Nat.le_of_ble_eq_true rfl, Nat.le_of_ble_eq_true rfl⟩) hr_26 kr_26 (by decide) rfl rfl rfl (Nat.le_of_ble_eq_true rfl) dX6_addAmount_160 (fun q_33 w_34 => ?_)
              obtain ⟨hV_q_33, h2_q_33⟩ := w_34
              have hF_q_33 : sx_fr h L (fun a => h.1 a = 6 ∨ h.1 a = 8 ∨ h.1 a = 5 ∨ h.1 a = 2 ∨ h.1 a = 1) q q_33 := hF_q_25.tr (h2_q_33.mono (fun a (z : a = r_26 ∧ h.1 a = 1) => (show h.1 a = 6 ∨ h.1 a = 8 ∨ h.1 a = 5 ∨ h.1 a = 2 ∨ h.1 a = 1 from by omega)))
              exact hret _ _ _ dX6_addAmount_163 ⟨hV_q_33, hF_q_33⟩
            refine wa_icmp_ne B 159 dX6_addAmount_152 (by decide) (fun (t_35 : ¬ (q.1 a0 6).toInt = 10) => ?_) (fun (t_35 : (q.1 a0 6).toInt = 10) => ?_)
            · refine wa_iconst B 0 dX6_addAmount_159 (by decide) ?_
              exact Jn_160_32 0 (show 0 = 0 ∨ 0 = 1 from by first | assumption | (right; rfl) | decide)
            · refine wa_iconst B 1 dX6_addAmount_155 (by decide) ?_
              refine wa_goto B 160 dX6_addAmount_156 (by decide) ?_
              exact Jn_160_32 1 (show 1 = 0 ∨ 1 = 1 from by first | assumption | (right; rfl) | decide)
          refine wa_icmp_ne B 129 dX6_addAmount_122 (by decide) (fun (t_36 : ¬ (q.1 a0 6).toInt = (-1)) => ?_) (fun (t_36 : (q.1 a0 6).toInt = (-1)) => ?_)
          · refine wa_iconst B 0 dX6_addAmount_129 (by decide) ?_
            exact Jn_130_24 0
          · refine wa_iconst B 1 dX6_addAmount_125 (by decide) ?_
            refine wa_goto B 130 dX6_addAmount_126 (by decide) ?_
            exact Jn_130_24 1
      refine wa_icmp_ne B 108 dX6_addAmount_87 (by decide) (fun (t_37 : ¬ (q.1 a0 6).toInt = 10) => ?_) (fun (t_37 : (q.1 a0 6).toInt = 10) => ?_)
      · exact Jn_108_21 q_12 hV_q_12 hF_q_12 z_14 z_16 z_17 z_18 z_19 z_20
      · refine wa_aload_n B dX6_addAmount_90 rfl 7 rfl ?_
        refine wa_bipush B 10 dX6_addAmount_91 (by decide) ?_
        refine wa_iload B dX6_addAmount_93 3 rfl ?_
        refine wa_callVr B (x := (RX5, TX5, 7)) (As := [.int 10, .int ((q.2.2.2.1 a_1 (n1 : Int32).toNatClampNeg))]) (rest := []) (k_X5_addHole l dC dI h L hN q_12 hV_q_12 (a0 := a2) ha2 ka2 10 ((q.2.2.2.1 a_1 (n1 : Int32).toNatClampNeg))  ) (cwV 2 B.1.2.2.2.2 gX6_addAmount_X5_addHole rfl rfl rfl (by decide +kernel) ⟨Nat.le_of_ble_eq_true rfl, Nat.le_of_ble_eq_true rfl⟩) ha2 ka2 (by decide) rfl rfl rfl (Nat.le_of_ble_eq_true rfl) dX6_addAmount_95 (fun r_39 q_38 w_40 => ?_)
        obtain ⟨hV_q_38, h2_q_38, hw_40⟩ := w_40
        have hF_q_38 : sx_fr h L (fun a => h.1 a = 6 ∨ h.1 a = 8 ∨ h.1 a = 5 ∨ h.1 a = 2 ∨ h.1 a = 1) q q_38 := hF_q_12.tr (h2_q_38.mono (fun a (z : a = a2 ∧ h.1 a = 5 ∨ h.1 a = 1 ∨ h.1 a = 2) => (show h.1 a = 6 ∨ h.1 a = 8 ∨ h.1 a = 5 ∨ h.1 a = 2 ∨ h.1 a = 1 from by omega)))
        obtain ⟨hr_39, kr_39⟩ := hw_40
        refine wa_iconst B 1 dX6_addAmount_98 (by decide) ?_
        refine wa_iload B dX6_addAmount_99 2 rfl ?_
        refine wa_iload B dX6_addAmount_101 0 rfl ?_
        refine wa_isub B dX6_addAmount_103 (fun v_41 ev_41 => ?_)
        refine wa_iconst B 0 dX6_addAmount_104 (by decide) ?_
        refine wa_callVv B (x := (RX1, TX1, 7)) (As := [.int 1, .int v_41, .int 0]) (rest := []) (k_X1_limit l dC dI h L hN q_38 hV_q_38 (a0 := r_39) hr_39 kr_39 1 v_41 0  (by first | assumption | omega | decide)) (cwV 3 B.1.2.2.2.2 gX6_addAmount_X1_limit rfl rfl rfl (by decide +kernel) ⟨Nat.le_of_ble_eq_true rfl, Nat.le_of_ble_eq_true rfl⟩) hr_39 kr_39 (by decide) rfl rfl rfl (Nat.le_of_ble_eq_true rfl) dX6_addAmount_105 (fun q_42 w_43 => ?_)
        obtain ⟨hV_q_42, h2_q_42⟩ := w_43
        have hF_q_42 : sx_fr h L (fun a => h.1 a = 6 ∨ h.1 a = 8 ∨ h.1 a = 5 ∨ h.1 a = 2 ∨ h.1 a = 1) q q_42 := hF_q_38.tr (h2_q_42.mono (fun a (z : a = r_39 ∧ h.1 a = 1) => (show h.1 a = 6 ∨ h.1 a = 8 ∨ h.1 a = 5 ∨ h.1 a = 2 ∨ h.1 a = 1 from by omega)))
        have z_44 : q_42.1 a0 6 = (q.1 a0 6) := (h2_q_42.I ha0 (show ¬ (a0 = r_39 ∧ h.1 a0 = 1) from by omega) 6).trans ((h2_q_38.I ha0 (show ¬ (a0 = a2 ∧ h.1 a0 = 5 ∨ h.1 a0 = 1 ∨ h.1 a0 = 2) from by omega) 6).trans (z_14))
        have z_45 : q_42.1 a0 7 = (q.1 a0 7) := (h2_q_42.I ha0 (show ¬ (a0 = r_39 ∧ h.1 a0 = 1) from by omega) 7).trans ((h2_q_38.I ha0 (show ¬ (a0 = a2 ∧ h.1 a0 = 5 ∨ h.1 a0 = 1 ∨ h.1 a0 = 2) from by omega) 7).trans (z_16))
        have z_46 : q_42.2.2.1 a1 4 = a_1 := (h2_q_42.R ha1 (show ¬ ((a1 = r_39 ∧ h.1 a1 = 1) ∧ (h.1 a1 = 8 ∨ h.1 a1 = 11)) from by omega) 4).trans ((h2_q_38.R ha1 (show ¬ ((a1 = a2 ∧ h.1 a1 = 5 ∨ h.1 a1 = 1 ∨ h.1 a1 = 2) ∧ (h.1 a1 = 8 ∨ h.1 a1 = 11)) from by omega) 4).trans (z_17))
        have z_47 : q_42.2.2.1 a1 5 = a_2 := (h2_q_42.R ha1 (show ¬ ((a1 = r_39 ∧ h.1 a1 = 1) ∧ (h.1 a1 = 8 ∨ h.1 a1 = 11)) from by omega) 5).trans ((h2_q_38.R ha1 (show ¬ ((a1 = a2 ∧ h.1 a1 = 5 ∨ h.1 a1 = 1 ∨ h.1 a1 = 2) ∧ (h.1 a1 = 8 ∨ h.1 a1 = 11)) from by omega) 5).trans (z_18))
        have z_48 : q_42.2.2.2.1 a_1 = (q.2.2.2.1 a_1) := (h2_q_42.G ha_1 (show ¬ (a_1 = r_39 ∧ h.1 a_1 = 1) from by omega) (by rw [ka_1]; decide)).trans ((h2_q_38.G ha_1 (show ¬ (a_1 = a2 ∧ h.1 a_1 = 5 ∨ h.1 a_1 = 1 ∨ h.1 a_1 = 2) from by omega) (by rw [ka_1]; decide)).trans (z_19))
        have z_49 : q_42.2.2.2.1 a_2 = (q.2.2.2.1 a_2) := (h2_q_42.G ha_2 (show ¬ (a_2 = r_39 ∧ h.1 a_2 = 1) from by omega) (by rw [ka_2]; decide)).trans ((h2_q_38.G ha_2 (show ¬ (a_2 = a2 ∧ h.1 a_2 = 5 ∨ h.1 a_2 = 1 ∨ h.1 a_2 = 2) from by omega) (by rw [ka_2]; decide)).trans (z_20))
        exact Jn_108_21 q_42 hV_q_42 hF_q_42 z_44 z_45 z_46 z_47 z_48 z_49
    refine wa_icmp_ne B 59 dX6_addAmount_52 (by decide) (fun (t_50 : ¬ (q.1 a0 7).toInt = 10) => ?_) (fun (t_50 : (q.1 a0 7).toInt = 10) => ?_)
    · refine wa_aload_n B dX6_addAmount_59 rfl 3 rfl ?_
      refine wa_getI B (C := RX6) (T := TX6) (N := 8) iq_X6_addAmount_X6 ha0 ka0 (by decide) rfl 7 (by decide) (by decide) (by decide +kernel) rfl (by decide) (v := (q.1 a0 7)) rfl dX6_addAmount_60 ?_
      exact Jn_63_6 (q.1 a0 7)
    · refine wa_iconst B 0 dX6_addAmount_55 (by decide) ?_
      refine wa_goto B 63 dX6_addAmount_56 (by decide) ?_
      exact Jn_63_6 0
  refine wa_icmp_eq B 33 dX6_addAmount_21 (by decide) (fun (t_51 : (q.1 a0 6).toInt = (-1)) => ?_) (fun (t_51 : ¬ (q.1 a0 6).toInt = (-1)) => ?_)
  · refine wa_iconst B 0 dX6_addAmount_33 (by decide) ?_
    refine wa_goto B 44 dX6_addAmount_34 (by decide) ?_
    exact Jn_44_4 0
  · refine wa_aload_n B dX6_addAmount_24 rfl 2 rfl ?_
    refine wa_getI B (C := RX6) (T := TX6) (N := 8) iq_X6_addAmount_X6 ha0 ka0 (by decide) rfl 6 (by decide) (by decide) (by decide +kernel) rfl (by decide) (v := (q.1 a0 6)) rfl dX6_addAmount_25 ?_
    refine wa_bipush B 10 dX6_addAmount_28 (by decide) ?_
    refine wa_icmp_ne B 37 dX6_addAmount_30 (by decide) (fun (t_52 : ¬ (q.1 a0 6).toInt = 10) => ?_) (fun (t_52 : (q.1 a0 6).toInt = 10) => ?_)
    · refine wa_bipush B 10 dX6_addAmount_37 (by decide) ?_
      refine wa_aload_n B dX6_addAmount_39 rfl 2 rfl ?_
      refine wa_getI B (C := RX6) (T := TX6) (N := 8) iq_X6_addAmount_X6 ha0 ka0 (by decide) rfl 6 (by decide) (by decide) (by decide +kernel) rfl (by decide) (v := (q.1 a0 6)) rfl dX6_addAmount_40 ?_
      refine wa_imul B dX6_addAmount_43 (fun v_53 ev_53 => ?_)
      exact Jn_44_4 v_53
    · refine wa_iconst B 0 dX6_addAmount_33 (by decide) ?_
      refine wa_goto B 44 dX6_addAmount_34 (by decide) ?_
      exact Jn_44_4 0
theorem iq_X6_takeAmount_X5 : ∀ w ∈ wsX50, w ∈ wsX6_takeAmount := fun _ h => List.mem_cons_of_mem _ (List.mem_append_left _ (List.mem_append_left _ (List.mem_append_right _ h)))
theorem iq_X6_takeAmount_X6 : ∀ w ∈ wsX60, w ∈ wsX6_takeAmount := fun _ h => List.mem_cons_of_mem _ (List.mem_append_left _ (List.mem_append_left _ (List.mem_append_left _ (List.mem_append_left _ (List.mem_append_left _ (List.mem_append_right _ h))))))
theorem iq_X6_takeAmount_X8 : ∀ w ∈ wsX80, w ∈ wsX6_takeAmount := fun _ h => List.mem_cons_of_mem _ (List.mem_append_left _ (List.mem_append_left _ (List.mem_append_left _ (List.mem_append_left _ (List.mem_append_right _ h)))))
theorem iq_X6_takeAmount_X9 : ∀ w ∈ wsX90, w ∈ wsX6_takeAmount := fun _ h => List.mem_cons_of_mem _ (List.mem_append_left _ (List.mem_append_left _ (List.mem_append_left _ (List.mem_append_right _ h))))
set_option maxHeartbeats 4000000 in
set_option maxRecDepth 100000 in
theorem k_X6_takeAmount (l : Launch) (dC : Nat → ClassId) (dI : Nat → Nat → Nat) (h : Sh) (L : List Nat) (hN : sx_nd L) (q : Sg) (hV : sx_V h L q) {a0 : Nat} (ha0 : a0 ∈ L) (ka0 : h.1 a0 = 6) {a1 : Nat} (ha1 : a1 ∈ L) (ka1 : h.1 a1 = 9) {a2 : Nat} (ha2 : a2 ∈ L) (ka2 : h.1 a2 = 5)   : CMi l dC dI h L yX6_takeAmount wsX6_takeAmount ({ frames := 2, cells := 0, slots := 0, locals := 52 } : Room) q [.ref a0, .ref a1, .ref a2] (fun r q' => sx_V h L q' ∧ sx_fr h L (fun a => h.1 a = 6 ∨ h.1 a = 8 ∨ h.1 a = 5 ∨ h.1 a = 2 ∨ h.1 a = 1) q q' ∧ (r.toInt = 0 ∨ r.toInt = 1)) := by
  refine cm_z (cc := cX6_takeAmount) (mL := 4) (own := RX6) hN (by decide) rfl rfl (Nat.le_of_ble_eq_true rfl) (fun Z B hret => ?_)
  have hF : sx_fr h L (fun a => h.1 a = 6 ∨ h.1 a = 8 ∨ h.1 a = 5 ∨ h.1 a = 2 ∨ h.1 a = 1) q q := sx_fr.rf
  show WA l dC dI h L ({ frames := 2, cells := 0, slots := 0, locals := 52 } : Room) 4 Z q 0 [(0, .ref a0), (1, .ref a1), (2, .ref a2)] []
  refine wa_aload_n B dX6_takeAmount_0 rfl 0 rfl ?_
  obtain ⟨a_1, ea_1, ha_1, ka_1⟩ := hV.ref (t := 8) ha0 ka0 0 rfl (by decide)
  refine wa_getR B (C := RX6) (T := TX6) (N := 8) iq_X6_takeAmount_X6 ha0 ka0 (by decide) rfl 0 (by decide) (by decide) (by decide +kernel) rfl (fun _ _ _ => rfl) (v := a_1) ea_1 dX6_takeAmount_1 ?_
  refine wa_getI B (C := RX8) (T := TX8) (N := 11) iq_X6_takeAmount_X8 ha_1 ka_1 (by decide) rfl 0 (by decide) (by decide) (by decide +kernel) rfl (by decide) (v := (q.1 a_1 0)) rfl dX6_takeAmount_4 ?_
  refine wa_iconst B 2 dX6_takeAmount_7 (by decide) ?_
  have Jn_26_4 : ∀  (v_2 : Int32), (-1) ≤ v_2.toInt ∧ v_2.toInt ≤ 14 → WA l dC dI h L ({ frames := 2, cells := 0, slots := 0, locals := 52 } : Room) 4 Z q 26 [(0, .ref a0), (1, .ref a1), (2, .ref a2)] [.int v_2] := by
    intro v_2 x_3
    refine wa_istore_n B [(3, .int v_2), (0, .ref a0), (1, .ref a1), (2, .ref a2)] dX6_takeAmount_26 rfl (by decide) rfl ?_
    refine wa_aload_n B dX6_takeAmount_27 rfl 1 rfl ?_
    refine wa_iload_n B dX6_takeAmount_28 rfl 0 rfl ?_
    refine wa_iconst B (-1) dX6_takeAmount_29 (by decide) ?_
    refine wa_icmp_ne B 38 dX6_takeAmount_30 (by decide) (fun (t_5 : ¬ v_2.toInt = (-1)) => ?_) (fun (t_5 : v_2.toInt = (-1)) => ?_)
    · refine wa_aload_n B dX6_takeAmount_38 rfl 2 rfl ?_
      obtain ⟨a_6, ea_6, ha_6, ka_6, la_6⟩ := hV.refn (n := 15) (t := 104) ha1 ka1 5 rfl (by decide) rfl (by decide)
      refine wa_getR B (C := RX9) (T := TX9) (N := 7) iq_X6_takeAmount_X9 ha1 ka1 (by decide) rfl 5 (by decide) (by decide) (by decide +kernel) rfl (fun _ _ _ => rfl) (v := a_6) ea_6 dX6_takeAmount_39 ?_
      refine wa_iload_n B dX6_takeAmount_42 rfl 0 rfl ?_
      refine wa_iaload B ha_6 ka_6 (by decide) (by decide) (show 0 ≤ v_2.toInt by omega) (show v_2.toInt < (h.2.1 a_6 : Int) by omega) (v := (q.2.2.2.1 a_6 (v_2 : Int32).toNatClampNeg)) rfl dX6_takeAmount_43 ?_
      refine wa_callVi B (x := (RX6, TX6, 8)) (As := [.int ((q.2.2.2.1 a_6 (v_2 : Int32).toNatClampNeg))]) (rest := []) (k_X6_canCountBe l dC dI h L hN q hV (a0 := a0) ha0 ka0 ((q.2.2.2.1 a_6 (v_2 : Int32).toNatClampNeg))  ) (cwV 1 B.1.2.2.2.2 gX6_takeAmount_X6_canCountBe rfl rfl rfl (by decide +kernel) ⟨Nat.le_of_ble_eq_true rfl, Nat.le_of_ble_eq_true rfl⟩) ha0 ka0 (by decide) rfl rfl rfl (Nat.le_of_ble_eq_true rfl) dX6_takeAmount_44 (fun r_8 q_7 w_9 => ?_)
      obtain ⟨ew_9, hw_9⟩ := w_9
      subst ew_9
      refine wa_if_ne B 63 dX6_takeAmount_47 (by decide) (fun (t_10 : ¬ r_8.toInt = 0) => ?_) (fun (t_10 : r_8.toInt = 0) => ?_)
      · refine wa_aload_n B dX6_takeAmount_63 rfl 1 rfl ?_
        refine wa_getI B (C := RX6) (T := TX6) (N := 8) iq_X6_takeAmount_X6 ha0 ka0 (by decide) rfl 3 (by decide) (by decide) (by decide +kernel) rfl (by decide) (v := (q.1 a0 3)) rfl dX6_takeAmount_64 ?_
        refine wa_if_ne B 83 dX6_takeAmount_67 (by decide) (fun (t_11 : ¬ (q.1 a0 3).toInt = 0) => ?_) (fun (t_11 : (q.1 a0 3).toInt = 0) => ?_)
        · refine wa_aload_n B dX6_takeAmount_83 rfl 1 rfl ?_
          refine wa_getR B (C := RX6) (T := TX6) (N := 8) iq_X6_takeAmount_X6 ha0 ka0 (by decide) rfl 0 (by decide) (by decide) (by decide +kernel) rfl (fun _ _ _ => rfl) (v := a_1) ea_1 dX6_takeAmount_84 ?_
          refine wa_iconst B 4 dX6_takeAmount_87 (by decide) ?_
          refine wa_aload_n B dX6_takeAmount_88 rfl 1 rfl ?_
          refine wa_getI B (C := RX6) (T := TX6) (N := 8) iq_X6_takeAmount_X6 ha0 ka0 (by decide) rfl 5 (by decide) (by decide) (by decide +kernel) rfl (by decide) (v := (q.1 a0 5)) rfl dX6_takeAmount_89 ?_
          refine wa_callVi B (x := (RX8, TX8, 11)) (As := [.int 4, .int (q.1 a0 5)]) (rest := []) (k_X8_refuse l dC dI h L hN q hV (a0 := a_1) ha_1 ka_1 4 (q.1 a0 5)  ) (cwV 2 B.1.2.2.2.2 gX6_takeAmount_X8_refuse rfl rfl rfl (by decide +kernel) ⟨Nat.le_of_ble_eq_true rfl, Nat.le_of_ble_eq_true rfl⟩) ha_1 ka_1 (by decide) rfl rfl rfl (Nat.le_of_ble_eq_true rfl) dX6_takeAmount_92 (fun r_13 q_12 w_14 => ?_)
          obtain ⟨hV_q_12, h2_q_12, hw_14⟩ := w_14
          have hF_q_12 : sx_fr h L (fun a => h.1 a = 6 ∨ h.1 a = 8 ∨ h.1 a = 5 ∨ h.1 a = 2 ∨ h.1 a = 1) q q_12 := hF.tr (h2_q_12.mono (fun a (z : a = a_1 ∧ h.1 a = 8) => (show h.1 a = 6 ∨ h.1 a = 8 ∨ h.1 a = 5 ∨ h.1 a = 2 ∨ h.1 a = 1 from by omega)))
          exact hret _ _ _ _ dX6_takeAmount_95 (zx_01 (by omega)) ⟨hV_q_12, hF_q_12, (by first | omega | (refine ⟨?_, ?_⟩ <;> omega) | trivial)⟩
        · refine wa_aload_n B dX6_takeAmount_70 rfl 3 rfl ?_
          refine wa_getI B (C := RX5) (T := TX5) (N := 7) iq_X6_takeAmount_X5 ha2 ka2 (by decide) rfl 3 (by decide) (by decide) (by decide +kernel) rfl (by decide) (v := (q.1 a2 3)) rfl dX6_takeAmount_71 ?_
          have g_15 : (0 : Int) ≤ (q.1 a2 3).toInt ∧ (q.1 a2 3).toInt ≤ 4 := hV.int ha2 ka2 3
          refine wa_aload_n B dX6_takeAmount_74 rfl 1 rfl ?_
          refine wa_callVi B (x := (RX6, TX6, 8)) (As := []) (rest := [.int (q.1 a2 3)]) (k_X6_brokenDigits l dC dI h L hN q hV (a0 := a0) ha0 ka0  ) (cwV 0 B.1.2.2.2.2 gX6_takeAmount_X6_brokenDigits rfl rfl rfl (by decide +kernel) ⟨Nat.le_of_ble_eq_true rfl, Nat.le_of_ble_eq_true rfl⟩) ha0 ka0 (by decide) rfl rfl rfl (Nat.le_of_ble_eq_true rfl) dX6_takeAmount_75 (fun r_17 q_16 w_18 => ?_)
          subst w_18
          refine wa_iadd B dX6_takeAmount_78 (fun v_19 ev_19 => ?_)
          refine wa_iconst B 4 dX6_takeAmount_79 (by decide) ?_
          refine wa_icmp_le B 96 dX6_takeAmount_80 (by decide) (fun (t_20 : v_19.toInt ≤ 4) => ?_) (fun (t_20 : ¬ v_19.toInt ≤ 4) => ?_)
          · refine wa_aload_n B dX6_takeAmount_96 rfl 1 rfl ?_
            refine wa_getR B (C := RX6) (T := TX6) (N := 8) iq_X6_takeAmount_X6 ha0 ka0 (by decide) rfl 0 (by decide) (by decide) (by decide +kernel) rfl (fun _ _ _ => rfl) (v := a_1) ea_1 dX6_takeAmount_97 ?_
            refine wa_iconst B 2 dX6_takeAmount_100 (by decide) ?_
            refine wa_callVi B (x := (RX8, TX8, 11)) (As := [.int 2]) (rest := []) (k_X8_demand l dC dI h L hN q hV (a0 := a_1) ha_1 ka_1 2  ) (cwV 1 B.1.2.2.2.2 gX6_takeAmount_X8_demand rfl rfl rfl (by decide +kernel) ⟨Nat.le_of_ble_eq_true rfl, Nat.le_of_ble_eq_true rfl⟩) ha_1 ka_1 (by decide) rfl rfl rfl (Nat.le_of_ble_eq_true rfl) dX6_takeAmount_101 (fun r_22 q_21 w_23 => ?_)
            obtain ⟨hV_q_21, h2_q_21, hw_23⟩ := w_23
            have hF_q_21 : sx_fr h L (fun a => h.1 a = 6 ∨ h.1 a = 8 ∨ h.1 a = 5 ∨ h.1 a = 2 ∨ h.1 a = 1) q q_21 := hF.tr (h2_q_21.mono (fun a (z : a = a_1 ∧ h.1 a = 8) => (show h.1 a = 6 ∨ h.1 a = 8 ∨ h.1 a = 5 ∨ h.1 a = 2 ∨ h.1 a = 1 from by omega)))
            refine wa_if_ne B 109 dX6_takeAmount_104 (by decide) (fun (t_24 : ¬ r_22.toInt = 0) => ?_) (fun (t_24 : r_22.toInt = 0) => ?_)
            · refine wa_iload_n B dX6_takeAmount_109 rfl 0 rfl ?_
              refine wa_iconst B (-1) dX6_takeAmount_110 (by decide) ?_
              refine wa_icmp_eq B 133 dX6_takeAmount_111 (by decide) (fun (t_25 : v_2.toInt = (-1)) => ?_) (fun (t_25 : ¬ v_2.toInt = (-1)) => ?_)
              · refine wa_aload_n B dX6_takeAmount_133 rfl 1 rfl ?_
                have z_26 : q_21.2.2.1 a0 0 = a_1 := (h2_q_21.R ha0 (show ¬ ((a0 = a_1 ∧ h.1 a0 = 8) ∧ (h.1 a0 = 8 ∨ h.1 a0 = 11)) from by omega) 0).trans (ea_1)
                refine wa_getR B (C := RX6) (T := TX6) (N := 8) iq_X6_takeAmount_X6 ha0 ka0 (by decide) rfl 0 (by decide) (by decide) (by decide +kernel) rfl (fun _ _ _ => rfl) (v := a_1) z_26 dX6_takeAmount_134 ?_
                refine wa_iconst B 3 dX6_takeAmount_137 (by decide) ?_
                refine wa_aload_n B dX6_takeAmount_138 rfl 1 rfl ?_
                refine wa_getR B (C := RX6) (T := TX6) (N := 8) iq_X6_takeAmount_X6 ha0 ka0 (by decide) rfl 0 (by decide) (by decide) (by decide +kernel) rfl (fun _ _ _ => rfl) (v := a_1) z_26 dX6_takeAmount_139 ?_
                refine wa_getI B (C := RX8) (T := TX8) (N := 11) iq_X6_takeAmount_X8 ha_1 ka_1 (by decide) rfl 1 (by decide) (by decide) (by decide +kernel) rfl (by decide) (v := (q_21.1 a_1 1)) rfl dX6_takeAmount_142 ?_
                refine wa_callVi B (x := (RX8, TX8, 11)) (As := [.int 3, .int (q_21.1 a_1 1)]) (rest := []) (k_X8_refuse l dC dI h L hN q_21 hV_q_21 (a0 := a_1) ha_1 ka_1 3 (q_21.1 a_1 1)  ) (cwV 2 B.1.2.2.2.2 gX6_takeAmount_X8_refuse rfl rfl rfl (by decide +kernel) ⟨Nat.le_of_ble_eq_true rfl, Nat.le_of_ble_eq_true rfl⟩) ha_1 ka_1 (by decide) rfl rfl rfl (Nat.le_of_ble_eq_true rfl) dX6_takeAmount_145 (fun r_28 q_27 w_29 => ?_)
                obtain ⟨hV_q_27, h2_q_27, hw_29⟩ := w_29
                have hF_q_27 : sx_fr h L (fun a => h.1 a = 6 ∨ h.1 a = 8 ∨ h.1 a = 5 ∨ h.1 a = 2 ∨ h.1 a = 1) q q_27 := hF_q_21.tr (h2_q_27.mono (fun a (z : a = a_1 ∧ h.1 a = 8) => (show h.1 a = 6 ∨ h.1 a = 8 ∨ h.1 a = 5 ∨ h.1 a = 2 ∨ h.1 a = 1 from by omega)))
                exact hret _ _ _ _ dX6_takeAmount_148 (zx_01 (by omega)) ⟨hV_q_27, hF_q_27, (by first | omega | (refine ⟨?_, ?_⟩ <;> omega) | trivial)⟩
              · refine wa_aload_n B dX6_takeAmount_114 rfl 1 rfl ?_
                refine wa_getI B (C := RX6) (T := TX6) (N := 8) iq_X6_takeAmount_X6 ha0 ka0 (by decide) rfl 4 (by decide) (by decide) (by decide +kernel) rfl (by decide) (v := (q_21.1 a0 4)) rfl dX6_takeAmount_115 ?_
                refine wa_iconst B (-1) dX6_takeAmount_118 (by decide) ?_
                refine wa_icmp_eq B 149 dX6_takeAmount_119 (by decide) (fun (t_30 : (q_21.1 a0 4).toInt = (-1)) => ?_) (fun (t_30 : ¬ (q_21.1 a0 4).toInt = (-1)) => ?_)
                · refine wa_aload_n B dX6_takeAmount_149 rfl 1 rfl ?_
                  refine wa_aload_n B dX6_takeAmount_150 rfl 2 rfl ?_
                  refine wa_iload_n B dX6_takeAmount_151 rfl 0 rfl ?_
                  refine wa_aload_n B dX6_takeAmount_152 rfl 3 rfl ?_
                  refine wa_callVv B (x := (RX6, TX6, 8)) (As := [.ref a1, .int v_2, .ref a2]) (rest := []) (k_X6_addAmount l dC dI h L hN q_21 hV_q_21 (a0 := a0) ha0 ka0 (a1 := a1) ha1 ka1 v_2 (a2 := a2) ha2 ka2  (by first | assumption | omega | decide) (by first | assumption | omega | decide)) (cwV 3 B.1.2.2.2.2 gX6_takeAmount_X6_addAmount rfl rfl rfl (by decide +kernel) ⟨Nat.le_of_ble_eq_true rfl, Nat.le_of_ble_eq_true rfl⟩) ha0 ka0 (by decide) rfl rfl rfl (Nat.le_of_ble_eq_true rfl) dX6_takeAmount_153 (fun q_31 w_32 => ?_)
                  obtain ⟨hV_q_31, h2_q_31⟩ := w_32
                  have hF_q_31 : sx_fr h L (fun a => h.1 a = 6 ∨ h.1 a = 8 ∨ h.1 a = 5 ∨ h.1 a = 2 ∨ h.1 a = 1) q q_31 := hF_q_21.tr (h2_q_31.mono (fun a (z : h.1 a = 6 ∨ h.1 a = 8 ∨ h.1 a = 5 ∨ h.1 a = 2 ∨ h.1 a = 1) => (show h.1 a = 6 ∨ h.1 a = 8 ∨ h.1 a = 5 ∨ h.1 a = 2 ∨ h.1 a = 1 from by omega)))
                  refine wa_aload_n B dX6_takeAmount_156 rfl 1 rfl ?_
                  refine wa_iload_n B dX6_takeAmount_157 rfl 0 rfl ?_
                  refine wa_putI B (C := RX6) (T := TX6) (N := 8) iq_X6_takeAmount_X6 ha0 ka0 (by decide) rfl 4 (by decide) (by decide) (by decide +kernel) rfl (by decide) (v := v_2) (ty := .int) tyX6 tyX6_ok nmX6 rfl (by decide +kernel) rfl rfl dX6_takeAmount_158 (fun q_33 eq_33 => ?_)
                  have hV_q_33 : sx_V h L q_33 := by rw [eq_33]; exact hV_q_31.pI ka0 trivial
                  have hF_q_33 : sx_fr h L (fun a => h.1 a = 6 ∨ h.1 a = 8 ∨ h.1 a = 5 ∨ h.1 a = 2 ∨ h.1 a = 1) q q_33 := hF_q_31.tr (by rw [eq_33]; exact sx_fr.pI (show h.1 a0 = 6 ∨ h.1 a0 = 8 ∨ h.1 a0 = 5 ∨ h.1 a0 = 2 ∨ h.1 a0 = 1 from by omega))
                  have z_34 : q_33.1 a0 4 = v_2 := by rw [eq_33]; exact sg_pI_e
                  refine wa_aload_n B dX6_takeAmount_161 rfl 1 rfl ?_
                  refine wa_iconst B 3 dX6_takeAmount_162 (by decide) ?_
                  refine wa_putI B (C := RX6) (T := TX6) (N := 8) iq_X6_takeAmount_X6 ha0 ka0 (by decide) rfl 1 (by decide) (by decide) (by decide +kernel) rfl (by decide) (v := 3) (ty := .int) tyX6 tyX6_ok nmX6 rfl (by decide +kernel) rfl rfl dX6_takeAmount_163 (fun q_35 eq_35 => ?_)
                  have hV_q_35 : sx_V h L q_35 := by rw [eq_35]; exact hV_q_33.pI ka0 trivial
                  have hF_q_35 : sx_fr h L (fun a => h.1 a = 6 ∨ h.1 a = 8 ∨ h.1 a = 5 ∨ h.1 a = 2 ∨ h.1 a = 1) q q_35 := hF_q_33.tr (by rw [eq_35]; exact sx_fr.pI (show h.1 a0 = 6 ∨ h.1 a0 = 8 ∨ h.1 a0 = 5 ∨ h.1 a0 = 2 ∨ h.1 a0 = 1 from by omega))
                  have z_36 : q_35.1 a0 1 = 3 := by rw [eq_35]; exact sg_pI_e
                  refine wa_iconst B 1 dX6_takeAmount_166 (by decide) ?_
                  exact hret _ _ _ _ dX6_takeAmount_167 (Or.inr rfl) ⟨hV_q_35, hF_q_35, (by have h9 : (1 : Int32).toInt = 1 := rfl; first | omega | (refine ⟨?_, ?_⟩ <;> omega) | trivial)⟩
                · refine wa_iload_n B dX6_takeAmount_122 rfl 0 rfl ?_
                  refine wa_aload_n B dX6_takeAmount_123 rfl 1 rfl ?_
                  refine wa_getI B (C := RX6) (T := TX6) (N := 8) iq_X6_takeAmount_X6 ha0 ka0 (by decide) rfl 4 (by decide) (by decide) (by decide +kernel) rfl (by decide) (v := (q_21.1 a0 4)) rfl dX6_takeAmount_124 ?_
                  refine wa_callSi B (As := [.int v_2, .int (q_21.1 a0 4)]) (rest := []) (k_X6_isLesser l dC dI h L hN q_21 hV_q_21 v_2 (q_21.1 a0 4)  ) (va_cwS 2 B.1.2.2.2.2 gX6_takeAmount_X6_isLesser rfl rfl rfl (by decide +kernel) ⟨Nat.le_of_ble_eq_true rfl, Nat.le_of_ble_eq_true rfl⟩) rfl rfl (Nat.le_of_ble_eq_true rfl) dX6_takeAmount_127 (fun r_38 q_37 w_39 => ?_)
                  obtain ⟨ew_39, hw_39⟩ := w_39
                  subst ew_39
                  refine wa_if_ne B 149 dX6_takeAmount_130 (by decide) (fun (t_40 : ¬ r_38.toInt = 0) => ?_) (fun (t_40 : r_38.toInt = 0) => ?_)
                  · refine wa_aload_n B dX6_takeAmount_149 rfl 1 rfl ?_
                    refine wa_aload_n B dX6_takeAmount_150 rfl 2 rfl ?_
                    refine wa_iload_n B dX6_takeAmount_151 rfl 0 rfl ?_
                    refine wa_aload_n B dX6_takeAmount_152 rfl 3 rfl ?_
                    refine wa_callVv B (x := (RX6, TX6, 8)) (As := [.ref a1, .int v_2, .ref a2]) (rest := []) (k_X6_addAmount l dC dI h L hN q_21 hV_q_21 (a0 := a0) ha0 ka0 (a1 := a1) ha1 ka1 v_2 (a2 := a2) ha2 ka2  (by first | assumption | omega | decide) (by first | assumption | omega | decide)) (cwV 3 B.1.2.2.2.2 gX6_takeAmount_X6_addAmount rfl rfl rfl (by decide +kernel) ⟨Nat.le_of_ble_eq_true rfl, Nat.le_of_ble_eq_true rfl⟩) ha0 ka0 (by decide) rfl rfl rfl (Nat.le_of_ble_eq_true rfl) dX6_takeAmount_153 (fun q_41 w_42 => ?_)
                    obtain ⟨hV_q_41, h2_q_41⟩ := w_42
                    have hF_q_41 : sx_fr h L (fun a => h.1 a = 6 ∨ h.1 a = 8 ∨ h.1 a = 5 ∨ h.1 a = 2 ∨ h.1 a = 1) q q_41 := hF_q_21.tr (h2_q_41.mono (fun a (z : h.1 a = 6 ∨ h.1 a = 8 ∨ h.1 a = 5 ∨ h.1 a = 2 ∨ h.1 a = 1) => (show h.1 a = 6 ∨ h.1 a = 8 ∨ h.1 a = 5 ∨ h.1 a = 2 ∨ h.1 a = 1 from by omega)))
                    refine wa_aload_n B dX6_takeAmount_156 rfl 1 rfl ?_
                    refine wa_iload_n B dX6_takeAmount_157 rfl 0 rfl ?_
                    refine wa_putI B (C := RX6) (T := TX6) (N := 8) iq_X6_takeAmount_X6 ha0 ka0 (by decide) rfl 4 (by decide) (by decide) (by decide +kernel) rfl (by decide) (v := v_2) (ty := .int) tyX6 tyX6_ok nmX6 rfl (by decide +kernel) rfl rfl dX6_takeAmount_158 (fun q_43 eq_43 => ?_)
                    have hV_q_43 : sx_V h L q_43 := by rw [eq_43]; exact hV_q_41.pI ka0 trivial
                    have hF_q_43 : sx_fr h L (fun a => h.1 a = 6 ∨ h.1 a = 8 ∨ h.1 a = 5 ∨ h.1 a = 2 ∨ h.1 a = 1) q q_43 := hF_q_41.tr (by rw [eq_43]; exact sx_fr.pI (show h.1 a0 = 6 ∨ h.1 a0 = 8 ∨ h.1 a0 = 5 ∨ h.1 a0 = 2 ∨ h.1 a0 = 1 from by omega))
                    have z_44 : q_43.1 a0 4 = v_2 := by rw [eq_43]; exact sg_pI_e
                    refine wa_aload_n B dX6_takeAmount_161 rfl 1 rfl ?_
                    refine wa_iconst B 3 dX6_takeAmount_162 (by decide) ?_
                    refine wa_putI B (C := RX6) (T := TX6) (N := 8) iq_X6_takeAmount_X6 ha0 ka0 (by decide) rfl 1 (by decide) (by decide) (by decide +kernel) rfl (by decide) (v := 3) (ty := .int) tyX6 tyX6_ok nmX6 rfl (by decide +kernel) rfl rfl dX6_takeAmount_163 (fun q_45 eq_45 => ?_)
                    have hV_q_45 : sx_V h L q_45 := by rw [eq_45]; exact hV_q_43.pI ka0 trivial
                    have hF_q_45 : sx_fr h L (fun a => h.1 a = 6 ∨ h.1 a = 8 ∨ h.1 a = 5 ∨ h.1 a = 2 ∨ h.1 a = 1) q q_45 := hF_q_43.tr (by rw [eq_45]; exact sx_fr.pI (show h.1 a0 = 6 ∨ h.1 a0 = 8 ∨ h.1 a0 = 5 ∨ h.1 a0 = 2 ∨ h.1 a0 = 1 from by omega))
                    have z_46 : q_45.1 a0 1 = 3 := by rw [eq_45]; exact sg_pI_e
                    refine wa_iconst B 1 dX6_takeAmount_166 (by decide) ?_
                    exact hret _ _ _ _ dX6_takeAmount_167 (Or.inr rfl) ⟨hV_q_45, hF_q_45, (by have h9 : (1 : Int32).toInt = 1 := rfl; first | omega | (refine ⟨?_, ?_⟩ <;> omega) | trivial)⟩
                  · refine wa_aload_n B dX6_takeAmount_133 rfl 1 rfl ?_
                    have z_47 : q_21.2.2.1 a0 0 = a_1 := (h2_q_21.R ha0 (show ¬ ((a0 = a_1 ∧ h.1 a0 = 8) ∧ (h.1 a0 = 8 ∨ h.1 a0 = 11)) from by omega) 0).trans (ea_1)
                    refine wa_getR B (C := RX6) (T := TX6) (N := 8) iq_X6_takeAmount_X6 ha0 ka0 (by decide) rfl 0 (by decide) (by decide) (by decide +kernel) rfl (fun _ _ _ => rfl) (v := a_1) z_47 dX6_takeAmount_134 ?_
                    refine wa_iconst B 3 dX6_takeAmount_137 (by decide) ?_
                    refine wa_aload_n B dX6_takeAmount_138 rfl 1 rfl ?_
                    refine wa_getR B (C := RX6) (T := TX6) (N := 8) iq_X6_takeAmount_X6 ha0 ka0 (by decide) rfl 0 (by decide) (by decide) (by decide +kernel) rfl (fun _ _ _ => rfl) (v := a_1) z_47 dX6_takeAmount_139 ?_
                    refine wa_getI B (C := RX8) (T := TX8) (N := 11) iq_X6_takeAmount_X8 ha_1 ka_1 (by decide) rfl 1 (by decide) (by decide) (by decide +kernel) rfl (by decide) (v := (q_21.1 a_1 1)) rfl dX6_takeAmount_142 ?_
                    refine wa_callVi B (x := (RX8, TX8, 11)) (As := [.int 3, .int (q_21.1 a_1 1)]) (rest := []) (k_X8_refuse l dC dI h L hN q_21 hV_q_21 (a0 := a_1) ha_1 ka_1 3 (q_21.1 a_1 1)  ) (cwV 2 B.1.2.2.2.2 gX6_takeAmount_X8_refuse rfl rfl rfl (by decide +kernel) ⟨Nat.le_of_ble_eq_true rfl, Nat.le_of_ble_eq_true rfl⟩) ha_1 ka_1 (by decide) rfl rfl rfl (Nat.le_of_ble_eq_true rfl) dX6_takeAmount_145 (fun r_49 q_48 w_50 => ?_)
                    obtain ⟨hV_q_48, h2_q_48, hw_50⟩ := w_50
                    have hF_q_48 : sx_fr h L (fun a => h.1 a = 6 ∨ h.1 a = 8 ∨ h.1 a = 5 ∨ h.1 a = 2 ∨ h.1 a = 1) q q_48 := hF_q_21.tr (h2_q_48.mono (fun a (z : a = a_1 ∧ h.1 a = 8) => (show h.1 a = 6 ∨ h.1 a = 8 ∨ h.1 a = 5 ∨ h.1 a = 2 ∨ h.1 a = 1 from by omega)))
                    exact hret _ _ _ _ dX6_takeAmount_148 (zx_01 (by omega)) ⟨hV_q_48, hF_q_48, (by first | omega | (refine ⟨?_, ?_⟩ <;> omega) | trivial)⟩
            · refine wa_iconst B 0 dX6_takeAmount_107 (by decide) ?_
              exact hret _ _ _ _ dX6_takeAmount_108 (Or.inl rfl) ⟨hV_q_21, hF_q_21, (by have h9 : (0 : Int32).toInt = 0 := rfl; first | omega | (refine ⟨?_, ?_⟩ <;> omega) | trivial)⟩
          · refine wa_aload_n B dX6_takeAmount_83 rfl 1 rfl ?_
            refine wa_getR B (C := RX6) (T := TX6) (N := 8) iq_X6_takeAmount_X6 ha0 ka0 (by decide) rfl 0 (by decide) (by decide) (by decide +kernel) rfl (fun _ _ _ => rfl) (v := a_1) ea_1 dX6_takeAmount_84 ?_
            refine wa_iconst B 4 dX6_takeAmount_87 (by decide) ?_
            refine wa_aload_n B dX6_takeAmount_88 rfl 1 rfl ?_
            refine wa_getI B (C := RX6) (T := TX6) (N := 8) iq_X6_takeAmount_X6 ha0 ka0 (by decide) rfl 5 (by decide) (by decide) (by decide +kernel) rfl (by decide) (v := (q.1 a0 5)) rfl dX6_takeAmount_89 ?_
            refine wa_callVi B (x := (RX8, TX8, 11)) (As := [.int 4, .int (q.1 a0 5)]) (rest := []) (k_X8_refuse l dC dI h L hN q hV (a0 := a_1) ha_1 ka_1 4 (q.1 a0 5)  ) (cwV 2 B.1.2.2.2.2 gX6_takeAmount_X8_refuse rfl rfl rfl (by decide +kernel) ⟨Nat.le_of_ble_eq_true rfl, Nat.le_of_ble_eq_true rfl⟩) ha_1 ka_1 (by decide) rfl rfl rfl (Nat.le_of_ble_eq_true rfl) dX6_takeAmount_92 (fun r_52 q_51 w_53 => ?_)
            obtain ⟨hV_q_51, h2_q_51, hw_53⟩ := w_53
            have hF_q_51 : sx_fr h L (fun a => h.1 a = 6 ∨ h.1 a = 8 ∨ h.1 a = 5 ∨ h.1 a = 2 ∨ h.1 a = 1) q q_51 := hF.tr (h2_q_51.mono (fun a (z : a = a_1 ∧ h.1 a = 8) => (show h.1 a = 6 ∨ h.1 a = 8 ∨ h.1 a = 5 ∨ h.1 a = 2 ∨ h.1 a = 1 from by omega)))
            exact hret _ _ _ _ dX6_takeAmount_95 (zx_01 (by omega)) ⟨hV_q_51, hF_q_51, (by first | omega | (refine ⟨?_, ?_⟩ <;> omega) | trivial)⟩
      · refine wa_aload_n B dX6_takeAmount_50 rfl 1 rfl ?_
        refine wa_getR B (C := RX6) (T := TX6) (N := 8) iq_X6_takeAmount_X6 ha0 ka0 (by decide) rfl 0 (by decide) (by decide) (by decide +kernel) rfl (fun _ _ _ => rfl) (v := a_1) ea_1 dX6_takeAmount_51 ?_
        refine wa_iconst B 2 dX6_takeAmount_54 (by decide) ?_
        refine wa_aload_n B dX6_takeAmount_55 rfl 1 rfl ?_
        refine wa_getI B (C := RX6) (T := TX6) (N := 8) iq_X6_takeAmount_X6 ha0 ka0 (by decide) rfl 5 (by decide) (by decide) (by decide +kernel) rfl (by decide) (v := (q.1 a0 5)) rfl dX6_takeAmount_56 ?_
        refine wa_callVi B (x := (RX8, TX8, 11)) (As := [.int 2, .int (q.1 a0 5)]) (rest := []) (k_X8_refuse l dC dI h L hN q hV (a0 := a_1) ha_1 ka_1 2 (q.1 a0 5)  ) (cwV 2 B.1.2.2.2.2 gX6_takeAmount_X8_refuse rfl rfl rfl (by decide +kernel) ⟨Nat.le_of_ble_eq_true rfl, Nat.le_of_ble_eq_true rfl⟩) ha_1 ka_1 (by decide) rfl rfl rfl (Nat.le_of_ble_eq_true rfl) dX6_takeAmount_59 (fun r_55 q_54 w_56 => ?_)
        obtain ⟨hV_q_54, h2_q_54, hw_56⟩ := w_56
        have hF_q_54 : sx_fr h L (fun a => h.1 a = 6 ∨ h.1 a = 8 ∨ h.1 a = 5 ∨ h.1 a = 2 ∨ h.1 a = 1) q q_54 := hF.tr (h2_q_54.mono (fun a (z : a = a_1 ∧ h.1 a = 8) => (show h.1 a = 6 ∨ h.1 a = 8 ∨ h.1 a = 5 ∨ h.1 a = 2 ∨ h.1 a = 1 from by omega)))
        exact hret _ _ _ _ dX6_takeAmount_62 (zx_01 (by omega)) ⟨hV_q_54, hF_q_54, (by first | omega | (refine ⟨?_, ?_⟩ <;> omega) | trivial)⟩
    · refine wa_bipush B 99 dX6_takeAmount_33 (by decide) ?_
      refine wa_goto B 44 dX6_takeAmount_35 (by decide) ?_
      refine wa_callVi B (x := (RX6, TX6, 8)) (As := [.int 99]) (rest := []) (k_X6_canCountBe l dC dI h L hN q hV (a0 := a0) ha0 ka0 99  ) (cwV 1 B.1.2.2.2.2 gX6_takeAmount_X6_canCountBe rfl rfl rfl (by decide +kernel) ⟨Nat.le_of_ble_eq_true rfl, Nat.le_of_ble_eq_true rfl⟩) ha0 ka0 (by decide) rfl rfl rfl (Nat.le_of_ble_eq_true rfl) dX6_takeAmount_44 (fun r_58 q_57 w_59 => ?_)
      obtain ⟨ew_59, hw_59⟩ := w_59
      subst ew_59
      refine wa_if_ne B 63 dX6_takeAmount_47 (by decide) (fun (t_60 : ¬ r_58.toInt = 0) => ?_) (fun (t_60 : r_58.toInt = 0) => ?_)
      · refine wa_aload_n B dX6_takeAmount_63 rfl 1 rfl ?_
        refine wa_getI B (C := RX6) (T := TX6) (N := 8) iq_X6_takeAmount_X6 ha0 ka0 (by decide) rfl 3 (by decide) (by decide) (by decide +kernel) rfl (by decide) (v := (q.1 a0 3)) rfl dX6_takeAmount_64 ?_
        refine wa_if_ne B 83 dX6_takeAmount_67 (by decide) (fun (t_61 : ¬ (q.1 a0 3).toInt = 0) => ?_) (fun (t_61 : (q.1 a0 3).toInt = 0) => ?_)
        · refine wa_aload_n B dX6_takeAmount_83 rfl 1 rfl ?_
          refine wa_getR B (C := RX6) (T := TX6) (N := 8) iq_X6_takeAmount_X6 ha0 ka0 (by decide) rfl 0 (by decide) (by decide) (by decide +kernel) rfl (fun _ _ _ => rfl) (v := a_1) ea_1 dX6_takeAmount_84 ?_
          refine wa_iconst B 4 dX6_takeAmount_87 (by decide) ?_
          refine wa_aload_n B dX6_takeAmount_88 rfl 1 rfl ?_
          refine wa_getI B (C := RX6) (T := TX6) (N := 8) iq_X6_takeAmount_X6 ha0 ka0 (by decide) rfl 5 (by decide) (by decide) (by decide +kernel) rfl (by decide) (v := (q.1 a0 5)) rfl dX6_takeAmount_89 ?_
          refine wa_callVi B (x := (RX8, TX8, 11)) (As := [.int 4, .int (q.1 a0 5)]) (rest := []) (k_X8_refuse l dC dI h L hN q hV (a0 := a_1) ha_1 ka_1 4 (q.1 a0 5)  ) (cwV 2 B.1.2.2.2.2 gX6_takeAmount_X8_refuse rfl rfl rfl (by decide +kernel) ⟨Nat.le_of_ble_eq_true rfl, Nat.le_of_ble_eq_true rfl⟩) ha_1 ka_1 (by decide) rfl rfl rfl (Nat.le_of_ble_eq_true rfl) dX6_takeAmount_92 (fun r_63 q_62 w_64 => ?_)
          obtain ⟨hV_q_62, h2_q_62, hw_64⟩ := w_64
          have hF_q_62 : sx_fr h L (fun a => h.1 a = 6 ∨ h.1 a = 8 ∨ h.1 a = 5 ∨ h.1 a = 2 ∨ h.1 a = 1) q q_62 := hF.tr (h2_q_62.mono (fun a (z : a = a_1 ∧ h.1 a = 8) => (show h.1 a = 6 ∨ h.1 a = 8 ∨ h.1 a = 5 ∨ h.1 a = 2 ∨ h.1 a = 1 from by omega)))
          exact hret _ _ _ _ dX6_takeAmount_95 (zx_01 (by omega)) ⟨hV_q_62, hF_q_62, (by first | omega | (refine ⟨?_, ?_⟩ <;> omega) | trivial)⟩
        · refine wa_aload_n B dX6_takeAmount_70 rfl 3 rfl ?_
          refine wa_getI B (C := RX5) (T := TX5) (N := 7) iq_X6_takeAmount_X5 ha2 ka2 (by decide) rfl 3 (by decide) (by decide) (by decide +kernel) rfl (by decide) (v := (q.1 a2 3)) rfl dX6_takeAmount_71 ?_
          have g_65 : (0 : Int) ≤ (q.1 a2 3).toInt ∧ (q.1 a2 3).toInt ≤ 4 := hV.int ha2 ka2 3
          refine wa_aload_n B dX6_takeAmount_74 rfl 1 rfl ?_
          refine wa_callVi B (x := (RX6, TX6, 8)) (As := []) (rest := [.int (q.1 a2 3)]) (k_X6_brokenDigits l dC dI h L hN q hV (a0 := a0) ha0 ka0  ) (cwV 0 B.1.2.2.2.2 gX6_takeAmount_X6_brokenDigits rfl rfl rfl (by decide +kernel) ⟨Nat.le_of_ble_eq_true rfl, Nat.le_of_ble_eq_true rfl⟩) ha0 ka0 (by decide) rfl rfl rfl (Nat.le_of_ble_eq_true rfl) dX6_takeAmount_75 (fun r_67 q_66 w_68 => ?_)
          subst w_68
          refine wa_iadd B dX6_takeAmount_78 (fun v_69 ev_69 => ?_)
          refine wa_iconst B 4 dX6_takeAmount_79 (by decide) ?_
          refine wa_icmp_le B 96 dX6_takeAmount_80 (by decide) (fun (t_70 : v_69.toInt ≤ 4) => ?_) (fun (t_70 : ¬ v_69.toInt ≤ 4) => ?_)
          · refine wa_aload_n B dX6_takeAmount_96 rfl 1 rfl ?_
            refine wa_getR B (C := RX6) (T := TX6) (N := 8) iq_X6_takeAmount_X6 ha0 ka0 (by decide) rfl 0 (by decide) (by decide) (by decide +kernel) rfl (fun _ _ _ => rfl) (v := a_1) ea_1 dX6_takeAmount_97 ?_
            refine wa_iconst B 2 dX6_takeAmount_100 (by decide) ?_
            refine wa_callVi B (x := (RX8, TX8, 11)) (As := [.int 2]) (rest := []) (k_X8_demand l dC dI h L hN q hV (a0 := a_1) ha_1 ka_1 2  ) (cwV 1 B.1.2.2.2.2 gX6_takeAmount_X8_demand rfl rfl rfl (by decide +kernel) ⟨Nat.le_of_ble_eq_true rfl, Nat.le_of_ble_eq_true rfl⟩) ha_1 ka_1 (by decide) rfl rfl rfl (Nat.le_of_ble_eq_true rfl) dX6_takeAmount_101 (fun r_72 q_71 w_73 => ?_)
            obtain ⟨hV_q_71, h2_q_71, hw_73⟩ := w_73
            have hF_q_71 : sx_fr h L (fun a => h.1 a = 6 ∨ h.1 a = 8 ∨ h.1 a = 5 ∨ h.1 a = 2 ∨ h.1 a = 1) q q_71 := hF.tr (h2_q_71.mono (fun a (z : a = a_1 ∧ h.1 a = 8) => (show h.1 a = 6 ∨ h.1 a = 8 ∨ h.1 a = 5 ∨ h.1 a = 2 ∨ h.1 a = 1 from by omega)))
            refine wa_if_ne B 109 dX6_takeAmount_104 (by decide) (fun (t_74 : ¬ r_72.toInt = 0) => ?_) (fun (t_74 : r_72.toInt = 0) => ?_)
            · refine wa_iload_n B dX6_takeAmount_109 rfl 0 rfl ?_
              refine wa_iconst B (-1) dX6_takeAmount_110 (by decide) ?_
              refine wa_icmp_eq B 133 dX6_takeAmount_111 (by decide) (fun (t_75 : v_2.toInt = (-1)) => ?_) (fun (t_75 : ¬ v_2.toInt = (-1)) => ?_)
              · refine wa_aload_n B dX6_takeAmount_133 rfl 1 rfl ?_
                have z_76 : q_71.2.2.1 a0 0 = a_1 := (h2_q_71.R ha0 (show ¬ ((a0 = a_1 ∧ h.1 a0 = 8) ∧ (h.1 a0 = 8 ∨ h.1 a0 = 11)) from by omega) 0).trans (ea_1)
                refine wa_getR B (C := RX6) (T := TX6) (N := 8) iq_X6_takeAmount_X6 ha0 ka0 (by decide) rfl 0 (by decide) (by decide) (by decide +kernel) rfl (fun _ _ _ => rfl) (v := a_1) z_76 dX6_takeAmount_134 ?_
                refine wa_iconst B 3 dX6_takeAmount_137 (by decide) ?_
                refine wa_aload_n B dX6_takeAmount_138 rfl 1 rfl ?_
                refine wa_getR B (C := RX6) (T := TX6) (N := 8) iq_X6_takeAmount_X6 ha0 ka0 (by decide) rfl 0 (by decide) (by decide) (by decide +kernel) rfl (fun _ _ _ => rfl) (v := a_1) z_76 dX6_takeAmount_139 ?_
                refine wa_getI B (C := RX8) (T := TX8) (N := 11) iq_X6_takeAmount_X8 ha_1 ka_1 (by decide) rfl 1 (by decide) (by decide) (by decide +kernel) rfl (by decide) (v := (q_71.1 a_1 1)) rfl dX6_takeAmount_142 ?_
                refine wa_callVi B (x := (RX8, TX8, 11)) (As := [.int 3, .int (q_71.1 a_1 1)]) (rest := []) (k_X8_refuse l dC dI h L hN q_71 hV_q_71 (a0 := a_1) ha_1 ka_1 3 (q_71.1 a_1 1)  ) (cwV 2 B.1.2.2.2.2 gX6_takeAmount_X8_refuse rfl rfl rfl (by decide +kernel) ⟨Nat.le_of_ble_eq_true rfl, Nat.le_of_ble_eq_true rfl⟩) ha_1 ka_1 (by decide) rfl rfl rfl (Nat.le_of_ble_eq_true rfl) dX6_takeAmount_145 (fun r_78 q_77 w_79 => ?_)
                obtain ⟨hV_q_77, h2_q_77, hw_79⟩ := w_79
                have hF_q_77 : sx_fr h L (fun a => h.1 a = 6 ∨ h.1 a = 8 ∨ h.1 a = 5 ∨ h.1 a = 2 ∨ h.1 a = 1) q q_77 := hF_q_71.tr (h2_q_77.mono (fun a (z : a = a_1 ∧ h.1 a = 8) => (show h.1 a = 6 ∨ h.1 a = 8 ∨ h.1 a = 5 ∨ h.1 a = 2 ∨ h.1 a = 1 from by omega)))
                exact hret _ _ _ _ dX6_takeAmount_148 (zx_01 (by omega)) ⟨hV_q_77, hF_q_77, (by first | omega | (refine ⟨?_, ?_⟩ <;> omega) | trivial)⟩
              · refine wa_aload_n B dX6_takeAmount_114 rfl 1 rfl ?_
                refine wa_getI B (C := RX6) (T := TX6) (N := 8) iq_X6_takeAmount_X6 ha0 ka0 (by decide) rfl 4 (by decide) (by decide) (by decide +kernel) rfl (by decide) (v := (q_71.1 a0 4)) rfl dX6_takeAmount_115 ?_
                refine wa_iconst B (-1) dX6_takeAmount_118 (by decide) ?_
                refine wa_icmp_eq B 149 dX6_takeAmount_119 (by decide) (fun (t_80 : (q_71.1 a0 4).toInt = (-1)) => ?_) (fun (t_80 : ¬ (q_71.1 a0 4).toInt = (-1)) => ?_)
                · refine wa_aload_n B dX6_takeAmount_149 rfl 1 rfl ?_
                  refine wa_aload_n B dX6_takeAmount_150 rfl 2 rfl ?_
                  refine wa_iload_n B dX6_takeAmount_151 rfl 0 rfl ?_
                  refine wa_aload_n B dX6_takeAmount_152 rfl 3 rfl ?_
                  refine wa_callVv B (x := (RX6, TX6, 8)) (As := [.ref a1, .int v_2, .ref a2]) (rest := []) (k_X6_addAmount l dC dI h L hN q_71 hV_q_71 (a0 := a0) ha0 ka0 (a1 := a1) ha1 ka1 v_2 (a2 := a2) ha2 ka2  (by first | assumption | omega | decide) (by first | assumption | omega | decide)) (cwV 3 B.1.2.2.2.2 gX6_takeAmount_X6_addAmount rfl rfl rfl (by decide +kernel) ⟨Nat.le_of_ble_eq_true rfl, Nat.le_of_ble_eq_true rfl⟩) ha0 ka0 (by decide) rfl rfl rfl (Nat.le_of_ble_eq_true rfl) dX6_takeAmount_153 (fun q_81 w_82 => ?_)
                  obtain ⟨hV_q_81, h2_q_81⟩ := w_82
                  have hF_q_81 : sx_fr h L (fun a => h.1 a = 6 ∨ h.1 a = 8 ∨ h.1 a = 5 ∨ h.1 a = 2 ∨ h.1 a = 1) q q_81 := hF_q_71.tr (h2_q_81.mono (fun a (z : h.1 a = 6 ∨ h.1 a = 8 ∨ h.1 a = 5 ∨ h.1 a = 2 ∨ h.1 a = 1) => (show h.1 a = 6 ∨ h.1 a = 8 ∨ h.1 a = 5 ∨ h.1 a = 2 ∨ h.1 a = 1 from by omega)))
                  refine wa_aload_n B dX6_takeAmount_156 rfl 1 rfl ?_
                  refine wa_iload_n B dX6_takeAmount_157 rfl 0 rfl ?_
                  refine wa_putI B (C := RX6) (T := TX6) (N := 8) iq_X6_takeAmount_X6 ha0 ka0 (by decide) rfl 4 (by decide) (by decide) (by decide +kernel) rfl (by decide) (v := v_2) (ty := .int) tyX6 tyX6_ok nmX6 rfl (by decide +kernel) rfl rfl dX6_takeAmount_158 (fun q_83 eq_83 => ?_)
                  have hV_q_83 : sx_V h L q_83 := by rw [eq_83]; exact hV_q_81.pI ka0 trivial
                  have hF_q_83 : sx_fr h L (fun a => h.1 a = 6 ∨ h.1 a = 8 ∨ h.1 a = 5 ∨ h.1 a = 2 ∨ h.1 a = 1) q q_83 := hF_q_81.tr (by rw [eq_83]; exact sx_fr.pI (show h.1 a0 = 6 ∨ h.1 a0 = 8 ∨ h.1 a0 = 5 ∨ h.1 a0 = 2 ∨ h.1 a0 = 1 from by omega))
                  have z_84 : q_83.1 a0 4 = v_2 := by rw [eq_83]; exact sg_pI_e
                  refine wa_aload_n B dX6_takeAmount_161 rfl 1 rfl ?_
                  refine wa_iconst B 3 dX6_takeAmount_162 (by decide) ?_
                  refine wa_putI B (C := RX6) (T := TX6) (N := 8) iq_X6_takeAmount_X6 ha0 ka0 (by decide) rfl 1 (by decide) (by decide) (by decide +kernel) rfl (by decide) (v := 3) (ty := .int) tyX6 tyX6_ok nmX6 rfl (by decide +kernel) rfl rfl dX6_takeAmount_163 (fun q_85 eq_85 => ?_)
                  have hV_q_85 : sx_V h L q_85 := by rw [eq_85]; exact hV_q_83.pI ka0 trivial
                  have hF_q_85 : sx_fr h L (fun a => h.1 a = 6 ∨ h.1 a = 8 ∨ h.1 a = 5 ∨ h.1 a = 2 ∨ h.1 a = 1) q q_85 := hF_q_83.tr (by rw [eq_85]; exact sx_fr.pI (show h.1 a0 = 6 ∨ h.1 a0 = 8 ∨ h.1 a0 = 5 ∨ h.1 a0 = 2 ∨ h.1 a0 = 1 from by omega))
                  have z_86 : q_85.1 a0 1 = 3 := by rw [eq_85]; exact sg_pI_e
                  refine wa_iconst B 1 dX6_takeAmount_166 (by decide) ?_
                  exact hret _ _ _ _ dX6_takeAmount_167 (Or.inr rfl) ⟨hV_q_85, hF_q_85, (by have h9 : (1 : Int32).toInt = 1 := rfl; first | omega | (refine ⟨?_, ?_⟩ <;> omega) | trivial)⟩
                · refine wa_iload_n B dX6_takeAmount_122 rfl 0 rfl ?_
                  refine wa_aload_n B dX6_takeAmount_123 rfl 1 rfl ?_
                  refine wa_getI B (C := RX6) (T := TX6) (N := 8) iq_X6_takeAmount_X6 ha0 ka0 (by decide) rfl 4 (by decide) (by decide) (by decide +kernel) rfl (by decide) (v := (q_71.1 a0 4)) rfl dX6_takeAmount_124 ?_
                  refine wa_callSi B (As := [.int v_2, .int (q_71.1 a0 4)]) (rest := []) (k_X6_isLesser l dC dI h L hN q_71 hV_q_71 v_2 (q_71.1 a0 4)  ) (va_cwS 2 B.1.2.2.2.2 gX6_takeAmount_X6_isLesser rfl rfl rfl (by decide +kernel) ⟨Nat.le_of_ble_eq_true rfl, Nat.le_of_ble_eq_true rfl⟩) rfl rfl (Nat.le_of_ble_eq_true rfl) dX6_takeAmount_127 (fun r_88 q_87 w_89 => ?_)
                  obtain ⟨ew_89, hw_89⟩ := w_89
                  subst ew_89
                  refine wa_if_ne B 149 dX6_takeAmount_130 (by decide) (fun (t_90 : ¬ r_88.toInt = 0) => ?_) (fun (t_90 : r_88.toInt = 0) => ?_)
                  · refine wa_aload_n B dX6_takeAmount_149 rfl 1 rfl ?_
                    refine wa_aload_n B dX6_takeAmount_150 rfl 2 rfl ?_
                    refine wa_iload_n B dX6_takeAmount_151 rfl 0 rfl ?_
                    refine wa_aload_n B dX6_takeAmount_152 rfl 3 rfl ?_
                    refine wa_callVv B (x := (RX6, TX6, 8)) (As := [.ref a1, .int v_2, .ref a2]) (rest := []) (k_X6_addAmount l dC dI h L hN q_71 hV_q_71 (a0 := a0) ha0 ka0 (a1 := a1) ha1 ka1 v_2 (a2 := a2) ha2 ka2  (by first | assumption | omega | decide) (by first | assumption | omega | decide)) (cwV 3 B.1.2.2.2.2 gX6_takeAmount_X6_addAmount rfl rfl rfl (by decide +kernel) ⟨Nat.le_of_ble_eq_true rfl, Nat.le_of_ble_eq_true rfl⟩) ha0 ka0 (by decide) rfl rfl rfl (Nat.le_of_ble_eq_true rfl) dX6_takeAmount_153 (fun q_91 w_92 => ?_)
                    obtain ⟨hV_q_91, h2_q_91⟩ := w_92
                    have hF_q_91 : sx_fr h L (fun a => h.1 a = 6 ∨ h.1 a = 8 ∨ h.1 a = 5 ∨ h.1 a = 2 ∨ h.1 a = 1) q q_91 := hF_q_71.tr (h2_q_91.mono (fun a (z : h.1 a = 6 ∨ h.1 a = 8 ∨ h.1 a = 5 ∨ h.1 a = 2 ∨ h.1 a = 1) => (show h.1 a = 6 ∨ h.1 a = 8 ∨ h.1 a = 5 ∨ h.1 a = 2 ∨ h.1 a = 1 from by omega)))
                    refine wa_aload_n B dX6_takeAmount_156 rfl 1 rfl ?_
                    refine wa_iload_n B dX6_takeAmount_157 rfl 0 rfl ?_
                    refine wa_putI B (C := RX6) (T := TX6) (N := 8) iq_X6_takeAmount_X6 ha0 ka0 (by decide) rfl 4 (by decide) (by decide) (by decide +kernel) rfl (by decide) (v := v_2) (ty := .int) tyX6 tyX6_ok nmX6 rfl (by decide +kernel) rfl rfl dX6_takeAmount_158 (fun q_93 eq_93 => ?_)
                    have hV_q_93 : sx_V h L q_93 := by rw [eq_93]; exact hV_q_91.pI ka0 trivial
                    have hF_q_93 : sx_fr h L (fun a => h.1 a = 6 ∨ h.1 a = 8 ∨ h.1 a = 5 ∨ h.1 a = 2 ∨ h.1 a = 1) q q_93 := hF_q_91.tr (by rw [eq_93]; exact sx_fr.pI (show h.1 a0 = 6 ∨ h.1 a0 = 8 ∨ h.1 a0 = 5 ∨ h.1 a0 = 2 ∨ h.1 a0 = 1 from by omega))
                    have z_94 : q_93.1 a0 4 = v_2 := by rw [eq_93]; exact sg_pI_e
                    refine wa_aload_n B dX6_takeAmount_161 rfl 1 rfl ?_
                    refine wa_iconst B 3 dX6_takeAmount_162 (by decide) ?_
                    refine wa_putI B (C := RX6) (T := TX6) (N := 8) iq_X6_takeAmount_X6 ha0 ka0 (by decide) rfl 1 (by decide) (by decide) (by decide +kernel) rfl (by decide) (v := 3) (ty := .int) tyX6 tyX6_ok nmX6 rfl (by decide +kernel) rfl rfl dX6_takeAmount_163 (fun q_95 eq_95 => ?_)
                    have hV_q_95 : sx_V h L q_95 := by rw [eq_95]; exact hV_q_93.pI ka0 trivial
                    have hF_q_95 : sx_fr h L (fun a => h.1 a = 6 ∨ h.1 a = 8 ∨ h.1 a = 5 ∨ h.1 a = 2 ∨ h.1 a = 1) q q_95 := hF_q_93.tr (by rw [eq_95]; exact sx_fr.pI (show h.1 a0 = 6 ∨ h.1 a0 = 8 ∨ h.1 a0 = 5 ∨ h.1 a0 = 2 ∨ h.1 a0 = 1 from by omega))
                    have z_96 : q_95.1 a0 1 = 3 := by rw [eq_95]; exact sg_pI_e
                    refine wa_iconst B 1 dX6_takeAmount_166 (by decide) ?_
                    exact hret _ _ _ _ dX6_takeAmount_167 (Or.inr rfl) ⟨hV_q_95, hF_q_95, (by have h9 : (1 : Int32).toInt = 1 := rfl; first | omega | (refine ⟨?_, ?_⟩ <;> omega) | trivial)⟩
                  · refine wa_aload_n B dX6_takeAmount_133 rfl 1 rfl ?_
                    have z_97 : q_71.2.2.1 a0 0 = a_1 := (h2_q_71.R ha0 (show ¬ ((a0 = a_1 ∧ h.1 a0 = 8) ∧ (h.1 a0 = 8 ∨ h.1 a0 = 11)) from by omega) 0).trans (ea_1)
                    refine wa_getR B (C := RX6) (T := TX6) (N := 8) iq_X6_takeAmount_X6 ha0 ka0 (by decide) rfl 0 (by decide) (by decide) (by decide +kernel) rfl (fun _ _ _ => rfl) (v := a_1) z_97 dX6_takeAmount_134 ?_
                    refine wa_iconst B 3 dX6_takeAmount_137 (by decide) ?_
                    refine wa_aload_n B dX6_takeAmount_138 rfl 1 rfl ?_
                    refine wa_getR B (C := RX6) (T := TX6) (N := 8) iq_X6_takeAmount_X6 ha0 ka0 (by decide) rfl 0 (by decide) (by decide) (by decide +kernel) rfl (fun _ _ _ => rfl) (v := a_1) z_97 dX6_takeAmount_139 ?_
                    refine wa_getI B (C := RX8) (T := TX8) (N := 11) iq_X6_takeAmount_X8 ha_1 ka_1 (by decide) rfl 1 (by decide) (by decide) (by decide +kernel) rfl (by decide) (v := (q_71.1 a_1 1)) rfl dX6_takeAmount_142 ?_
                    refine wa_callVi B (x := (RX8, TX8, 11)) (As := [.int 3, .int (q_71.1 a_1 1)]) (rest := []) (k_X8_refuse l dC dI h L hN q_71 hV_q_71 (a0 := a_1) ha_1 ka_1 3 (q_71.1 a_1 1)  ) (cwV 2 B.1.2.2.2.2 gX6_takeAmount_X8_refuse rfl rfl rfl (by decide +kernel) ⟨Nat.le_of_ble_eq_true rfl, Nat.le_of_ble_eq_true rfl⟩) ha_1 ka_1 (by decide) rfl rfl rfl (Nat.le_of_ble_eq_true rfl) dX6_takeAmount_145 (fun r_99 q_98 w_100 => ?_)
                    obtain ⟨hV_q_98, h2_q_98, hw_100⟩ := w_100
                    have hF_q_98 : sx_fr h L (fun a => h.1 a = 6 ∨ h.1 a = 8 ∨ h.1 a = 5 ∨ h.1 a = 2 ∨ h.1 a = 1) q q_98 := hF_q_71.tr (h2_q_98.mono (fun a (z : a = a_1 ∧ h.1 a = 8) => (show h.1 a = 6 ∨ h.1 a = 8 ∨ h.1 a = 5 ∨ h.1 a = 2 ∨ h.1 a = 1 from by omega)))
                    exact hret _ _ _ _ dX6_takeAmount_148 (zx_01 (by omega)) ⟨hV_q_98, hF_q_98, (by first | omega | (refine ⟨?_, ?_⟩ <;> omega) | trivial)⟩
            · refine wa_iconst B 0 dX6_takeAmount_107 (by decide) ?_
              exact hret _ _ _ _ dX6_takeAmount_108 (Or.inl rfl) ⟨hV_q_71, hF_q_71, (by have h9 : (0 : Int32).toInt = 0 := rfl; first | omega | (refine ⟨?_, ?_⟩ <;> omega) | trivial)⟩
          · refine wa_aload_n B dX6_takeAmount_83 rfl 1 rfl ?_
            refine wa_getR B (C := RX6) (T := TX6) (N := 8) iq_X6_takeAmount_X6 ha0 ka0 (by decide) rfl 0 (by decide) (by decide) (by decide +kernel) rfl (fun _ _ _ => rfl) (v := a_1) ea_1 dX6_takeAmount_84 ?_
            refine wa_iconst B 4 dX6_takeAmount_87 (by decide) ?_
            refine wa_aload_n B dX6_takeAmount_88 rfl 1 rfl ?_
            refine wa_getI B (C := RX6) (T := TX6) (N := 8) iq_X6_takeAmount_X6 ha0 ka0 (by decide) rfl 5 (by decide) (by decide) (by decide +kernel) rfl (by decide) (v := (q.1 a0 5)) rfl dX6_takeAmount_89 ?_
            refine wa_callVi B (x := (RX8, TX8, 11)) (As := [.int 4, .int (q.1 a0 5)]) (rest := []) (k_X8_refuse l dC dI h L hN q hV (a0 := a_1) ha_1 ka_1 4 (q.1 a0 5)  ) (cwV 2 B.1.2.2.2.2 gX6_takeAmount_X8_refuse rfl rfl rfl (by decide +kernel) ⟨Nat.le_of_ble_eq_true rfl, Nat.le_of_ble_eq_true rfl⟩) ha_1 ka_1 (by decide) rfl rfl rfl (Nat.le_of_ble_eq_true rfl) dX6_takeAmount_92 (fun r_102 q_101 w_103 => ?_)
            obtain ⟨hV_q_101, h2_q_101, hw_103⟩ := w_103
            have hF_q_101 : sx_fr h L (fun a => h.1 a = 6 ∨ h.1 a = 8 ∨ h.1 a = 5 ∨ h.1 a = 2 ∨ h.1 a = 1) q q_101 := hF.tr (h2_q_101.mono (fun a (z : a = a_1 ∧ h.1 a = 8) => (show h.1 a = 6 ∨ h.1 a = 8 ∨ h.1 a = 5 ∨ h.1 a = 2 ∨ h.1 a = 1 from by omega)))
            exact hret _ _ _ _ dX6_takeAmount_95 (zx_01 (by omega)) ⟨hV_q_101, hF_q_101, (by first | omega | (refine ⟨?_, ?_⟩ <;> omega) | trivial)⟩
      · refine wa_aload_n B dX6_takeAmount_50 rfl 1 rfl ?_
        refine wa_getR B (C := RX6) (T := TX6) (N := 8) iq_X6_takeAmount_X6 ha0 ka0 (by decide) rfl 0 (by decide) (by decide) (by decide +kernel) rfl (fun _ _ _ => rfl) (v := a_1) ea_1 dX6_takeAmount_51 ?_
        refine wa_iconst B 2 dX6_takeAmount_54 (by decide) ?_
        refine wa_aload_n B dX6_takeAmount_55 rfl 1 rfl ?_
        refine wa_getI B (C := RX6) (T := TX6) (N := 8) iq_X6_takeAmount_X6 ha0 ka0 (by decide) rfl 5 (by decide) (by decide) (by decide +kernel) rfl (by decide) (v := (q.1 a0 5)) rfl dX6_takeAmount_56 ?_
        refine wa_callVi B (x := (RX8, TX8, 11)) (As := [.int 2, .int (q.1 a0 5)]) (rest := []) (k_X8_refuse l dC dI h L hN q hV (a0 := a_1) ha_1 ka_1 2 (q.1 a0 5)  ) (cwV 2 B.1.2.2.2.2 gX6_takeAmount_X8_refuse rfl rfl rfl (by decide +kernel) ⟨Nat.le_of_ble_eq_true rfl, Nat.le_of_ble_eq_true rfl⟩) ha_1 ka_1 (by decide) rfl rfl rfl (Nat.le_of_ble_eq_true rfl) dX6_takeAmount_59 (fun r_105 q_104 w_106 => ?_)
        obtain ⟨hV_q_104, h2_q_104, hw_106⟩ := w_106
        have hF_q_104 : sx_fr h L (fun a => h.1 a = 6 ∨ h.1 a = 8 ∨ h.1 a = 5 ∨ h.1 a = 2 ∨ h.1 a = 1) q q_104 := hF.tr (h2_q_104.mono (fun a (z : a = a_1 ∧ h.1 a = 8) => (show h.1 a = 6 ∨ h.1 a = 8 ∨ h.1 a = 5 ∨ h.1 a = 2 ∨ h.1 a = 1 from by omega)))
        exact hret _ _ _ _ dX6_takeAmount_62 (zx_01 (by omega)) ⟨hV_q_104, hF_q_104, (by first | omega | (refine ⟨?_, ?_⟩ <;> omega) | trivial)⟩
  refine wa_icmp_ne B 25 dX6_takeAmount_8 (by decide) (fun (t_107 : ¬ (q.1 a_1 0).toInt = 2) => ?_) (fun (t_107 : (q.1 a_1 0).toInt = 2) => ?_)
  · refine wa_iconst B (-1) dX6_takeAmount_25 (by decide) ?_
    exact Jn_26_4 (-1) (show (-1) ≤ (-1) ∧ (-1) ≤ 14 from by first | assumption | omega | decide)
  · refine wa_aload_n B dX6_takeAmount_11 rfl 1 rfl ?_
    refine wa_aload_n B dX6_takeAmount_12 rfl 0 rfl ?_
    refine wa_getR B (C := RX6) (T := TX6) (N := 8) iq_X6_takeAmount_X6 ha0 ka0 (by decide) rfl 0 (by decide) (by decide) (by decide +kernel) rfl (fun _ _ _ => rfl) (v := a_1) ea_1 dX6_takeAmount_13 ?_
    refine wa_getJ B (C := RX8) (T := TX8) (N := 11) iq_X6_takeAmount_X8 ha_1 ka_1 (by decide) rfl 2 (by decide) (by decide) (by decide +kernel) rfl (by decide) (v := (q.2.1 a_1 2)) rfl dX6_takeAmount_16 ?_
    refine wa_callVi B (x := (RX9, TX9, 7)) (As := [.long (q.2.1 a_1 2)]) (rest := []) (k_X9_find l dC dI h L hN q hV (a0 := a1) ha1 ka1 (q.2.1 a_1 2)  ) (cwV 1 B.1.2.2.2.2 gX6_takeAmount_X9_find rfl rfl rfl (by decide +kernel) ⟨Nat.le_of_ble_eq_true rfl, Nat.le_of_ble_eq_true rfl⟩) ha1 ka1 (by decide) rfl rfl rfl (Nat.le_of_ble_eq_true rfl) dX6_takeAmount_19 (fun r_109 q_108 w_110 => ?_)
    obtain ⟨ew_110, hw_110⟩ := w_110
    subst ew_110
    refine wa_goto B 26 dX6_takeAmount_22 (by decide) ?_
    exact Jn_26_4 r_109 (show (-1) ≤ r_109.toInt ∧ r_109.toInt ≤ 14 from by first | assumption | omega | decide)
theorem iq_X6_takeNameOrEnd_X6 : ∀ w ∈ wsX60, w ∈ wsX6_takeNameOrEnd := fun _ h => List.mem_cons_of_mem _ (List.mem_append_left _ (List.mem_append_left _ (List.mem_append_right _ h)))
theorem iq_X6_takeNameOrEnd_X8 : ∀ w ∈ wsX80, w ∈ wsX6_takeNameOrEnd := fun _ h => List.mem_cons_of_mem _ (List.mem_append_left _ (List.mem_append_right _ h))
set_option maxHeartbeats 4000000 in
set_option maxRecDepth 100000 in
theorem k_X6_takeNameOrEnd (l : Launch) (dC : Nat → ClassId) (dI : Nat → Nat → Nat) (h : Sh) (L : List Nat) (hN : sx_nd L) (q : Sg) (hV : sx_V h L q) {a0 : Nat} (ha0 : a0 ∈ L) (ka0 : h.1 a0 = 6) {a1 : Nat} (ha1 : a1 ∈ L) (ka1 : h.1 a1 = 9)   : CMi l dC dI h L yX6_takeNameOrEnd wsX6_takeNameOrEnd ({ frames := 2, cells := 0, slots := 0, locals := 41 } : Room) q [.ref a0, .ref a1] (fun r q' => sx_V h L q' ∧ sx_fr h L (fun a => h.1 a = 6 ∨ h.1 a = 8) q q' ∧ (r.toInt = 0 ∨ r.toInt = 1)) := by
  refine cm_z (cc := cX6_takeNameOrEnd) (mL := 2) (own := RX6) hN (by decide) rfl rfl (Nat.le_of_ble_eq_true rfl) (fun Z B hret => ?_)
  have hF : sx_fr h L (fun a => h.1 a = 6 ∨ h.1 a = 8) q q := sx_fr.rf
  show WA l dC dI h L ({ frames := 2, cells := 0, slots := 0, locals := 41 } : Room) 2 Z q 0 [(0, .ref a0), (1, .ref a1)] []
  refine wa_aload_n B dX6_takeNameOrEnd_0 rfl 0 rfl ?_
  refine wa_getI B (C := RX6) (T := TX6) (N := 8) iq_X6_takeNameOrEnd_X6 ha0 ka0 (by decide) rfl 2 (by decide) (by decide) (by decide +kernel) rfl (by decide) (v := (q.1 a0 2)) rfl dX6_takeNameOrEnd_1 ?_
  refine wa_if_ne B 18 dX6_takeNameOrEnd_4 (by decide) (fun (t_1 : ¬ (q.1 a0 2).toInt = 0) => ?_) (fun (t_1 : (q.1 a0 2).toInt = 0) => ?_)
  · refine wa_aload_n B dX6_takeNameOrEnd_18 rfl 0 rfl ?_
    refine wa_callVi B (x := (RX6, TX6, 8)) (As := []) (rest := []) (k_X6_endLine l dC dI h L hN q hV (a0 := a0) ha0 ka0  ) (cwV 0 B.1.2.2.2.2 gX6_takeNameOrEnd_X6_endLine rfl rfl rfl (by decide +kernel) ⟨Nat.le_of_ble_eq_true rfl, Nat.le_of_ble_eq_true rfl⟩) ha0 ka0 (by decide) rfl rfl rfl (Nat.le_of_ble_eq_true rfl) dX6_takeNameOrEnd_19 (fun r_3 q_2 w_4 => ?_)
    obtain ⟨hV_q_2, h2_q_2, hw_4⟩ := w_4
    have hF_q_2 : sx_fr h L (fun a => h.1 a = 6 ∨ h.1 a = 8) q q_2 := hF.tr (h2_q_2.mono (fun a (z : a = a0 ∧ h.1 a = 6 ∨ h.1 a = 8) => (show h.1 a = 6 ∨ h.1 a = 8 from by omega)))
    exact hret _ _ _ _ dX6_takeNameOrEnd_22 (zx_01 (by omega)) ⟨hV_q_2, hF_q_2, (by first | omega | (refine ⟨?_, ?_⟩ <;> omega) | trivial)⟩
  · refine wa_aload_n B dX6_takeNameOrEnd_7 rfl 0 rfl ?_
    obtain ⟨a_5, ea_5, ha_5, ka_5⟩ := hV.ref (t := 8) ha0 ka0 0 rfl (by decide)
    refine wa_getR B (C := RX6) (T := TX6) (N := 8) iq_X6_takeNameOrEnd_X6 ha0 ka0 (by decide) rfl 0 (by decide) (by decide) (by decide +kernel) rfl (fun _ _ _ => rfl) (v := a_5) ea_5 dX6_takeNameOrEnd_8 ?_
    refine wa_getI B (C := RX8) (T := TX8) (N := 11) iq_X6_takeNameOrEnd_X8 ha_5 ka_5 (by decide) rfl 0 (by decide) (by decide) (by decide +kernel) rfl (by decide) (v := (q.1 a_5 0)) rfl dX6_takeNameOrEnd_11 ?_
    refine wa_iconst B 2 dX6_takeNameOrEnd_14 (by decide) ?_
    refine wa_icmp_eq B 23 dX6_takeNameOrEnd_15 (by decide) (fun (t_6 : (q.1 a_5 0).toInt = 2) => ?_) (fun (t_6 : ¬ (q.1 a_5 0).toInt = 2) => ?_)
    · refine wa_aload_n B dX6_takeNameOrEnd_23 rfl 0 rfl ?_
      refine wa_iconst B 4 dX6_takeNameOrEnd_24 (by decide) ?_
      refine wa_putI B (C := RX6) (T := TX6) (N := 8) iq_X6_takeNameOrEnd_X6 ha0 ka0 (by decide) rfl 1 (by decide) (by decide) (by decide +kernel) rfl (by decide) (v := 4) (ty := .int) tyX6 tyX6_ok nmX6 rfl (by decide +kernel) rfl rfl dX6_takeNameOrEnd_25 (fun q_7 eq_7 => ?_)
      have hV_q_7 : sx_V h L q_7 := by rw [eq_7]; exact hV.pI ka0 trivial
      have hF_q_7 : sx_fr h L (fun a => h.1 a = 6 ∨ h.1 a = 8) q q_7 := hF.tr (by rw [eq_7]; exact sx_fr.pI (show h.1 a0 = 6 ∨ h.1 a0 = 8 from by omega))
      have z_8 : q_7.1 a0 1 = 4 := by rw [eq_7]; exact sg_pI_e
      refine wa_aload_n B dX6_takeNameOrEnd_28 rfl 1 rfl ?_
      refine wa_aload_n B dX6_takeNameOrEnd_29 rfl 0 rfl ?_
      have z_9 : q_7.2.2.1 a0 0 = a_5 := ((show q_7.2.2.1 a0 0 = q.2.2.1 a0 0 from by rw [eq_7]; rfl)).trans (ea_5)
      refine wa_getR B (C := RX6) (T := TX6) (N := 8) iq_X6_takeNameOrEnd_X6 ha0 ka0 (by decide) rfl 0 (by decide) (by decide) (by decide +kernel) rfl (fun _ _ _ => rfl) (v := a_5) z_9 dX6_takeNameOrEnd_30 ?_
      refine wa_getJ B (C := RX8) (T := TX8) (N := 11) iq_X6_takeNameOrEnd_X8 ha_5 ka_5 (by decide) rfl 2 (by decide) (by decide) (by decide +kernel) rfl (by decide) (v := (q_7.2.1 a_5 2)) rfl dX6_takeNameOrEnd_33 ?_
      refine wa_callVi B (x := (RX9, TX9, 7)) (As := [.long (q_7.2.1 a_5 2)]) (rest := []) (k_X9_find l dC dI h L hN q_7 hV_q_7 (a0 := a1) ha1 ka1 (q_7.2.1 a_5 2)  ) (cwV 1 B.1.2.2.2.2 gX6_takeNameOrEnd_X9_find rfl rfl rfl (by decide +kernel) ⟨Nat.le_of_ble_eq_true rfl, Nat.le_of_ble_eq_true rfl⟩) ha1 ka1 (by decide) rfl rfl rfl (Nat.le_of_ble_eq_true rfl) dX6_takeNameOrEnd_36 (fun r_11 q_10 w_12 => ?_)
      obtain ⟨ew_12, hw_12⟩ := w_12
      subst ew_12
      refine wa_iconst B (-1) dX6_takeNameOrEnd_39 (by decide) ?_
      refine wa_icmp_eq B 61 dX6_takeNameOrEnd_40 (by decide) (fun (t_13 : r_11.toInt = (-1)) => ?_) (fun (t_13 : ¬ r_11.toInt = (-1)) => ?_)
      · refine wa_iconst B 1 dX6_takeNameOrEnd_61 (by decide) ?_
        refine wa_goto B 66 dX6_takeNameOrEnd_62 (by decide) ?_
        exact hret _ _ _ _ dX6_takeNameOrEnd_66 (Or.inr rfl) ⟨hV_q_7, hF_q_7, (by have h9 : (1 : Int32).toInt = 1 := rfl; first | omega | (refine ⟨?_, ?_⟩ <;> omega) | trivial)⟩
      · refine wa_aload_n B dX6_takeNameOrEnd_43 rfl 0 rfl ?_
        refine wa_getR B (C := RX6) (T := TX6) (N := 8) iq_X6_takeNameOrEnd_X6 ha0 ka0 (by decide) rfl 0 (by decide) (by decide) (by decide +kernel) rfl (fun _ _ _ => rfl) (v := a_5) z_9 dX6_takeNameOrEnd_44 ?_
        refine wa_iconst B 1 dX6_takeNameOrEnd_47 (by decide) ?_
        refine wa_aload_n B dX6_takeNameOrEnd_48 rfl 0 rfl ?_
        refine wa_getR B (C := RX6) (T := TX6) (N := 8) iq_X6_takeNameOrEnd_X6 ha0 ka0 (by decide) rfl 0 (by decide) (by decide) (by decide +kernel) rfl (fun _ _ _ => rfl) (v := a_5) z_9 dX6_takeNameOrEnd_49 ?_
        refine wa_getI B (C := RX8) (T := TX8) (N := 11) iq_X6_takeNameOrEnd_X8 ha_5 ka_5 (by decide) rfl 1 (by decide) (by decide) (by decide +kernel) rfl (by decide) (v := (q_7.1 a_5 1)) rfl dX6_takeNameOrEnd_52 ?_
        refine wa_callVi B (x := (RX8, TX8, 11)) (As := [.int 1, .int (q_7.1 a_5 1)]) (rest := []) (k_X8_refuse l dC dI h L hN q_7 hV_q_7 (a0 := a_5) ha_5 ka_5 1 (q_7.1 a_5 1)  ) (cwV 2 B.1.2.2.2.2 gX6_takeNameOrEnd_X8_refuse rfl rfl rfl (by decide +kernel) ⟨Nat.le_of_ble_eq_true rfl, Nat.le_of_ble_eq_true rfl⟩) ha_5 ka_5 (by decide) rfl rfl rfl (Nat.le_of_ble_eq_true rfl) dX6_takeNameOrEnd_55 (fun r_15 q_14 w_16 => ?_)
        obtain ⟨hV_q_14, h2_q_14, hw_16⟩ := w_16
        have hF_q_14 : sx_fr h L (fun a => h.1 a = 6 ∨ h.1 a = 8) q q_14 := hF_q_7.tr (h2_q_14.mono (fun a (z : a = a_5 ∧ h.1 a = 8) => (show h.1 a = 6 ∨ h.1 a = 8 from by omega)))
        refine wa_if_eq B 65 dX6_takeNameOrEnd_58 (by decide) (fun (t_17 : r_15.toInt = 0) => ?_) (fun (t_17 : ¬ r_15.toInt = 0) => ?_)
        · refine wa_iconst B 0 dX6_takeNameOrEnd_65 (by decide) ?_
          exact hret _ _ _ _ dX6_takeNameOrEnd_66 (Or.inl rfl) ⟨hV_q_14, hF_q_14, (by have h9 : (0 : Int32).toInt = 0 := rfl; first | omega | (refine ⟨?_, ?_⟩ <;> omega) | trivial)⟩
        · refine wa_iconst B 1 dX6_takeNameOrEnd_61 (by decide) ?_
          refine wa_goto B 66 dX6_takeNameOrEnd_62 (by decide) ?_
          exact hret _ _ _ _ dX6_takeNameOrEnd_66 (Or.inr rfl) ⟨hV_q_14, hF_q_14, (by have h9 : (1 : Int32).toInt = 1 := rfl; first | omega | (refine ⟨?_, ?_⟩ <;> omega) | trivial)⟩
    · refine wa_aload_n B dX6_takeNameOrEnd_18 rfl 0 rfl ?_
      refine wa_callVi B (x := (RX6, TX6, 8)) (As := []) (rest := []) (k_X6_endLine l dC dI h L hN q hV (a0 := a0) ha0 ka0  ) (cwV 0 B.1.2.2.2.2 gX6_takeNameOrEnd_X6_endLine rfl rfl rfl (by decide +kernel) ⟨Nat.le_of_ble_eq_true rfl, Nat.le_of_ble_eq_true rfl⟩) ha0 ka0 (by decide) rfl rfl rfl (Nat.le_of_ble_eq_true rfl) dX6_takeNameOrEnd_19 (fun r_19 q_18 w_20 => ?_)
      obtain ⟨hV_q_18, h2_q_18, hw_20⟩ := w_20
      have hF_q_18 : sx_fr h L (fun a => h.1 a = 6 ∨ h.1 a = 8) q q_18 := hF.tr (h2_q_18.mono (fun a (z : a = a0 ∧ h.1 a = 6 ∨ h.1 a = 8) => (show h.1 a = 6 ∨ h.1 a = 8 from by omega)))
      exact hret _ _ _ _ dX6_takeNameOrEnd_22 (zx_01 (by omega)) ⟨hV_q_18, hF_q_18, (by first | omega | (refine ⟨?_, ?_⟩ <;> omega) | trivial)⟩
theorem iq_X6_beginLine_X6 : ∀ w ∈ wsX60, w ∈ wsX6_beginLine := fun _ h => List.mem_cons_of_mem _ (List.mem_append_left _ (List.mem_append_left _ (List.mem_append_left _ (List.mem_append_right _ h))))
theorem iq_X6_beginLine_X8 : ∀ w ∈ wsX80, w ∈ wsX6_beginLine := fun _ h => List.mem_cons_of_mem _ (List.mem_append_left _ (List.mem_append_left _ (List.mem_append_right _ h)))
set_option maxHeartbeats 4000000 in
set_option maxRecDepth 100000 in
theorem k_X6_beginLine (l : Launch) (dC : Nat → ClassId) (dI : Nat → Nat → Nat) (h : Sh) (L : List Nat) (hN : sx_nd L) (q : Sg) (hV : sx_V h L q) {a0 : Nat} (ha0 : a0 ∈ L) (ka0 : h.1 a0 = 6) {a1 : Nat} (ha1 : a1 ∈ L) (ka1 : h.1 a1 = 5)   : CMi l dC dI h L yX6_beginLine wsX6_beginLine ({ frames := 2, cells := 0, slots := 0, locals := 42 } : Room) q [.ref a0, .ref a1] (fun r q' => sx_V h L q' ∧ sx_fr h L (fun a => h.1 a = 6 ∨ h.1 a = 8 ∨ h.1 a = 5 ∨ h.1 a = 2 ∨ h.1 a = 1) q q' ∧ (r.toInt = 0 ∨ r.toInt = 1)) := by
  refine cm_z (cc := cX6_beginLine) (mL := 2) (own := RX6) hN (by decide) rfl rfl (Nat.le_of_ble_eq_true rfl) (fun Z B hret => ?_)
  have hF : sx_fr h L (fun a => h.1 a = 6 ∨ h.1 a = 8 ∨ h.1 a = 5 ∨ h.1 a = 2 ∨ h.1 a = 1) q q := sx_fr.rf
  show WA l dC dI h L ({ frames := 2, cells := 0, slots := 0, locals := 42 } : Room) 2 Z q 0 [(0, .ref a0), (1, .ref a1)] []
  refine wa_aload_n B dX6_beginLine_0 rfl 0 rfl ?_
  refine wa_aload_n B dX6_beginLine_1 rfl 1 rfl ?_
  refine wa_callVi B (x := (RX5, TX5, 7)) (As := []) (rest := [.ref a0]) (k_X5_isFull l dC dI h L hN q hV (a0 := a1) ha1 ka1  ) (cwV 0 B.1.2.2.2.2 gX6_beginLine_X5_isFull rfl rfl rfl (by decide +kernel) ⟨Nat.le_of_ble_eq_true rfl, Nat.le_of_ble_eq_true rfl⟩) ha1 ka1 (by decide) rfl rfl rfl (Nat.le_of_ble_eq_true rfl) dX6_beginLine_2 (fun r_2 q_1 w_3 => ?_)
  obtain ⟨ew_3, hw_3⟩ := w_3
  subst ew_3
  refine wa_putI B (C := RX6) (T := TX6) (N := 8) iq_X6_beginLine_X6 ha0 ka0 (by decide) rfl 3 (by decide) (by decide) (by decide +kernel) rfl (by decide) (v := r_2) (ty := .boolean) tyX6 tyX6_ok nmX6 rfl (by decide +kernel) (by rcases zx_01 (show r_2.toInt = 0 ∨ r_2.toInt = 1 by omega) with z | z <;> rw [z] <;> rfl) (by rcases zx_01 (show r_2.toInt = 0 ∨ r_2.toInt = 1 by omega) with z | z <;> rw [z] <;> rfl) dX6_beginLine_5 (fun q_4 eq_4 => ?_)
  have hV_q_4 : sx_V h L q_4 := by rw [eq_4]; exact hV.pI ka0 trivial
  have hF_q_4 : sx_fr h L (fun a => h.1 a = 6 ∨ h.1 a = 8 ∨ h.1 a = 5 ∨ h.1 a = 2 ∨ h.1 a = 1) q q_4 := hF.tr (by rw [eq_4]; exact sx_fr.pI (show h.1 a0 = 6 ∨ h.1 a0 = 8 ∨ h.1 a0 = 5 ∨ h.1 a0 = 2 ∨ h.1 a0 = 1 from by omega))
  have z_5 : q_4.1 a0 3 = r_2 := by rw [eq_4]; exact sg_pI_e
  refine wa_aload_n B dX6_beginLine_8 rfl 0 rfl ?_
  refine wa_iconst B (-1) dX6_beginLine_9 (by decide) ?_
  refine wa_putI B (C := RX6) (T := TX6) (N := 8) iq_X6_beginLine_X6 ha0 ka0 (by decide) rfl 4 (by decide) (by decide) (by decide +kernel) rfl (by decide) (v := (-1)) (ty := .int) tyX6 tyX6_ok nmX6 rfl (by decide +kernel) rfl rfl dX6_beginLine_10 (fun q_6 eq_6 => ?_)
  have hV_q_6 : sx_V h L q_6 := by rw [eq_6]; exact hV_q_4.pI ka0 trivial
  have hF_q_6 : sx_fr h L (fun a => h.1 a = 6 ∨ h.1 a = 8 ∨ h.1 a = 5 ∨ h.1 a = 2 ∨ h.1 a = 1) q q_6 := hF_q_4.tr (by rw [eq_6]; exact sx_fr.pI (show h.1 a0 = 6 ∨ h.1 a0 = 8 ∨ h.1 a0 = 5 ∨ h.1 a0 = 2 ∨ h.1 a0 = 1 from by omega))
  have z_7 : q_6.1 a0 4 = (-1) := by rw [eq_6]; exact sg_pI_e
  refine wa_aload_n B dX6_beginLine_13 rfl 0 rfl ?_
  obtain ⟨a_8, ea_8, ha_8, ka_8⟩ := hV_q_6.ref (t := 8) ha0 ka0 0 rfl (by decide)
  refine wa_getR B (C := RX6) (T := TX6) (N := 8) iq_X6_beginLine_X6 ha0 ka0 (by decide) rfl 0 (by decide) (by decide) (by decide +kernel) rfl (fun _ _ _ => rfl) (v := a_8) ea_8 dX6_beginLine_14 ?_
  refine wa_getI B (C := RX8) (T := TX8) (N := 11) iq_X6_beginLine_X8 ha_8 ka_8 (by decide) rfl 0 (by decide) (by decide) (by decide +kernel) rfl (by decide) (v := (q_6.1 a_8 0)) rfl dX6_beginLine_17 ?_
  refine wa_bipush B 7 dX6_beginLine_20 (by decide) ?_
  refine wa_icmp_eq B 37 dX6_beginLine_22 (by decide) (fun (t_9 : (q_6.1 a_8 0).toInt = 7) => ?_) (fun (t_9 : ¬ (q_6.1 a_8 0).toInt = 7) => ?_)
  · refine wa_aload_n B dX6_beginLine_37 rfl 0 rfl ?_
    refine wa_aload_n B dX6_beginLine_38 rfl 0 rfl ?_
    refine wa_getR B (C := RX6) (T := TX6) (N := 8) iq_X6_beginLine_X6 ha0 ka0 (by decide) rfl 0 (by decide) (by decide) (by decide +kernel) rfl (fun _ _ _ => rfl) (v := a_8) ea_8 dX6_beginLine_39 ?_
    refine wa_getI B (C := RX8) (T := TX8) (N := 11) iq_X6_beginLine_X8 ha_8 ka_8 (by decide) rfl 0 (by decide) (by decide) (by decide +kernel) rfl (by decide) (v := (q_6.1 a_8 0)) rfl dX6_beginLine_42 ?_
    refine wa_bipush B 7 dX6_beginLine_45 (by decide) ?_
    refine wa_icmp_ne B 54 dX6_beginLine_47 (by decide) (fun (t_10 : ¬ (q_6.1 a_8 0).toInt = 7) => ?_) (fun (t_10 : (q_6.1 a_8 0).toInt = 7) => ?_)
    · refine wa_iconst B 2 dX6_beginLine_54 (by decide) ?_
      refine wa_putI B (C := RX6) (T := TX6) (N := 8) iq_X6_beginLine_X6 ha0 ka0 (by decide) rfl 2 (by decide) (by decide) (by decide +kernel) rfl (by decide) (v := 2) (ty := .int) tyX6 tyX6_ok nmX6 rfl (by decide +kernel) rfl rfl dX6_beginLine_55 (fun q_11 eq_11 => ?_)
      have hV_q_11 : sx_V h L q_11 := by rw [eq_11]; exact hV_q_6.pI ka0 trivial
      have hF_q_11 : sx_fr h L (fun a => h.1 a = 6 ∨ h.1 a = 8 ∨ h.1 a = 5 ∨ h.1 a = 2 ∨ h.1 a = 1) q q_11 := hF_q_6.tr (by rw [eq_11]; exact sx_fr.pI (show h.1 a0 = 6 ∨ h.1 a0 = 8 ∨ h.1 a0 = 5 ∨ h.1 a0 = 2 ∨ h.1 a0 = 1 from by omega))
      have z_12 : q_11.1 a0 2 = 2 := by rw [eq_11]; exact sg_pI_e
      refine wa_aload_n B dX6_beginLine_58 rfl 1 rfl ?_
      refine wa_aload_n B dX6_beginLine_59 rfl 0 rfl ?_
      refine wa_getI B (C := RX6) (T := TX6) (N := 8) iq_X6_beginLine_X6 ha0 ka0 (by decide) rfl 2 (by decide) (by decide) (by decide +kernel) rfl (by decide) (v := 2) z_12 dX6_beginLine_60 ?_
      refine wa_callVv B (x := (RX5, TX5, 7)) (As := [.int 2]) (rest := []) (k_X5_addLine l dC dI h L hN q_11 hV_q_11 (a0 := a1) ha1 ka1 2  ) (cwV 1 B.1.2.2.2.2 gX6_beginLine_X5_addLine rfl rfl rfl (by decide +kernel) ⟨Nat.le_of_ble_eq_true rfl, Nat.le_of_ble_eq_true rfl⟩) ha1 ka1 (by decide) rfl rfl rfl (Nat.le_of_ble_eq_true rfl) dX6_beginLine_63 (fun q_13 w_14 => ?_)
      obtain ⟨hV_q_13, h2_q_13⟩ := w_14
      have hF_q_13 : sx_fr h L (fun a => h.1 a = 6 ∨ h.1 a = 8 ∨ h.1 a = 5 ∨ h.1 a = 2 ∨ h.1 a = 1) q q_13 := hF_q_11.tr (h2_q_13.mono (fun a (z : a = a1 ∧ h.1 a = 5 ∨ h.1 a = 2) => (show h.1 a = 6 ∨ h.1 a = 8 ∨ h.1 a = 5 ∨ h.1 a = 2 ∨ h.1 a = 1 from by omega)))
      refine wa_aload_n B dX6_beginLine_66 rfl 0 rfl ?_
      refine wa_iconst B 1 dX6_beginLine_67 (by decide) ?_
      refine wa_putI B (C := RX6) (T := TX6) (N := 8) iq_X6_beginLine_X6 ha0 ka0 (by decide) rfl 1 (by decide) (by decide) (by decide +kernel) rfl (by decide) (v := 1) (ty := .int) tyX6 tyX6_ok nmX6 rfl (by decide +kernel) rfl rfl dX6_beginLine_68 (fun q_15 eq_15 => ?_)
      have hV_q_15 : sx_V h L q_15 := by rw [eq_15]; exact hV_q_13.pI ka0 trivial
      have hF_q_15 : sx_fr h L (fun a => h.1 a = 6 ∨ h.1 a = 8 ∨ h.1 a = 5 ∨ h.1 a = 2 ∨ h.1 a = 1) q q_15 := hF_q_13.tr (by rw [eq_15]; exact sx_fr.pI (show h.1 a0 = 6 ∨ h.1 a0 = 8 ∨ h.1 a0 = 5 ∨ h.1 a0 = 2 ∨ h.1 a0 = 1 from by omega))
      have z_16 : q_15.1 a0 1 = 1 := by rw [eq_15]; exact sg_pI_e
      refine wa_aload_n B dX6_beginLine_71 rfl 0 rfl ?_
      have z_17 : q_15.1 a0 3 = r_2 := ((show q_15.1 a0 3 = q_13.1 a0 3 from by rw [eq_15]; exact sg_pI_k (by decide))).trans ((h2_q_13.I ha0 (show ¬ (a0 = a1 ∧ h.1 a0 = 5 ∨ h.1 a0 = 2) from by omega) 3).trans (((show q_11.1 a0 3 = q_6.1 a0 3 from by rw [eq_11]; exact sg_pI_k (by decide))).trans (((show q_6.1 a0 3 = q_4.1 a0 3 from by rw [eq_6]; exact sg_pI_k (by decide))).trans (z_5))))
      refine wa_getI B (C := RX6) (T := TX6) (N := 8) iq_X6_beginLine_X6 ha0 ka0 (by decide) rfl 3 (by decide) (by decide) (by decide +kernel) rfl (by decide) (v := r_2) z_17 dX6_beginLine_72 ?_
      refine wa_if_eq B 96 dX6_beginLine_75 (by decide) (fun (t_18 : r_2.toInt = 0) => ?_) (fun (t_18 : ¬ r_2.toInt = 0) => ?_)
      · refine wa_iconst B 1 dX6_beginLine_96 (by decide) ?_
        refine wa_goto B 101 dX6_beginLine_97 (by decide) ?_
        exact hret _ _ _ _ dX6_beginLine_101 (Or.inr rfl) ⟨hV_q_15, hF_q_15, (by have h9 : (1 : Int32).toInt = 1 := rfl; first | omega | (refine ⟨?_, ?_⟩ <;> omega) | trivial)⟩
      · refine wa_aload_n B dX6_beginLine_78 rfl 0 rfl ?_
        have z_19 : q_15.2.2.1 a0 0 = a_8 := ((show q_15.2.2.1 a0 0 = q_13.2.2.1 a0 0 from by rw [eq_15]; rfl)).trans ((h2_q_13.R ha0 (show ¬ ((a0 = a1 ∧ h.1 a0 = 5 ∨ h.1 a0 = 2) ∧ (h.1 a0 = 8 ∨ h.1 a0 = 11)) from by omega) 0).trans (((show q_11.2.2.1 a0 0 = q_6.2.2.1 a0 0 from by rw [eq_11]; rfl)).trans (ea_8)))
        refine wa_getR B (C := RX6) (T := TX6) (N := 8) iq_X6_beginLine_X6 ha0 ka0 (by decide) rfl 0 (by decide) (by decide) (by decide +kernel) rfl (fun _ _ _ => rfl) (v := a_8) z_19 dX6_beginLine_79 ?_
        refine wa_iconst B 4 dX6_beginLine_82 (by decide) ?_
        refine wa_aload_n B dX6_beginLine_83 rfl 0 rfl ?_
        refine wa_getR B (C := RX6) (T := TX6) (N := 8) iq_X6_beginLine_X6 ha0 ka0 (by decide) rfl 0 (by decide) (by decide) (by decide +kernel) rfl (fun _ _ _ => rfl) (v := a_8) z_19 dX6_beginLine_84 ?_
        refine wa_getI B (C := RX8) (T := TX8) (N := 11) iq_X6_beginLine_X8 ha_8 ka_8 (by decide) rfl 1 (by decide) (by decide) (by decide +kernel) rfl (by decide) (v := (q_15.1 a_8 1)) rfl dX6_beginLine_87 ?_
        refine wa_callVi B (x := (RX8, TX8, 11)) (As := [.int 4, .int (q_15.1 a_8 1)]) (rest := []) (k_X8_refuse l dC dI h L hN q_15 hV_q_15 (a0 := a_8) ha_8 ka_8 4 (q_15.1 a_8 1)  ) (cwV 2 B.1.2.2.2.2 gX6_beginLine_X8_refuse rfl rfl rfl (by decide +kernel) ⟨Nat.le_of_ble_eq_true rfl, Nat.le_of_ble_eq_true rfl⟩) ha_8 ka_8 (by decide) rfl rfl rfl (Nat.le_of_ble_eq_true rfl) dX6_beginLine_90 (fun r_21 q_20 w_22 => ?_)
        obtain ⟨hV_q_20, h2_q_20, hw_22⟩ := w_22
        have hF_q_20 : sx_fr h L (fun a => h.1 a = 6 ∨ h.1 a = 8 ∨ h.1 a = 5 ∨ h.1 a = 2 ∨ h.1 a = 1) q q_20 := hF_q_15.tr (h2_q_20.mono (fun a (z : a = a_8 ∧ h.1 a = 8) => (show h.1 a = 6 ∨ h.1 a = 8 ∨ h.1 a = 5 ∨ h.1 a = 2 ∨ h.1 a = 1 from by omega)))
        refine wa_if_eq B 100 dX6_beginLine_93 (by decide) (fun (t_23 : r_21.toInt = 0) => ?_) (fun (t_23 : ¬ r_21.toInt = 0) => ?_)
        · refine wa_iconst B 0 dX6_beginLine_100 (by decide) ?_
          exact hret _ _ _ _ dX6_beginLine_101 (Or.inl rfl) ⟨hV_q_20, hF_q_20, (by have h9 : (0 : Int32).toInt = 0 := rfl; first | omega | (refine ⟨?_, ?_⟩ <;> omega) | trivial)⟩
        · refine wa_iconst B 1 dX6_beginLine_96 (by decide) ?_
          refine wa_goto B 101 dX6_beginLine_97 (by decide) ?_
          exact hret _ _ _ _ dX6_beginLine_101 (Or.inr rfl) ⟨hV_q_20, hF_q_20, (by have h9 : (1 : Int32).toInt = 1 := rfl; first | omega | (refine ⟨?_, ?_⟩ <;> omega) | trivial)⟩
    · refine wa_iconst B 1 dX6_beginLine_50 (by decide) ?_
      refine wa_goto B 55 dX6_beginLine_51 (by decide) ?_
      refine wa_putI B (C := RX6) (T := TX6) (N := 8) iq_X6_beginLine_X6 ha0 ka0 (by decide) rfl 2 (by decide) (by decide) (by decide +kernel) rfl (by decide) (v := 1) (ty := .int) tyX6 tyX6_ok nmX6 rfl (by decide +kernel) rfl rfl dX6_beginLine_55 (fun q_24 eq_24 => ?_)
      have hV_q_24 : sx_V h L q_24 := by rw [eq_24]; exact hV_q_6.pI ka0 trivial
      have hF_q_24 : sx_fr h L (fun a => h.1 a = 6 ∨ h.1 a = 8 ∨ h.1 a = 5 ∨ h.1 a = 2 ∨ h.1 a = 1) q q_24 := hF_q_6.tr (by rw [eq_24]; exact sx_fr.pI (show h.1 a0 = 6 ∨ h.1 a0 = 8 ∨ h.1 a0 = 5 ∨ h.1 a0 = 2 ∨ h.1 a0 = 1 from by omega))
      have z_25 : q_24.1 a0 2 = 1 := by rw [eq_24]; exact sg_pI_e
      refine wa_aload_n B dX6_beginLine_58 rfl 1 rfl ?_
      refine wa_aload_n B dX6_beginLine_59 rfl 0 rfl ?_
      refine wa_getI B (C := RX6) (T := TX6) (N := 8) iq_X6_beginLine_X6 ha0 ka0 (by decide) rfl 2 (by decide) (by decide) (by decide +kernel) rfl (by decide) (v := 1) z_25 dX6_beginLine_60 ?_
      refine wa_callVv B (x := (RX5, TX5, 7)) (As := [.int 1]) (rest := []) (k_X5_addLine l dC dI h L hN q_24 hV_q_24 (a0 := a1) ha1 ka1 1  ) (cwV 1 B.1.2.2.2.2 gX6_beginLine_X5_addLine rfl rfl rfl (by decide +kernel) ⟨Nat.le_of_ble_eq_true rfl, Nat.le_of_ble_eq_true rfl⟩) ha1 ka1 (by decide) rfl rfl rfl (Nat.le_of_ble_eq_true rfl) dX6_beginLine_63 (fun q_26 w_27 => ?_)
      obtain ⟨hV_q_26, h2_q_26⟩ := w_27
      have hF_q_26 : sx_fr h L (fun a => h.1 a = 6 ∨ h.1 a = 8 ∨ h.1 a = 5 ∨ h.1 a = 2 ∨ h.1 a = 1) q q_26 := hF_q_24.tr (h2_q_26.mono (fun a (z : a = a1 ∧ h.1 a = 5 ∨ h.1 a = 2) => (show h.1 a = 6 ∨ h.1 a = 8 ∨ h.1 a = 5 ∨ h.1 a = 2 ∨ h.1 a = 1 from by omega)))
      refine wa_aload_n B dX6_beginLine_66 rfl 0 rfl ?_
      refine wa_iconst B 1 dX6_beginLine_67 (by decide) ?_
      refine wa_putI B (C := RX6) (T := TX6) (N := 8) iq_X6_beginLine_X6 ha0 ka0 (by decide) rfl 1 (by decide) (by decide) (by decide +kernel) rfl (by decide) (v := 1) (ty := .int) tyX6 tyX6_ok nmX6 rfl (by decide +kernel) rfl rfl dX6_beginLine_68 (fun q_28 eq_28 => ?_)
      have hV_q_28 : sx_V h L q_28 := by rw [eq_28]; exact hV_q_26.pI ka0 trivial
      have hF_q_28 : sx_fr h L (fun a => h.1 a = 6 ∨ h.1 a = 8 ∨ h.1 a = 5 ∨ h.1 a = 2 ∨ h.1 a = 1) q q_28 := hF_q_26.tr (by rw [eq_28]; exact sx_fr.pI (show h.1 a0 = 6 ∨ h.1 a0 = 8 ∨ h.1 a0 = 5 ∨ h.1 a0 = 2 ∨ h.1 a0 = 1 from by omega))
      have z_29 : q_28.1 a0 1 = 1 := by rw [eq_28]; exact sg_pI_e
      refine wa_aload_n B dX6_beginLine_71 rfl 0 rfl ?_
      have z_30 : q_28.1 a0 3 = r_2 := ((show q_28.1 a0 3 = q_26.1 a0 3 from by rw [eq_28]; exact sg_pI_k (by decide))).trans ((h2_q_26.I ha0 (show ¬ (a0 = a1 ∧ h.1 a0 = 5 ∨ h.1 a0 = 2) from by omega) 3).trans (((show q_24.1 a0 3 = q_6.1 a0 3 from by rw [eq_24]; exact sg_pI_k (by decide))).trans (((show q_6.1 a0 3 = q_4.1 a0 3 from by rw [eq_6]; exact sg_pI_k (by decide))).trans (z_5))))
      refine wa_getI B (C := RX6) (T := TX6) (N := 8) iq_X6_beginLine_X6 ha0 ka0 (by decide) rfl 3 (by decide) (by decide) (by decide +kernel) rfl (by decide) (v := r_2) z_30 dX6_beginLine_72 ?_
      refine wa_if_eq B 96 dX6_beginLine_75 (by decide) (fun (t_31 : r_2.toInt = 0) => ?_) (fun (t_31 : ¬ r_2.toInt = 0) => ?_)
      · refine wa_iconst B 1 dX6_beginLine_96 (by decide) ?_
        refine wa_goto B 101 dX6_beginLine_97 (by decide) ?_
        exact hret _ _ _ _ dX6_beginLine_101 (Or.inr rfl) ⟨hV_q_28, hF_q_28, (by have h9 : (1 : Int32).toInt = 1 := rfl; first | omega | (refine ⟨?_, ?_⟩ <;> omega) | trivial)⟩
      · refine wa_aload_n B dX6_beginLine_78 rfl 0 rfl ?_
        have z_32 : q_28.2.2.1 a0 0 = a_8 := ((show q_28.2.2.1 a0 0 = q_26.2.2.1 a0 0 from by rw [eq_28]; rfl)).trans ((h2_q_26.R ha0 (show ¬ ((a0 = a1 ∧ h.1 a0 = 5 ∨ h.1 a0 = 2) ∧ (h.1 a0 = 8 ∨ h.1 a0 = 11)) from by omega) 0).trans (((show q_24.2.2.1 a0 0 = q_6.2.2.1 a0 0 from by rw [eq_24]; rfl)).trans (ea_8)))
        refine wa_getR B (C := RX6) (T := TX6) (N := 8) iq_X6_beginLine_X6 ha0 ka0 (by decide) rfl 0 (by decide) (by decide) (by decide +kernel) rfl (fun _ _ _ => rfl) (v := a_8) z_32 dX6_beginLine_79 ?_
        refine wa_iconst B 4 dX6_beginLine_82 (by decide) ?_
        refine wa_aload_n B dX6_beginLine_83 rfl 0 rfl ?_
        refine wa_getR B (C := RX6) (T := TX6) (N := 8) iq_X6_beginLine_X6 ha0 ka0 (by decide) rfl 0 (by decide) (by decide) (by decide +kernel) rfl (fun _ _ _ => rfl) (v := a_8) z_32 dX6_beginLine_84 ?_
        refine wa_getI B (C := RX8) (T := TX8) (N := 11) iq_X6_beginLine_X8 ha_8 ka_8 (by decide) rfl 1 (by decide) (by decide) (by decide +kernel) rfl (by decide) (v := (q_28.1 a_8 1)) rfl dX6_beginLine_87 ?_
        refine wa_callVi B (x := (RX8, TX8, 11)) (As := [.int 4, .int (q_28.1 a_8 1)]) (rest := []) (k_X8_refuse l dC dI h L hN q_28 hV_q_28 (a0 := a_8) ha_8 ka_8 4 (q_28.1 a_8 1)  ) (cwV 2 B.1.2.2.2.2 gX6_beginLine_X8_refuse rfl rfl rfl (by decide +kernel) ⟨Nat.le_of_ble_eq_true rfl, Nat.le_of_ble_eq_true rfl⟩) ha_8 ka_8 (by decide) rfl rfl rfl (Nat.le_of_ble_eq_true rfl) dX6_beginLine_90 (fun r_34 q_33 w_35 => ?_)
        obtain ⟨hV_q_33, h2_q_33, hw_35⟩ := w_35
        have hF_q_33 : sx_fr h L (fun a => h.1 a = 6 ∨ h.1 a = 8 ∨ h.1 a = 5 ∨ h.1 a = 2 ∨ h.1 a = 1) q q_33 := hF_q_28.tr (h2_q_33.mono (fun a (z : a = a_8 ∧ h.1 a = 8) => (show h.1 a = 6 ∨ h.1 a = 8 ∨ h.1 a = 5 ∨ h.1 a = 2 ∨ h.1 a = 1 from by omega)))
        refine wa_if_eq B 100 dX6_beginLine_93 (by decide) (fun (t_36 : r_34.toInt = 0) => ?_) (fun (t_36 : ¬ r_34.toInt = 0) => ?_)
        · refine wa_iconst B 0 dX6_beginLine_100 (by decide) ?_
          exact hret _ _ _ _ dX6_beginLine_101 (Or.inl rfl) ⟨hV_q_33, hF_q_33, (by have h9 : (0 : Int32).toInt = 0 := rfl; first | omega | (refine ⟨?_, ?_⟩ <;> omega) | trivial)⟩
        · refine wa_iconst B 1 dX6_beginLine_96 (by decide) ?_
          refine wa_goto B 101 dX6_beginLine_97 (by decide) ?_
          exact hret _ _ _ _ dX6_beginLine_101 (Or.inr rfl) ⟨hV_q_33, hF_q_33, (by have h9 : (1 : Int32).toInt = 1 := rfl; first | omega | (refine ⟨?_, ?_⟩ <;> omega) | trivial)⟩
  · refine wa_aload_n B dX6_beginLine_25 rfl 0 rfl ?_
    refine wa_getR B (C := RX6) (T := TX6) (N := 8) iq_X6_beginLine_X6 ha0 ka0 (by decide) rfl 0 (by decide) (by decide) (by decide +kernel) rfl (fun _ _ _ => rfl) (v := a_8) ea_8 dX6_beginLine_26 ?_
    refine wa_getI B (C := RX8) (T := TX8) (N := 11) iq_X6_beginLine_X8 ha_8 ka_8 (by decide) rfl 0 (by decide) (by decide) (by decide +kernel) rfl (by decide) (v := (q_6.1 a_8 0)) rfl dX6_beginLine_29 ?_
    refine wa_bipush B 8 dX6_beginLine_32 (by decide) ?_
    refine wa_icmp_ne B 102 dX6_beginLine_34 (by decide) (fun (t_37 : ¬ (q_6.1 a_8 0).toInt = 8) => ?_) (fun (t_37 : (q_6.1 a_8 0).toInt = 8) => ?_)
    · refine wa_aload_n B dX6_beginLine_102 rfl 0 rfl ?_
      refine wa_iconst B 0 dX6_beginLine_103 (by decide) ?_
      refine wa_putI B (C := RX6) (T := TX6) (N := 8) iq_X6_beginLine_X6 ha0 ka0 (by decide) rfl 2 (by decide) (by decide) (by decide +kernel) rfl (by decide) (v := 0) (ty := .int) tyX6 tyX6_ok nmX6 rfl (by decide +kernel) rfl rfl dX6_beginLine_104 (fun q_38 eq_38 => ?_)
      have hV_q_38 : sx_V h L q_38 := by rw [eq_38]; exact hV_q_6.pI ka0 trivial
      have hF_q_38 : sx_fr h L (fun a => h.1 a = 6 ∨ h.1 a = 8 ∨ h.1 a = 5 ∨ h.1 a = 2 ∨ h.1 a = 1) q q_38 := hF_q_6.tr (by rw [eq_38]; exact sx_fr.pI (show h.1 a0 = 6 ∨ h.1 a0 = 8 ∨ h.1 a0 = 5 ∨ h.1 a0 = 2 ∨ h.1 a0 = 1 from by omega))
      have z_39 : q_38.1 a0 2 = 0 := by rw [eq_38]; exact sg_pI_e
      refine wa_aload_n B dX6_beginLine_107 rfl 1 rfl ?_
      refine wa_aload_n B dX6_beginLine_108 rfl 0 rfl ?_
      refine wa_getI B (C := RX6) (T := TX6) (N := 8) iq_X6_beginLine_X6 ha0 ka0 (by decide) rfl 2 (by decide) (by decide) (by decide +kernel) rfl (by decide) (v := 0) z_39 dX6_beginLine_109 ?_
      refine wa_callVv B (x := (RX5, TX5, 7)) (As := [.int 0]) (rest := []) (k_X5_addLine l dC dI h L hN q_38 hV_q_38 (a0 := a1) ha1 ka1 0  ) (cwV 1 B.1.2.2.2.2 gX6_beginLine_X5_addLine rfl rfl rfl (by decide +kernel) ⟨Nat.le_of_ble_eq_true rfl, Nat.le_of_ble_eq_true rfl⟩) ha1 ka1 (by decide) rfl rfl rfl (Nat.le_of_ble_eq_true rfl) dX6_beginLine_112 (fun q_40 w_41 => ?_)
      obtain ⟨hV_q_40, h2_q_40⟩ := w_41
      have hF_q_40 : sx_fr h L (fun a => h.1 a = 6 ∨ h.1 a = 8 ∨ h.1 a = 5 ∨ h.1 a = 2 ∨ h.1 a = 1) q q_40 := hF_q_38.tr (h2_q_40.mono (fun a (z : a = a1 ∧ h.1 a = 5 ∨ h.1 a = 2) => (show h.1 a = 6 ∨ h.1 a = 8 ∨ h.1 a = 5 ∨ h.1 a = 2 ∨ h.1 a = 1 from by omega)))
      refine wa_aload_n B dX6_beginLine_115 rfl 0 rfl ?_
      refine wa_callVi B (x := (RX6, TX6, 8)) (As := []) (rest := []) (k_X6_takeCount l dC dI h L hN q_40 hV_q_40 (a0 := a0) ha0 ka0  ) (cwV 0 B.1.2.2.2.2 gX6_beginLine_X6_takeCount rfl rfl rfl (by decide +kernel) ⟨Nat.le_of_ble_eq_true rfl, Nat.le_of_ble_eq_true rfl⟩) ha0 ka0 (by decide) rfl rfl rfl (Nat.le_of_ble_eq_true rfl) dX6_beginLine_116 (fun r_43 q_42 w_44 => ?_)
      obtain ⟨hV_q_42, h2_q_42, hw_44⟩ := w_44
      have hF_q_42 : sx_fr h L (fun a => h.1 a = 6 ∨ h.1 a = 8 ∨ h.1 a = 5 ∨ h.1 a = 2 ∨ h.1 a = 1) q q_42 := hF_q_40.tr (h2_q_42.mono (fun a (z : h.1 a = 6 ∨ h.1 a = 8) => (show h.1 a = 6 ∨ h.1 a = 8 ∨ h.1 a = 5 ∨ h.1 a = 2 ∨ h.1 a = 1 from by omega)))
      exact hret _ _ _ _ dX6_beginLine_119 (zx_01 (by omega)) ⟨hV_q_42, hF_q_42, (by first | omega | (refine ⟨?_, ?_⟩ <;> omega) | trivial)⟩
    · refine wa_aload_n B dX6_beginLine_37 rfl 0 rfl ?_
      refine wa_aload_n B dX6_beginLine_38 rfl 0 rfl ?_
      refine wa_getR B (C := RX6) (T := TX6) (N := 8) iq_X6_beginLine_X6 ha0 ka0 (by decide) rfl 0 (by decide) (by decide) (by decide +kernel) rfl (fun _ _ _ => rfl) (v := a_8) ea_8 dX6_beginLine_39 ?_
      refine wa_getI B (C := RX8) (T := TX8) (N := 11) iq_X6_beginLine_X8 ha_8 ka_8 (by decide) rfl 0 (by decide) (by decide) (by decide +kernel) rfl (by decide) (v := (q_6.1 a_8 0)) rfl dX6_beginLine_42 ?_
      refine wa_bipush B 7 dX6_beginLine_45 (by decide) ?_
      refine wa_icmp_ne B 54 dX6_beginLine_47 (by decide) (fun (t_45 : ¬ (q_6.1 a_8 0).toInt = 7) => ?_) (fun (t_45 : (q_6.1 a_8 0).toInt = 7) => ?_)
      · refine wa_iconst B 2 dX6_beginLine_54 (by decide) ?_
        refine wa_putI B (C := RX6) (T := TX6) (N := 8) iq_X6_beginLine_X6 ha0 ka0 (by decide) rfl 2 (by decide) (by decide) (by decide +kernel) rfl (by decide) (v := 2) (ty := .int) tyX6 tyX6_ok nmX6 rfl (by decide +kernel) rfl rfl dX6_beginLine_55 (fun q_46 eq_46 => ?_)
        have hV_q_46 : sx_V h L q_46 := by rw [eq_46]; exact hV_q_6.pI ka0 trivial
        have hF_q_46 : sx_fr h L (fun a => h.1 a = 6 ∨ h.1 a = 8 ∨ h.1 a = 5 ∨ h.1 a = 2 ∨ h.1 a = 1) q q_46 := hF_q_6.tr (by rw [eq_46]; exact sx_fr.pI (show h.1 a0 = 6 ∨ h.1 a0 = 8 ∨ h.1 a0 = 5 ∨ h.1 a0 = 2 ∨ h.1 a0 = 1 from by omega))
        have z_47 : q_46.1 a0 2 = 2 := by rw [eq_46]; exact sg_pI_e
        refine wa_aload_n B dX6_beginLine_58 rfl 1 rfl ?_
        refine wa_aload_n B dX6_beginLine_59 rfl 0 rfl ?_
        refine wa_getI B (C := RX6) (T := TX6) (N := 8) iq_X6_beginLine_X6 ha0 ka0 (by decide) rfl 2 (by decide) (by decide) (by decide +kernel) rfl (by decide) (v := 2) z_47 dX6_beginLine_60 ?_
        refine wa_callVv B (x := (RX5, TX5, 7)) (As := [.int 2]) (rest := []) (k_X5_addLine l dC dI h L hN q_46 hV_q_46 (a0 := a1) ha1 ka1 2  ) (cwV 1 B.1.2.2.2.2 gX6_beginLine_X5_addLine rfl rfl rfl (by decide +kernel) ⟨Nat.le_of_ble_eq_true rfl, Nat.le_of_ble_eq_true rfl⟩) ha1 ka1 (by decide) rfl rfl rfl (Nat.le_of_ble_eq_true rfl) dX6_beginLine_63 (fun q_48 w_49 => ?_)
        obtain ⟨hV_q_48, h2_q_48⟩ := w_49
        have hF_q_48 : sx_fr h L (fun a => h.1 a = 6 ∨ h.1 a = 8 ∨ h.1 a = 5 ∨ h.1 a = 2 ∨ h.1 a = 1) q q_48 := hF_q_46.tr (h2_q_48.mono (fun a (z : a = a1 ∧ h.1 a = 5 ∨ h.1 a = 2) => (show h.1 a = 6 ∨ h.1 a = 8 ∨ h.1 a = 5 ∨ h.1 a = 2 ∨ h.1 a = 1 from by omega)))
        refine wa_aload_n B dX6_beginLine_66 rfl 0 rfl ?_
        refine wa_iconst B 1 dX6_beginLine_67 (by decide) ?_
        refine wa_putI B (C := RX6) (T := TX6) (N := 8) iq_X6_beginLine_X6 ha0 ka0 (by decide) rfl 1 (by decide) (by decide) (by decide +kernel) rfl (by decide) (v := 1) (ty := .int) tyX6 tyX6_ok nmX6 rfl (by decide +kernel) rfl rfl dX6_beginLine_68 (fun q_50 eq_50 => ?_)
        have hV_q_50 : sx_V h L q_50 := by rw [eq_50]; exact hV_q_48.pI ka0 trivial
        have hF_q_50 : sx_fr h L (fun a => h.1 a = 6 ∨ h.1 a = 8 ∨ h.1 a = 5 ∨ h.1 a = 2 ∨ h.1 a = 1) q q_50 := hF_q_48.tr (by rw [eq_50]; exact sx_fr.pI (show h.1 a0 = 6 ∨ h.1 a0 = 8 ∨ h.1 a0 = 5 ∨ h.1 a0 = 2 ∨ h.1 a0 = 1 from by omega))
        have z_51 : q_50.1 a0 1 = 1 := by rw [eq_50]; exact sg_pI_e
        refine wa_aload_n B dX6_beginLine_71 rfl 0 rfl ?_
        have z_52 : q_50.1 a0 3 = r_2 := ((show q_50.1 a0 3 = q_48.1 a0 3 from by rw [eq_50]; exact sg_pI_k (by decide))).trans ((h2_q_48.I ha0 (show ¬ (a0 = a1 ∧ h.1 a0 = 5 ∨ h.1 a0 = 2) from by omega) 3).trans (((show q_46.1 a0 3 = q_6.1 a0 3 from by rw [eq_46]; exact sg_pI_k (by decide))).trans (((show q_6.1 a0 3 = q_4.1 a0 3 from by rw [eq_6]; exact sg_pI_k (by decide))).trans (z_5))))
        refine wa_getI B (C := RX6) (T := TX6) (N := 8) iq_X6_beginLine_X6 ha0 ka0 (by decide) rfl 3 (by decide) (by decide) (by decide +kernel) rfl (by decide) (v := r_2) z_52 dX6_beginLine_72 ?_
        refine wa_if_eq B 96 dX6_beginLine_75 (by decide) (fun (t_53 : r_2.toInt = 0) => ?_) (fun (t_53 : ¬ r_2.toInt = 0) => ?_)
        · refine wa_iconst B 1 dX6_beginLine_96 (by decide) ?_
          refine wa_goto B 101 dX6_beginLine_97 (by decide) ?_
          exact hret _ _ _ _ dX6_beginLine_101 (Or.inr rfl) ⟨hV_q_50, hF_q_50, (by have h9 : (1 : Int32).toInt = 1 := rfl; first | omega | (refine ⟨?_, ?_⟩ <;> omega) | trivial)⟩
        · refine wa_aload_n B dX6_beginLine_78 rfl 0 rfl ?_
          have z_54 : q_50.2.2.1 a0 0 = a_8 := ((show q_50.2.2.1 a0 0 = q_48.2.2.1 a0 0 from by rw [eq_50]; rfl)).trans ((h2_q_48.R ha0 (show ¬ ((a0 = a1 ∧ h.1 a0 = 5 ∨ h.1 a0 = 2) ∧ (h.1 a0 = 8 ∨ h.1 a0 = 11)) from by omega) 0).trans (((show q_46.2.2.1 a0 0 = q_6.2.2.1 a0 0 from by rw [eq_46]; rfl)).trans (ea_8)))
          refine wa_getR B (C := RX6) (T := TX6) (N := 8) iq_X6_beginLine_X6 ha0 ka0 (by decide) rfl 0 (by decide) (by decide) (by decide +kernel) rfl (fun _ _ _ => rfl) (v := a_8) z_54 dX6_beginLine_79 ?_
          refine wa_iconst B 4 dX6_beginLine_82 (by decide) ?_
          refine wa_aload_n B dX6_beginLine_83 rfl 0 rfl ?_
          refine wa_getR B (C := RX6) (T := TX6) (N := 8) iq_X6_beginLine_X6 ha0 ka0 (by decide) rfl 0 (by decide) (by decide) (by decide +kernel) rfl (fun _ _ _ => rfl) (v := a_8) z_54 dX6_beginLine_84 ?_
          refine wa_getI B (C := RX8) (T := TX8) (N := 11) iq_X6_beginLine_X8 ha_8 ka_8 (by decide) rfl 1 (by decide) (by decide) (by decide +kernel) rfl (by decide) (v := (q_50.1 a_8 1)) rfl dX6_beginLine_87 ?_
          refine wa_callVi B (x := (RX8, TX8, 11)) (As := [.int 4, .int (q_50.1 a_8 1)]) (rest := []) (k_X8_refuse l dC dI h L hN q_50 hV_q_50 (a0 := a_8) ha_8 ka_8 4 (q_50.1 a_8 1)  ) (cwV 2 B.1.2.2.2.2 gX6_beginLine_X8_refuse rfl rfl rfl (by decide +kernel) ⟨Nat.le_of_ble_eq_true rfl, Nat.le_of_ble_eq_true rfl⟩) ha_8 ka_8 (by decide) rfl rfl rfl (Nat.le_of_ble_eq_true rfl) dX6_beginLine_90 (fun r_56 q_55 w_57 => ?_)
          obtain ⟨hV_q_55, h2_q_55, hw_57⟩ := w_57
          have hF_q_55 : sx_fr h L (fun a => h.1 a = 6 ∨ h.1 a = 8 ∨ h.1 a = 5 ∨ h.1 a = 2 ∨ h.1 a = 1) q q_55 := hF_q_50.tr (h2_q_55.mono (fun a (z : a = a_8 ∧ h.1 a = 8) => (show h.1 a = 6 ∨ h.1 a = 8 ∨ h.1 a = 5 ∨ h.1 a = 2 ∨ h.1 a = 1 from by omega)))
          refine wa_if_eq B 100 dX6_beginLine_93 (by decide) (fun (t_58 : r_56.toInt = 0) => ?_) (fun (t_58 : ¬ r_56.toInt = 0) => ?_)
          · refine wa_iconst B 0 dX6_beginLine_100 (by decide) ?_
            exact hret _ _ _ _ dX6_beginLine_101 (Or.inl rfl) ⟨hV_q_55, hF_q_55, (by have h9 : (0 : Int32).toInt = 0 := rfl; first | omega | (refine ⟨?_, ?_⟩ <;> omega) | trivial)⟩
          · refine wa_iconst B 1 dX6_beginLine_96 (by decide) ?_
            refine wa_goto B 101 dX6_beginLine_97 (by decide) ?_
            exact hret _ _ _ _ dX6_beginLine_101 (Or.inr rfl) ⟨hV_q_55, hF_q_55, (by have h9 : (1 : Int32).toInt = 1 := rfl; first | omega | (refine ⟨?_, ?_⟩ <;> omega) | trivial)⟩
      · refine wa_iconst B 1 dX6_beginLine_50 (by decide) ?_
        refine wa_goto B 55 dX6_beginLine_51 (by decide) ?_
        refine wa_putI B (C := RX6) (T := TX6) (N := 8) iq_X6_beginLine_X6 ha0 ka0 (by decide) rfl 2 (by decide) (by decide) (by decide +kernel) rfl (by decide) (v := 1) (ty := .int) tyX6 tyX6_ok nmX6 rfl (by decide +kernel) rfl rfl dX6_beginLine_55 (fun q_59 eq_59 => ?_)
        have hV_q_59 : sx_V h L q_59 := by rw [eq_59]; exact hV_q_6.pI ka0 trivial
        have hF_q_59 : sx_fr h L (fun a => h.1 a = 6 ∨ h.1 a = 8 ∨ h.1 a = 5 ∨ h.1 a = 2 ∨ h.1 a = 1) q q_59 := hF_q_6.tr (by rw [eq_59]; exact sx_fr.pI (show h.1 a0 = 6 ∨ h.1 a0 = 8 ∨ h.1 a0 = 5 ∨ h.1 a0 = 2 ∨ h.1 a0 = 1 from by omega))
        have z_60 : q_59.1 a0 2 = 1 := by rw [eq_59]; exact sg_pI_e
        refine wa_aload_n B dX6_beginLine_58 rfl 1 rfl ?_
        refine wa_aload_n B dX6_beginLine_59 rfl 0 rfl ?_
        refine wa_getI B (C := RX6) (T := TX6) (N := 8) iq_X6_beginLine_X6 ha0 ka0 (by decide) rfl 2 (by decide) (by decide) (by decide +kernel) rfl (by decide) (v := 1) z_60 dX6_beginLine_60 ?_
        refine wa_callVv B (x := (RX5, TX5, 7)) (As := [.int 1]) (rest := []) (k_X5_addLine l dC dI h L hN q_59 hV_q_59 (a0 := a1) ha1 ka1 1  ) (cwV 1 B.1.2.2.2.2 gX6_beginLine_X5_addLine rfl rfl rfl (by decide +kernel) ⟨Nat.le_of_ble_eq_true rfl, Nat.le_of_ble_eq_true rfl⟩) ha1 ka1 (by decide) rfl rfl rfl (Nat.le_of_ble_eq_true rfl) dX6_beginLine_63 (fun q_61 w_62 => ?_)
        obtain ⟨hV_q_61, h2_q_61⟩ := w_62
        have hF_q_61 : sx_fr h L (fun a => h.1 a = 6 ∨ h.1 a = 8 ∨ h.1 a = 5 ∨ h.1 a = 2 ∨ h.1 a = 1) q q_61 := hF_q_59.tr (h2_q_61.mono (fun a (z : a = a1 ∧ h.1 a = 5 ∨ h.1 a = 2) => (show h.1 a = 6 ∨ h.1 a = 8 ∨ h.1 a = 5 ∨ h.1 a = 2 ∨ h.1 a = 1 from by omega)))
        refine wa_aload_n B dX6_beginLine_66 rfl 0 rfl ?_
        refine wa_iconst B 1 dX6_beginLine_67 (by decide) ?_
        refine wa_putI B (C := RX6) (T := TX6) (N := 8) iq_X6_beginLine_X6 ha0 ka0 (by decide) rfl 1 (by decide) (by decide) (by decide +kernel) rfl (by decide) (v := 1) (ty := .int) tyX6 tyX6_ok nmX6 rfl (by decide +kernel) rfl rfl dX6_beginLine_68 (fun q_63 eq_63 => ?_)
        have hV_q_63 : sx_V h L q_63 := by rw [eq_63]; exact hV_q_61.pI ka0 trivial
        have hF_q_63 : sx_fr h L (fun a => h.1 a = 6 ∨ h.1 a = 8 ∨ h.1 a = 5 ∨ h.1 a = 2 ∨ h.1 a = 1) q q_63 := hF_q_61.tr (by rw [eq_63]; exact sx_fr.pI (show h.1 a0 = 6 ∨ h.1 a0 = 8 ∨ h.1 a0 = 5 ∨ h.1 a0 = 2 ∨ h.1 a0 = 1 from by omega))
        have z_64 : q_63.1 a0 1 = 1 := by rw [eq_63]; exact sg_pI_e
        refine wa_aload_n B dX6_beginLine_71 rfl 0 rfl ?_
        have z_65 : q_63.1 a0 3 = r_2 := ((show q_63.1 a0 3 = q_61.1 a0 3 from by rw [eq_63]; exact sg_pI_k (by decide))).trans ((h2_q_61.I ha0 (show ¬ (a0 = a1 ∧ h.1 a0 = 5 ∨ h.1 a0 = 2) from by omega) 3).trans (((show q_59.1 a0 3 = q_6.1 a0 3 from by rw [eq_59]; exact sg_pI_k (by decide))).trans (((show q_6.1 a0 3 = q_4.1 a0 3 from by rw [eq_6]; exact sg_pI_k (by decide))).trans (z_5))))
        refine wa_getI B (C := RX6) (T := TX6) (N := 8) iq_X6_beginLine_X6 ha0 ka0 (by decide) rfl 3 (by decide) (by decide) (by decide +kernel) rfl (by decide) (v := r_2) z_65 dX6_beginLine_72 ?_
        refine wa_if_eq B 96 dX6_beginLine_75 (by decide) (fun (t_66 : r_2.toInt = 0) => ?_) (fun (t_66 : ¬ r_2.toInt = 0) => ?_)
        · refine wa_iconst B 1 dX6_beginLine_96 (by decide) ?_
          refine wa_goto B 101 dX6_beginLine_97 (by decide) ?_
          exact hret _ _ _ _ dX6_beginLine_101 (Or.inr rfl) ⟨hV_q_63, hF_q_63, (by have h9 : (1 : Int32).toInt = 1 := rfl; first | omega | (refine ⟨?_, ?_⟩ <;> omega) | trivial)⟩
        · refine wa_aload_n B dX6_beginLine_78 rfl 0 rfl ?_
          have z_67 : q_63.2.2.1 a0 0 = a_8 := ((show q_63.2.2.1 a0 0 = q_61.2.2.1 a0 0 from by rw [eq_63]; rfl)).trans ((h2_q_61.R ha0 (show ¬ ((a0 = a1 ∧ h.1 a0 = 5 ∨ h.1 a0 = 2) ∧ (h.1 a0 = 8 ∨ h.1 a0 = 11)) from by omega) 0).trans (((show q_59.2.2.1 a0 0 = q_6.2.2.1 a0 0 from by rw [eq_59]; rfl)).trans (ea_8)))
          refine wa_getR B (C := RX6) (T := TX6) (N := 8) iq_X6_beginLine_X6 ha0 ka0 (by decide) rfl 0 (by decide) (by decide) (by decide +kernel) rfl (fun _ _ _ => rfl) (v := a_8) z_67 dX6_beginLine_79 ?_
          refine wa_iconst B 4 dX6_beginLine_82 (by decide) ?_
          refine wa_aload_n B dX6_beginLine_83 rfl 0 rfl ?_
          refine wa_getR B (C := RX6) (T := TX6) (N := 8) iq_X6_beginLine_X6 ha0 ka0 (by decide) rfl 0 (by decide) (by decide) (by decide +kernel) rfl (fun _ _ _ => rfl) (v := a_8) z_67 dX6_beginLine_84 ?_
          refine wa_getI B (C := RX8) (T := TX8) (N := 11) iq_X6_beginLine_X8 ha_8 ka_8 (by decide) rfl 1 (by decide) (by decide) (by decide +kernel) rfl (by decide) (v := (q_63.1 a_8 1)) rfl dX6_beginLine_87 ?_
          refine wa_callVi B (x := (RX8, TX8, 11)) (As := [.int 4, .int (q_63.1 a_8 1)]) (rest := []) (k_X8_refuse l dC dI h L hN q_63 hV_q_63 (a0 := a_8) ha_8 ka_8 4 (q_63.1 a_8 1)  ) (cwV 2 B.1.2.2.2.2 gX6_beginLine_X8_refuse rfl rfl rfl (by decide +kernel) ⟨Nat.le_of_ble_eq_true rfl, Nat.le_of_ble_eq_true rfl⟩) ha_8 ka_8 (by decide) rfl rfl rfl (Nat.le_of_ble_eq_true rfl) dX6_beginLine_90 (fun r_69 q_68 w_70 => ?_)
          obtain ⟨hV_q_68, h2_q_68, hw_70⟩ := w_70
          have hF_q_68 : sx_fr h L (fun a => h.1 a = 6 ∨ h.1 a = 8 ∨ h.1 a = 5 ∨ h.1 a = 2 ∨ h.1 a = 1) q q_68 := hF_q_63.tr (h2_q_68.mono (fun a (z : a = a_8 ∧ h.1 a = 8) => (show h.1 a = 6 ∨ h.1 a = 8 ∨ h.1 a = 5 ∨ h.1 a = 2 ∨ h.1 a = 1 from by omega)))
          refine wa_if_eq B 100 dX6_beginLine_93 (by decide) (fun (t_71 : r_69.toInt = 0) => ?_) (fun (t_71 : ¬ r_69.toInt = 0) => ?_)
          · refine wa_iconst B 0 dX6_beginLine_100 (by decide) ?_
            exact hret _ _ _ _ dX6_beginLine_101 (Or.inl rfl) ⟨hV_q_68, hF_q_68, (by have h9 : (0 : Int32).toInt = 0 := rfl; first | omega | (refine ⟨?_, ?_⟩ <;> omega) | trivial)⟩
          · refine wa_iconst B 1 dX6_beginLine_96 (by decide) ?_
            refine wa_goto B 101 dX6_beginLine_97 (by decide) ?_
            exact hret _ _ _ _ dX6_beginLine_101 (Or.inr rfl) ⟨hV_q_68, hF_q_68, (by have h9 : (1 : Int32).toInt = 1 := rfl; first | omega | (refine ⟨?_, ?_⟩ <;> omega) | trivial)⟩
theorem iq_X6_takeToken_X6 : ∀ w ∈ wsX60, w ∈ wsX6_takeToken := fun _ h => List.mem_cons_of_mem _ (List.mem_append_left _ (List.mem_append_left _ (List.mem_append_left _ (List.mem_append_left _ (List.mem_append_left _ (List.mem_append_right _ h))))))
theorem iq_X6_takeToken_X8 : ∀ w ∈ wsX80, w ∈ wsX6_takeToken := fun _ h => List.mem_cons_of_mem _ (List.mem_append_left _ (List.mem_append_left _ (List.mem_append_left _ (List.mem_append_left _ (List.mem_append_right _ h)))))
set_option maxHeartbeats 4000000 in
set_option maxRecDepth 100000 in
theorem k_X6_takeToken (l : Launch) (dC : Nat → ClassId) (dI : Nat → Nat → Nat) (h : Sh) (L : List Nat) (hN : sx_nd L) (q : Sg) (hV : sx_V h L q) {a0 : Nat} (ha0 : a0 ∈ L) (ka0 : h.1 a0 = 6) {a1 : Nat} (ha1 : a1 ∈ L) (ka1 : h.1 a1 = 9) {a2 : Nat} (ha2 : a2 ∈ L) (ka2 : h.1 a2 = 5)   : CMi l dC dI h L yX6_takeToken wsX6_takeToken ({ frames := 3, cells := 0, slots := 0, locals := 75 } : Room) q [.ref a0, .ref a1, .ref a2] (fun r q' => sx_V h L q' ∧ sx_fr h L (fun a => h.1 a = 6 ∨ h.1 a = 8 ∨ h.1 a = 5 ∨ h.1 a = 2 ∨ h.1 a = 1) q q' ∧ (r.toInt = 0 ∨ r.toInt = 1)) := by
  refine cm_z (cc := cX6_takeToken) (mL := 3) (own := RX6) hN (by decide) rfl rfl (Nat.le_of_ble_eq_true rfl) (fun Z B hret => ?_)
  have hF : sx_fr h L (fun a => h.1 a = 6 ∨ h.1 a = 8 ∨ h.1 a = 5 ∨ h.1 a = 2 ∨ h.1 a = 1) q q := sx_fr.rf
  show WA l dC dI h L ({ frames := 3, cells := 0, slots := 0, locals := 75 } : Room) 3 Z q 0 [(0, .ref a0), (1, .ref a1), (2, .ref a2)] []
  refine wa_aload_n B dX6_takeToken_0 rfl 0 rfl ?_
  refine wa_getI B (C := RX6) (T := TX6) (N := 8) iq_X6_takeToken_X6 ha0 ka0 (by decide) rfl 1 (by decide) (by decide) (by decide +kernel) rfl (by decide) (v := (q.1 a0 1)) rfl dX6_takeToken_1 ?_
  rcases (show ((q.1 a0 1).toInt < 0 ∨ 3 < (q.1 a0 1).toInt) ∨ (q.1 a0 1).toInt = 0 ∨ (q.1 a0 1).toInt = 1 ∨ (q.1 a0 1).toInt = 2 ∨ (q.1 a0 1).toInt = 3 by omega) with t_1 | t_1 | t_1 | t_1 | t_1
  · refine wa_tswOut B 78 dX6_takeToken_4 (by first | omega | exact t_1) (by decide) ?_
    refine wa_aload_n B dX6_takeToken_78 rfl 0 rfl ?_
    refine wa_callVi B (x := (RX6, TX6, 8)) (As := []) (rest := []) (k_X6_endLine l dC dI h L hN q hV (a0 := a0) ha0 ka0  ) (cwV 0 B.1.2.2.2.2 gX6_takeToken_X6_endLine rfl rfl rfl (by decide +kernel) ⟨Nat.le_of_ble_eq_true rfl, Nat.le_of_ble_eq_true rfl⟩) ha0 ka0 (by decide) rfl rfl rfl (Nat.le_of_ble_eq_true rfl) dX6_takeToken_79 (fun r_3 q_2 w_4 => ?_)
    obtain ⟨hV_q_2, h2_q_2, hw_4⟩ := w_4
    have hF_q_2 : sx_fr h L (fun a => h.1 a = 6 ∨ h.1 a = 8 ∨ h.1 a = 5 ∨ h.1 a = 2 ∨ h.1 a = 1) q q_2 := hF.tr (h2_q_2.mono (fun a (z : a = a0 ∧ h.1 a = 6 ∨ h.1 a = 8) => (show h.1 a = 6 ∨ h.1 a = 8 ∨ h.1 a = 5 ∨ h.1 a = 2 ∨ h.1 a = 1 from by omega)))
    exact hret _ _ _ _ dX6_takeToken_82 (zx_01 (by omega)) ⟨hV_q_2, hF_q_2, (by first | omega | (refine ⟨?_, ?_⟩ <;> omega) | trivial)⟩
  · refine wa_tswIn B 36 0 dX6_takeToken_4 t_1 (by decide) (by decide) rfl (by decide) ?_
    refine wa_aload_n B dX6_takeToken_36 rfl 0 rfl ?_
    refine wa_aload_n B dX6_takeToken_37 rfl 2 rfl ?_
    refine wa_callVi B (x := (RX6, TX6, 8)) (As := [.ref a2]) (rest := []) (k_X6_beginLine l dC dI h L hN q hV (a0 := a0) ha0 ka0 (a1 := a2) ha2 ka2  ) (cwV 1 B.1.2.2.2.2 gX6_takeToken_X6_beginLine rfl rfl rfl (by decide +kernel) ⟨Nat.le_of_ble_eq_true rfl, Nat.le_of_ble_eq_true rfl⟩) ha0 ka0 (by decide) rfl rfl rfl (Nat.le_of_ble_eq_true rfl) dX6_takeToken_38 (fun r_6 q_5 w_7 => ?_)
    obtain ⟨hV_q_5, h2_q_5, hw_7⟩ := w_7
    have hF_q_5 : sx_fr h L (fun a => h.1 a = 6 ∨ h.1 a = 8 ∨ h.1 a = 5 ∨ h.1 a = 2 ∨ h.1 a = 1) q q_5 := hF.tr (h2_q_5.mono (fun a (z : h.1 a = 6 ∨ h.1 a = 8 ∨ h.1 a = 5 ∨ h.1 a = 2 ∨ h.1 a = 1) => (show h.1 a = 6 ∨ h.1 a = 8 ∨ h.1 a = 5 ∨ h.1 a = 2 ∨ h.1 a = 1 from by omega)))
    exact hret _ _ _ _ dX6_takeToken_41 (zx_01 (by omega)) ⟨hV_q_5, hF_q_5, (by first | omega | (refine ⟨?_, ?_⟩ <;> omega) | trivial)⟩
  · refine wa_tswIn B 42 1 dX6_takeToken_4 t_1 (by decide) (by decide) rfl (by decide) ?_
    refine wa_aload_n B dX6_takeToken_42 rfl 0 rfl ?_
    refine wa_callVi B (x := (RX6, TX6, 8)) (As := []) (rest := []) (k_X6_takeCount l dC dI h L hN q hV (a0 := a0) ha0 ka0  ) (cwV 0 B.1.2.2.2.2 gX6_takeToken_X6_takeCount rfl rfl rfl (by decide +kernel) ⟨Nat.le_of_ble_eq_true rfl, Nat.le_of_ble_eq_true rfl⟩) ha0 ka0 (by decide) rfl rfl rfl (Nat.le_of_ble_eq_true rfl) dX6_takeToken_43 (fun r_9 q_8 w_10 => ?_)
    obtain ⟨hV_q_8, h2_q_8, hw_10⟩ := w_10
    have hF_q_8 : sx_fr h L (fun a => h.1 a = 6 ∨ h.1 a = 8 ∨ h.1 a = 5 ∨ h.1 a = 2 ∨ h.1 a = 1) q q_8 := hF.tr (h2_q_8.mono (fun a (z : h.1 a = 6 ∨ h.1 a = 8) => (show h.1 a = 6 ∨ h.1 a = 8 ∨ h.1 a = 5 ∨ h.1 a = 2 ∨ h.1 a = 1 from by omega)))
    exact hret _ _ _ _ dX6_takeToken_46 (zx_01 (by omega)) ⟨hV_q_8, hF_q_8, (by first | omega | (refine ⟨?_, ?_⟩ <;> omega) | trivial)⟩
  · refine wa_tswIn B 47 2 dX6_takeToken_4 t_1 (by decide) (by decide) rfl (by decide) ?_
    refine wa_aload_n B dX6_takeToken_47 rfl 0 rfl ?_
    refine wa_aload_n B dX6_takeToken_48 rfl 1 rfl ?_
    refine wa_aload_n B dX6_takeToken_49 rfl 2 rfl ?_
    refine wa_callVi B (x := (RX6, TX6, 8)) (As := [.ref a1, .ref a2]) (rest := []) (k_X6_takeAmount l dC dI h L hN q hV (a0 := a0) ha0 ka0 (a1 := a1) ha1 ka1 (a2 := a2) ha2 ka2  ) (cwV 2 B.1.2.2.2.2 gX6_takeToken_X6_takeAmount rfl rfl rfl (by decide +kernel) ⟨Nat.le_of_ble_eq_true rfl, Nat.le_of_ble_eq_true rfl⟩) ha0 ka0 (by decide) rfl rfl rfl (Nat.le_of_ble_eq_true rfl) dX6_takeToken_50 (fun r_12 q_11 w_13 => ?_)
    obtain ⟨hV_q_11, h2_q_11, hw_13⟩ := w_13
    have hF_q_11 : sx_fr h L (fun a => h.1 a = 6 ∨ h.1 a = 8 ∨ h.1 a = 5 ∨ h.1 a = 2 ∨ h.1 a = 1) q q_11 := hF.tr (h2_q_11.mono (fun a (z : h.1 a = 6 ∨ h.1 a = 8 ∨ h.1 a = 5 ∨ h.1 a = 2 ∨ h.1 a = 1) => (show h.1 a = 6 ∨ h.1 a = 8 ∨ h.1 a = 5 ∨ h.1 a = 2 ∨ h.1 a = 1 from by omega)))
    exact hret _ _ _ _ dX6_takeToken_53 (zx_01 (by omega)) ⟨hV_q_11, hF_q_11, (by first | omega | (refine ⟨?_, ?_⟩ <;> omega) | trivial)⟩
  · refine wa_tswIn B 54 3 dX6_takeToken_4 t_1 (by decide) (by decide) rfl (by decide) ?_
    refine wa_aload_n B dX6_takeToken_54 rfl 0 rfl ?_
    obtain ⟨a_14, ea_14, ha_14, ka_14⟩ := hV.ref (t := 8) ha0 ka0 0 rfl (by decide)
    refine wa_getR B (C := RX6) (T := TX6) (N := 8) iq_X6_takeToken_X6 ha0 ka0 (by decide) rfl 0 (by decide) (by decide) (by decide +kernel) rfl (fun _ _ _ => rfl) (v := a_14) ea_14 dX6_takeToken_55 ?_
    refine wa_getI B (C := RX8) (T := TX8) (N := 11) iq_X6_takeToken_X8 ha_14 ka_14 (by decide) rfl 0 (by decide) (by decide) (by decide +kernel) rfl (by decide) (v := (q.1 a_14 0)) rfl dX6_takeToken_58 ?_
    refine wa_iconst B 3 dX6_takeToken_61 (by decide) ?_
    refine wa_icmp_ne B 72 dX6_takeToken_62 (by decide) (fun (t_15 : ¬ (q.1 a_14 0).toInt = 3) => ?_) (fun (t_15 : (q.1 a_14 0).toInt = 3) => ?_)
    · refine wa_aload_n B dX6_takeToken_72 rfl 0 rfl ?_
      refine wa_aload_n B dX6_takeToken_73 rfl 1 rfl ?_
      refine wa_callVi B (x := (RX6, TX6, 8)) (As := [.ref a1]) (rest := []) (k_X6_takeNameOrEnd l dC dI h L hN q hV (a0 := a0) ha0 ka0 (a1 := a1) ha1 ka1  ) (cwV 1 B.1.2.2.2.2 gX6_takeToken_X6_takeNameOrEnd rfl rfl rfl (by decide +kernel) ⟨Nat.le_of_ble_eq_true rfl, Nat.le_of_ble_eq_true rfl⟩) ha0 ka0 (by decide) rfl rfl rfl (Nat.le_of_ble_eq_true rfl) dX6_takeToken_74 (fun r_17 q_16 w_18 => ?_)
      obtain ⟨hV_q_16, h2_q_16, hw_18⟩ := w_18
      have hF_q_16 : sx_fr h L (fun a => h.1 a = 6 ∨ h.1 a = 8 ∨ h.1 a = 5 ∨ h.1 a = 2 ∨ h.1 a = 1) q q_16 := hF.tr (h2_q_16.mono (fun a (z : h.1 a = 6 ∨ h.1 a = 8) => (show h.1 a = 6 ∨ h.1 a = 8 ∨ h.1 a = 5 ∨ h.1 a = 2 ∨ h.1 a = 1 from by omega)))
      exact hret _ _ _ _ dX6_takeToken_77 (zx_01 (by omega)) ⟨hV_q_16, hF_q_16, (by first | omega | (refine ⟨?_, ?_⟩ <;> omega) | trivial)⟩
    · refine wa_aload_n B dX6_takeToken_65 rfl 0 rfl ?_
      refine wa_callVi B (x := (RX6, TX6, 8)) (As := []) (rest := []) (k_X6_takeCount l dC dI h L hN q hV (a0 := a0) ha0 ka0  ) (cwV 0 B.1.2.2.2.2 gX6_takeToken_X6_takeCount rfl rfl rfl (by decide +kernel) ⟨Nat.le_of_ble_eq_true rfl, Nat.le_of_ble_eq_true rfl⟩) ha0 ka0 (by decide) rfl rfl rfl (Nat.le_of_ble_eq_true rfl) dX6_takeToken_66 (fun r_20 q_19 w_21 => ?_)
      obtain ⟨hV_q_19, h2_q_19, hw_21⟩ := w_21
      have hF_q_19 : sx_fr h L (fun a => h.1 a = 6 ∨ h.1 a = 8 ∨ h.1 a = 5 ∨ h.1 a = 2 ∨ h.1 a = 1) q q_19 := hF.tr (h2_q_19.mono (fun a (z : h.1 a = 6 ∨ h.1 a = 8) => (show h.1 a = 6 ∨ h.1 a = 8 ∨ h.1 a = 5 ∨ h.1 a = 2 ∨ h.1 a = 1 from by omega)))
      refine wa_goto B 77 dX6_takeToken_69 (by decide) ?_
      exact hret _ _ _ _ dX6_takeToken_77 (zx_01 (by omega)) ⟨hV_q_19, hF_q_19, (by first | omega | (refine ⟨?_, ?_⟩ <;> omega) | trivial)⟩
theorem iq_X6_read_X5 : ∀ w ∈ wsX50, w ∈ wsX6_read := fun _ h => List.mem_cons_of_mem _ (List.mem_append_left _ (List.mem_append_left _ (List.mem_append_left _ (List.mem_append_left _ (List.mem_append_right _ h)))))
theorem iq_X6_read_X6 : ∀ w ∈ wsX60, w ∈ wsX6_read := fun _ h => List.mem_cons_of_mem _ (List.mem_append_left _ (List.mem_append_left _ (List.mem_append_left _ (List.mem_append_left _ (List.mem_append_left _ (List.mem_append_left _ (List.mem_append_right _ h)))))))
theorem iq_X6_read_X8 : ∀ w ∈ wsX80, w ∈ wsX6_read := fun _ h => List.mem_cons_of_mem _ (List.mem_append_left _ (List.mem_append_left _ (List.mem_append_left _ (List.mem_append_left _ (List.mem_append_left _ (List.mem_append_right _ h))))))
set_option maxHeartbeats 4000000 in
set_option maxRecDepth 100000 in
theorem k_X6_read (l : Launch) (dC : Nat → ClassId) (dI : Nat → Nat → Nat) (h : Sh) (L : List Nat) (hN : sx_nd L) (q : Sg) (hV : sx_V h L q) {a0 : Nat} (ha0 : a0 ∈ L) (ka0 : h.1 a0 = 6) {a1 : Nat} (ha1 : a1 ∈ L) (ka1 : h.1 a1 = 7) {a2 : Nat} (ha2 : a2 ∈ L) (ka2 : h.1 a2 = 9) {a3 : Nat} (ha3 : a3 ∈ L) (ka3 : h.1 a3 = 5)   : CMi l dC dI h L yX6_read wsX6_read ({ frames := 4, cells := 0, slots := 0, locals := 97 } : Room) q [.ref a0, .ref a1, .ref a2, .ref a3] (fun r q' => sx_V h L q' ∧ sx_fr h L (fun a => h.1 a = 6 ∨ h.1 a = 8 ∨ h.1 a = 5 ∨ h.1 a = 2 ∨ h.1 a = 1) q q' ∧ (r.toInt = 0 ∨ r.toInt = 1)) := by
  refine cm_z (cc := cX6_read) (mL := 5) (own := RX6) hN (by decide) rfl rfl (Nat.le_of_ble_eq_true rfl) (fun Z B hret => ?_)
  have hF : sx_fr h L (fun a => h.1 a = 6 ∨ h.1 a = 8 ∨ h.1 a = 5 ∨ h.1 a = 2 ∨ h.1 a = 1) q q := sx_fr.rf
  show WA l dC dI h L ({ frames := 4, cells := 0, slots := 0, locals := 97 } : Room) 5 Z q 0 [(0, .ref a0), (1, .ref a1), (2, .ref a2), (3, .ref a3)] []
  refine wa_aload_n B dX6_read_0 rfl 3 rfl ?_
  refine wa_callVv B (x := (RX5, TX5, 7)) (As := []) (rest := []) (k_X5_clear l dC dI h L hN q hV (a0 := a3) ha3 ka3  ) (cwV 0 B.1.2.2.2.2 gX6_read_X5_clear rfl rfl rfl (by decide +kernel) ⟨Nat.le_of_ble_eq_true rfl, Nat.le_of_ble_eq_true rfl⟩) ha3 ka3 (by decide) rfl rfl rfl (Nat.le_of_ble_eq_true rfl) dX6_read_1 (fun q_1 w_2 => ?_)
  obtain ⟨hV_q_1, h2_q_1⟩ := w_2
  have hF_q_1 : sx_fr h L (fun a => h.1 a = 6 ∨ h.1 a = 8 ∨ h.1 a = 5 ∨ h.1 a = 2 ∨ h.1 a = 1) q q_1 := hF.tr (h2_q_1.mono (fun a (z : a = a3 ∧ h.1 a = 5) => (show h.1 a = 6 ∨ h.1 a = 8 ∨ h.1 a = 5 ∨ h.1 a = 2 ∨ h.1 a = 1 from by omega)))
  refine wa_aload_n B dX6_read_4 rfl 0 rfl ?_
  obtain ⟨a_3, ea_3, ha_3, ka_3⟩ := hV_q_1.ref (t := 8) ha0 ka0 0 rfl (by decide)
  refine wa_getR B (C := RX6) (T := TX6) (N := 8) iq_X6_read_X6 ha0 ka0 (by decide) rfl 0 (by decide) (by decide) (by decide +kernel) rfl (fun _ _ _ => rfl) (v := a_3) ea_3 dX6_read_5 ?_
  refine wa_aload_n B dX6_read_8 rfl 1 rfl ?_
  refine wa_sipush B 300 dX6_read_9 (by decide) ?_
  refine wa_iconst B 1 dX6_read_12 (by decide) ?_
  refine wa_callVv B (x := (RX8, TX8, 11)) (As := [.ref a1, .int 300, .int 1]) (rest := []) (k_X8_begin l dC dI h L hN q_1 hV_q_1 (a0 := a_3) ha_3 ka_3 (a1 := a1) ha1 ka1 300 1  (by first | assumption | omega | decide)) (cwV 3 B.1.2.2.2.2 gX6_read_X8_begin rfl rfl rfl (by decide +kernel) ⟨Nat.le_of_ble_eq_true rfl, Nat.le_of_ble_eq_true rfl⟩) ha_3 ka_3 (by decide) rfl rfl rfl (Nat.le_of_ble_eq_true rfl) dX6_read_13 (fun q_4 w_5 => ?_)
  obtain ⟨hV_q_4, h2_q_4⟩ := w_5
  have hF_q_4 : sx_fr h L (fun a => h.1 a = 6 ∨ h.1 a = 8 ∨ h.1 a = 5 ∨ h.1 a = 2 ∨ h.1 a = 1) q q_4 := hF_q_1.tr (h2_q_4.mono (fun a (z : a = a_3 ∧ h.1 a = 8) => (show h.1 a = 6 ∨ h.1 a = 8 ∨ h.1 a = 5 ∨ h.1 a = 2 ∨ h.1 a = 1 from by omega)))
  refine wa_aload_n B dX6_read_16 rfl 0 rfl ?_
  refine wa_iconst B 0 dX6_read_17 (by decide) ?_
  refine wa_putI B (C := RX6) (T := TX6) (N := 8) iq_X6_read_X6 ha0 ka0 (by decide) rfl 1 (by decide) (by decide) (by decide +kernel) rfl (by decide) (v := 0) (ty := .int) tyX6 tyX6_ok nmX6 rfl (by decide +kernel) rfl rfl dX6_read_18 (fun q_6 eq_6 => ?_)
  have hV_q_6 : sx_V h L q_6 := by rw [eq_6]; exact hV_q_4.pI ka0 trivial
  have hF_q_6 : sx_fr h L (fun a => h.1 a = 6 ∨ h.1 a = 8 ∨ h.1 a = 5 ∨ h.1 a = 2 ∨ h.1 a = 1) q q_6 := hF_q_4.tr (by rw [eq_6]; exact sx_fr.pI (show h.1 a0 = 6 ∨ h.1 a0 = 8 ∨ h.1 a0 = 5 ∨ h.1 a0 = 2 ∨ h.1 a0 = 1 from by omega))
  have z_7 : q_6.1 a0 1 = 0 := by rw [eq_6]; exact sg_pI_e
  refine wa_iconst B 0 dX6_read_21 (by decide) ?_
  refine wa_istore B [(4, .int 0), (0, .ref a0), (1, .ref a1), (2, .ref a2), (3, .ref a3)] dX6_read_22 (by decide) rfl ?_
  have z_10 : q_6.2.2.1 a0 0 = a_3 := ((show q_6.2.2.1 a0 0 = q_4.2.2.1 a0 0 from by rw [eq_6]; rfl)).trans ((h2_q_4.R ha0 (show ¬ ((a0 = a_3 ∧ h.1 a0 = 8) ∧ (h.1 a0 = 8 ∨ h.1 a0 = 11)) from by omega) 0).trans (ea_3))
  have Lp_24_12 : ∀ (n : Nat) (v_8 : Int32) (q_9 : Sg), sx_V h L q_9 → sx_fr h L (fun a => h.1 a = 6 ∨ h.1 a = 8 ∨ h.1 a = 5 ∨ h.1 a = 2 ∨ h.1 a = 1) q q_9 → q_9.2.2.1 a0 0 = a_3 → 0 ≤ v_8.toInt → (301 - v_8.toInt : Int).toNat < n → WA l dC dI h L ({ frames := 4, cells := 0, slots := 0, locals := 97 } : Room) 5 Z q_9 24 [(4, .int v_8), (0, .ref a0), (1, .ref a1), (2, .ref a2), (3, .ref a3)] [] := by
    intro n
    induction n with
    | zero =>
      intro v_8 q_9 hV_q_9 hF_q_9 p0_q_9 x_11 hn
      exact absurd hn (Nat.not_lt_zero _)
    | succ n ih_13 =>
      intro v_8 q_9 hV_q_9 hF_q_9 p0_q_9 x_11 hn
      refine wa_iload B dX6_read_24 0 rfl ?_
      refine wa_sipush B 300 dX6_read_26 (by decide) ?_
      refine wa_icmp_gt B 85 dX6_read_29 (by decide) (fun (t_14 : 300 < v_8.toInt) => ?_) (fun (t_14 : ¬ 300 < v_8.toInt) => ?_)
      · refine wa_iconst B 0 dX6_read_85 (by decide) ?_
        exact hret _ _ _ _ dX6_read_86 (Or.inl rfl) ⟨hV_q_9, hF_q_9, (by have h9 : (0 : Int32).toInt = 0 := rfl; first | omega | (refine ⟨?_, ?_⟩ <;> omega) | trivial)⟩
      · refine wa_aload_n B dX6_read_32 rfl 1 rfl ?_
        refine wa_getR B (C := RX6) (T := TX6) (N := 8) iq_X6_read_X6 ha0 ka0 (by decide) rfl 0 (by decide) (by decide) (by decide +kernel) rfl (fun _ _ _ => rfl) (v := a_3) p0_q_9 dX6_read_33 ?_
        refine wa_callVv B (x := (RX8, TX8, 11)) (As := []) (rest := []) (k_X8_advance l dC dI h L hN q_9 hV_q_9 (a0 := a_3) ha_3 ka_3  ) (cwV 0 B.1.2.2.2.2 gX6_read_X8_advance rfl rfl rfl (by decide +kernel) ⟨Nat.le_of_ble_eq_true rfl, Nat.le_of_ble_eq_true rfl⟩) ha_3 ka_3 (by decide) rfl rfl rfl (Nat.le_of_ble_eq_true rfl) dX6_read_36 (fun q_15 w_16 => ?_)
        obtain ⟨hV_q_15, h2_q_15⟩ := w_16
        have hF_q_15 : sx_fr h L (fun a => h.1 a = 6 ∨ h.1 a = 8 ∨ h.1 a = 5 ∨ h.1 a = 2 ∨ h.1 a = 1) q q_15 := hF_q_9.tr (h2_q_15.mono (fun a (z : a = a_3 ∧ h.1 a = 8) => (show h.1 a = 6 ∨ h.1 a = 8 ∨ h.1 a = 5 ∨ h.1 a = 2 ∨ h.1 a = 1 from by omega)))
        refine wa_aload_n B dX6_read_39 rfl 1 rfl ?_
        refine wa_getI B (C := RX6) (T := TX6) (N := 8) iq_X6_read_X6 ha0 ka0 (by decide) rfl 1 (by decide) (by decide) (by decide +kernel) rfl (by decide) (v := (q_15.1 a0 1)) rfl dX6_read_40 ?_
        refine wa_if_ne B 68 dX6_read_43 (by decide) (fun (t_17 : ¬ (q_15.1 a0 1).toInt = 0) => ?_) (fun (t_17 : (q_15.1 a0 1).toInt = 0) => ?_)
        · refine wa_aload_n B dX6_read_68 rfl 1 rfl ?_
          refine wa_aload_n B dX6_read_69 rfl 3 rfl ?_
          refine wa_aload_n B dX6_read_70 rfl 4 rfl ?_
          refine wa_callVi B (x := (RX6, TX6, 8)) (As := [.ref a2, .ref a3]) (rest := []) (k_X6_takeToken l dC dI h L hN q_15 hV_q_15 (a0 := a0) ha0 ka0 (a1 := a2) ha2 ka2 (a2 := a3) ha3 ka3  ) (cwV 2 B.1.2.2.2.2 gX6_read_X6_takeToken rfl rfl rfl (by decide +kernel) ⟨Nat.le_of_ble_eq_true rfl, Nat.le_of_ble_eq_true rfl⟩) ha0 ka0 (by decide) rfl rfl rfl (Nat.le_of_ble_eq_true rfl) dX6_read_71 (fun r_19 q_18 w_20 => ?_)
          obtain ⟨hV_q_18, h2_q_18, hw_20⟩ := w_20
          have hF_q_18 : sx_fr h L (fun a => h.1 a = 6 ∨ h.1 a = 8 ∨ h.1 a = 5 ∨ h.1 a = 2 ∨ h.1 a = 1) q q_18 := hF_q_15.tr (h2_q_18.mono (fun a (z : h.1 a = 6 ∨ h.1 a = 8 ∨ h.1 a = 5 ∨ h.1 a = 2 ∨ h.1 a = 1) => (show h.1 a = 6 ∨ h.1 a = 8 ∨ h.1 a = 5 ∨ h.1 a = 2 ∨ h.1 a = 1 from by omega)))
          refine wa_if_ne B 79 dX6_read_74 (by decide) (fun (t_21 : ¬ r_19.toInt = 0) => ?_) (fun (t_21 : r_19.toInt = 0) => ?_)
          · obtain ⟨v_22, ev_22⟩ : ∃ z : Int32, z = v_8 + 1 := ⟨_, rfl⟩
            refine wa_iinc B [(4, .int v_22), (0, .ref a0), (1, .ref a1), (2, .ref a2), (3, .ref a3)] v_22 dX6_read_79 0 rfl (by rw [ev_22]; rfl) (by decide) rfl ?_
            refine wa_goto B 24 dX6_read_82 (by decide) ?_
            have tv_22 : v_22.toInt = v_8.toInt + 1 := by have b0 := zx_bd v_8; rw [ev_22]; exact zx_add (show (-2147483648 : Int) ≤ v_8.toInt + 1 by omega) (show v_8.toInt + 1 < (2147483648 : Int) by omega)
            have z_23 : q_18.2.2.1 a0 0 = a_3 := (h2_q_18.R ha0 (show ¬ ((h.1 a0 = 6 ∨ h.1 a0 = 8 ∨ h.1 a0 = 5 ∨ h.1 a0 = 2 ∨ h.1 a0 = 1) ∧ (h.1 a0 = 8 ∨ h.1 a0 = 11)) from by omega) 0).trans ((h2_q_15.R ha0 (show ¬ ((a0 = a_3 ∧ h.1 a0 = 8) ∧ (h.1 a0 = 8 ∨ h.1 a0 = 11)) from by omega) 0).trans (p0_q_9))
            exact ih_13 v_22 q_18 hV_q_18 hF_q_18 z_23 (show 0 ≤ v_22.toInt from by first | assumption | omega | decide) (show (301 - v_22.toInt : Int).toNat < _ from by omega)
          · refine wa_iconst B 0 dX6_read_77 (by decide) ?_
            exact hret _ _ _ _ dX6_read_78 (Or.inl rfl) ⟨hV_q_18, hF_q_18, (by have h9 : (0 : Int32).toInt = 0 := rfl; first | omega | (refine ⟨?_, ?_⟩ <;> omega) | trivial)⟩
        · refine wa_aload_n B dX6_read_46 rfl 1 rfl ?_
          have z_24 : q_15.2.2.1 a0 0 = a_3 := (h2_q_15.R ha0 (show ¬ ((a0 = a_3 ∧ h.1 a0 = 8) ∧ (h.1 a0 = 8 ∨ h.1 a0 = 11)) from by omega) 0).trans (p0_q_9)
          refine wa_getR B (C := RX6) (T := TX6) (N := 8) iq_X6_read_X6 ha0 ka0 (by decide) rfl 0 (by decide) (by decide) (by decide +kernel) rfl (fun _ _ _ => rfl) (v := a_3) z_24 dX6_read_47 ?_
          refine wa_getI B (C := RX8) (T := TX8) (N := 11) iq_X6_read_X8 ha_3 ka_3 (by decide) rfl 0 (by decide) (by decide) (by decide +kernel) rfl (by decide) (v := (q_15.1 a_3 0)) rfl dX6_read_50 ?_
          refine wa_if_ne B 68 dX6_read_53 (by decide) (fun (t_25 : ¬ (q_15.1 a_3 0).toInt = 0) => ?_) (fun (t_25 : (q_15.1 a_3 0).toInt = 0) => ?_)
          · refine wa_aload_n B dX6_read_68 rfl 1 rfl ?_
            refine wa_aload_n B dX6_read_69 rfl 3 rfl ?_
            refine wa_aload_n B dX6_read_70 rfl 4 rfl ?_
            refine wa_callVi B (x := (RX6, TX6, 8)) (As := [.ref a2, .ref a3]) (rest := []) (k_X6_takeToken l dC dI h L hN q_15 hV_q_15 (a0 := a0) ha0 ka0 (a1 := a2) ha2 ka2 (a2 := a3) ha3 ka3  ) (cwV 2 B.1.2.2.2.2 gX6_read_X6_takeToken rfl rfl rfl (by decide +kernel) ⟨Nat.le_of_ble_eq_true rfl, Nat.le_of_ble_eq_true rfl⟩) ha0 ka0 (by decide) rfl rfl rfl (Nat.le_of_ble_eq_true rfl) dX6_read_71 (fun r_27 q_26 w_28 => ?_)
            obtain ⟨hV_q_26, h2_q_26, hw_28⟩ := w_28
            have hF_q_26 : sx_fr h L (fun a => h.1 a = 6 ∨ h.1 a = 8 ∨ h.1 a = 5 ∨ h.1 a = 2 ∨ h.1 a = 1) q q_26 := hF_q_15.tr (h2_q_26.mono (fun a (z : h.1 a = 6 ∨ h.1 a = 8 ∨ h.1 a = 5 ∨ h.1 a = 2 ∨ h.1 a = 1) => (show h.1 a = 6 ∨ h.1 a = 8 ∨ h.1 a = 5 ∨ h.1 a = 2 ∨ h.1 a = 1 from by omega)))
            refine wa_if_ne B 79 dX6_read_74 (by decide) (fun (t_29 : ¬ r_27.toInt = 0) => ?_) (fun (t_29 : r_27.toInt = 0) => ?_)
            · obtain ⟨v_30, ev_30⟩ : ∃ z : Int32, z = v_8 + 1 := ⟨_, rfl⟩
              refine wa_iinc B [(4, .int v_30), (0, .ref a0), (1, .ref a1), (2, .ref a2), (3, .ref a3)] v_30 dX6_read_79 0 rfl (by rw [ev_30]; rfl) (by decide) rfl ?_
              refine wa_goto B 24 dX6_read_82 (by decide) ?_
              have tv_30 : v_30.toInt = v_8.toInt + 1 := by have b0 := zx_bd v_8; rw [ev_30]; exact zx_add (show (-2147483648 : Int) ≤ v_8.toInt + 1 by omega) (show v_8.toInt + 1 < (2147483648 : Int) by omega)
              have z_31 : q_26.2.2.1 a0 0 = a_3 := (h2_q_26.R ha0 (show ¬ ((h.1 a0 = 6 ∨ h.1 a0 = 8 ∨ h.1 a0 = 5 ∨ h.1 a0 = 2 ∨ h.1 a0 = 1) ∧ (h.1 a0 = 8 ∨ h.1 a0 = 11)) from by omega) 0).trans (z_24)
              exact ih_13 v_30 q_26 hV_q_26 hF_q_26 z_31 (show 0 ≤ v_30.toInt from by first | assumption | omega | decide) (show (301 - v_30.toInt : Int).toNat < _ from by omega)
            · refine wa_iconst B 0 dX6_read_77 (by decide) ?_
              exact hret _ _ _ _ dX6_read_78 (Or.inl rfl) ⟨hV_q_26, hF_q_26, (by have h9 : (0 : Int32).toInt = 0 := rfl; first | omega | (refine ⟨?_, ?_⟩ <;> omega) | trivial)⟩
          · refine wa_aload_n B dX6_read_56 rfl 1 rfl ?_
            refine wa_getR B (C := RX6) (T := TX6) (N := 8) iq_X6_read_X6 ha0 ka0 (by decide) rfl 0 (by decide) (by decide) (by decide +kernel) rfl (fun _ _ _ => rfl) (v := a_3) z_24 dX6_read_57 ?_
            refine wa_aload_n B dX6_read_60 rfl 4 rfl ?_
            refine wa_getI B (C := RX5) (T := TX5) (N := 7) iq_X6_read_X5 ha3 ka3 (by decide) rfl 2 (by decide) (by decide) (by decide +kernel) rfl (by decide) (v := (q_15.1 a3 2)) rfl dX6_read_61 ?_
            have g_32 : (0 : Int) ≤ (q_15.1 a3 2).toInt ∧ (q_15.1 a3 2).toInt ≤ 12 := hV_q_15.int ha3 ka3 2
            refine wa_callVi B (x := (RX8, TX8, 11)) (As := [.int (q_15.1 a3 2)]) (rest := []) (k_X8_endsWell l dC dI h L hN q_15 hV_q_15 (a0 := a_3) ha_3 ka_3 (q_15.1 a3 2)  ) (cwV 1 B.1.2.2.2.2 gX6_read_X8_endsWell rfl rfl rfl (by decide +kernel) ⟨Nat.le_of_ble_eq_true rfl, Nat.le_of_ble_eq_true rfl⟩) ha_3 ka_3 (by decide) rfl rfl rfl (Nat.le_of_ble_eq_true rfl) dX6_read_64 (fun r_34 q_33 w_35 => ?_)
            obtain ⟨hV_q_33, h2_q_33, hw_35⟩ := w_35
            have hF_q_33 : sx_fr h L (fun a => h.1 a = 6 ∨ h.1 a = 8 ∨ h.1 a = 5 ∨ h.1 a = 2 ∨ h.1 a = 1) q q_33 := hF_q_15.tr (h2_q_33.mono (fun a (z : a = a_3 ∧ h.1 a = 8) => (show h.1 a = 6 ∨ h.1 a = 8 ∨ h.1 a = 5 ∨ h.1 a = 2 ∨ h.1 a = 1 from by omega)))
            exact hret _ _ _ _ dX6_read_67 (zx_01 (by omega)) ⟨hV_q_33, hF_q_33, (by first | omega | (refine ⟨?_, ?_⟩ <;> omega) | trivial)⟩
  exact Lp_24_12 _ 0 q_6 hV_q_6 hF_q_6 z_10 (show 0 ≤ 0 from by first | assumption | omega | decide) (Nat.lt_succ_self _)
