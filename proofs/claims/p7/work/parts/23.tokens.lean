theorem iq_X8_begin_X8 : ∀ w ∈ wsX80, w ∈ wsX8_begin := fun _ h => List.mem_cons_of_mem _ (List.mem_append_right _ h)
set_option maxHeartbeats 4000000 in
set_option maxRecDepth 100000 in
theorem k_X8_begin (l : Launch) (dC : Nat → ClassId) (dI : Nat → Nat → Nat) (h : Sh) (L : List Nat) (hN : sx_nd L) (q : Sg) (hV : sx_V h L q) {a0 : Nat} (ha0 : a0 ∈ L) (ka0 : h.1 a0 = 8) {a1 : Nat} (ha1 : a1 ∈ L) (ka1 : h.1 a1 = 7) (n1 : Int32) (n2 : Int32)  (hy0 : n2.toInt = 0 ∨ n2.toInt = 1) : CMv l dC dI h L yX8_begin wsX8_begin ({ frames := 0, cells := 0, slots := 0, locals := 0 } : Room) q [.ref a0, .ref a1, .int n1, .int n2] (fun q' => sx_V h L q' ∧ sx_fr h L (fun a => a = a0 ∧ h.1 a = 8) q q') := by
  refine cm_v (cc := cX8_begin) (mL := 4) (own := RX8) hN (by decide) rfl rfl (Nat.le_of_ble_eq_true rfl) (fun Z B hret => ?_)
  have hF : sx_fr h L (fun a => a = a0 ∧ h.1 a = 8) q q := sx_fr.rf
  show WA l dC dI h L ({ frames := 0, cells := 0, slots := 0, locals := 0 } : Room) 4 Z q 0 [(0, .ref a0), (1, .ref a1), (2, .int n1), (3, .int n2)] []
  refine wa_aload_n B dX8_begin_0 rfl 0 rfl ?_
  refine wa_aload_n B dX8_begin_1 rfl 1 rfl ?_
  refine wa_putR B (C := RX8) (T := TX8) (N := 11) iq_X8_begin_X8 ha0 ka0 (by decide) rfl 7 (by decide) (by decide) (by decide +kernel) rfl (fun _ _ _ => rfl) (v := a1) (ty := (.object "ClayAccounts$Text")) tyX8 tyX8_ok nmX8 rfl (by decide +kernel) rfl rfl dX8_begin_2 (fun q_1 eq_1 => ?_)
  have hV_q_1 : sx_V h L q_1 := by rw [eq_1]; exact hV.pR (by rw [ka0]; decide) (fun _ => ⟨ha1, by rw [ka1, ka0]; rfl, fun z => by rw [ka0] at z; exact absurd rfl z⟩)
  have hF_q_1 : sx_fr h L (fun a => a = a0 ∧ h.1 a = 8) q q_1 := hF.tr (by rw [eq_1]; exact sx_fr.pR (show (a0 = a0 ∧ h.1 a0 = 8) ∧ (h.1 a0 = 8 ∨ h.1 a0 = 11) from by omega))
  have z_2 : q_1.2.2.1 a0 7 = a1 := by rw [eq_1]; exact sg_pR_e
  refine wa_aload_n B dX8_begin_5 rfl 0 rfl ?_
  refine wa_iload_n B dX8_begin_6 rfl 2 rfl ?_
  refine wa_putI B (C := RX8) (T := TX8) (N := 11) iq_X8_begin_X8 ha0 ka0 (by decide) rfl 8 (by decide) (by decide) (by decide +kernel) rfl (by decide) (v := n1) (ty := .int) tyX8 tyX8_ok nmX8 rfl (by decide +kernel) rfl rfl dX8_begin_7 (fun q_3 eq_3 => ?_)
  have hV_q_3 : sx_V h L q_3 := by rw [eq_3]; exact hV_q_1.pI ka0 trivial
  have hF_q_3 : sx_fr h L (fun a => a = a0 ∧ h.1 a = 8) q q_3 := hF_q_1.tr (by rw [eq_3]; exact sx_fr.pI (show a0 = a0 ∧ h.1 a0 = 8 from by omega))
  have z_4 : q_3.1 a0 8 = n1 := by rw [eq_3]; exact sg_pI_e
  refine wa_aload_n B dX8_begin_10 rfl 0 rfl ?_
  refine wa_iload_n B dX8_begin_11 rfl 3 rfl ?_
  refine wa_putI B (C := RX8) (T := TX8) (N := 11) iq_X8_begin_X8 ha0 ka0 (by decide) rfl 9 (by decide) (by decide) (by decide +kernel) rfl (by decide) (v := n2) (ty := .boolean) tyX8 tyX8_ok nmX8 rfl (by decide +kernel) (by rcases zx_01 (show n2.toInt = 0 ∨ n2.toInt = 1 by omega) with z | z <;> rw [z] <;> rfl) (by rcases zx_01 (show n2.toInt = 0 ∨ n2.toInt = 1 by omega) with z | z <;> rw [z] <;> rfl) dX8_begin_12 (fun q_5 eq_5 => ?_)
  have hV_q_5 : sx_V h L q_5 := by rw [eq_5]; exact hV_q_3.pI ka0 trivial
  have hF_q_5 : sx_fr h L (fun a => a = a0 ∧ h.1 a = 8) q q_5 := hF_q_3.tr (by rw [eq_5]; exact sx_fr.pI (show a0 = a0 ∧ h.1 a0 = 8 from by omega))
  have z_6 : q_5.1 a0 9 = n2 := by rw [eq_5]; exact sg_pI_e
  refine wa_aload_n B dX8_begin_15 rfl 0 rfl ?_
  refine wa_iconst B 0 dX8_begin_16 (by decide) ?_
  refine wa_putI B (C := RX8) (T := TX8) (N := 11) iq_X8_begin_X8 ha0 ka0 (by decide) rfl 10 (by decide) (by decide) (by decide +kernel) rfl (by decide) (v := 0) (ty := .int) tyX8 tyX8_ok nmX8 rfl (by decide +kernel) rfl rfl dX8_begin_17 (fun q_7 eq_7 => ?_)
  have hV_q_7 : sx_V h L q_7 := by rw [eq_7]; exact hV_q_5.pI ka0 trivial
  have hF_q_7 : sx_fr h L (fun a => a = a0 ∧ h.1 a = 8) q q_7 := hF_q_5.tr (by rw [eq_7]; exact sx_fr.pI (show a0 = a0 ∧ h.1 a0 = 8 from by omega))
  have z_8 : q_7.1 a0 10 = 0 := by rw [eq_7]; exact sg_pI_e
  refine wa_aload_n B dX8_begin_20 rfl 0 rfl ?_
  refine wa_iconst B 0 dX8_begin_21 (by decide) ?_
  refine wa_putI B (C := RX8) (T := TX8) (N := 11) iq_X8_begin_X8 ha0 ka0 (by decide) rfl 5 (by decide) (by decide) (by decide +kernel) rfl (by decide) (v := 0) (ty := .int) tyX8 tyX8_ok nmX8 rfl (by decide +kernel) rfl rfl dX8_begin_22 (fun q_9 eq_9 => ?_)
  have hV_q_9 : sx_V h L q_9 := by rw [eq_9]; exact hV_q_7.pI ka0 trivial
  have hF_q_9 : sx_fr h L (fun a => a = a0 ∧ h.1 a = 8) q q_9 := hF_q_7.tr (by rw [eq_9]; exact sx_fr.pI (show a0 = a0 ∧ h.1 a0 = 8 from by omega))
  have z_10 : q_9.1 a0 5 = 0 := by rw [eq_9]; exact sg_pI_e
  refine wa_aload_n B dX8_begin_25 rfl 0 rfl ?_
  refine wa_iconst B 0 dX8_begin_26 (by decide) ?_
  refine wa_putI B (C := RX8) (T := TX8) (N := 11) iq_X8_begin_X8 ha0 ka0 (by decide) rfl 6 (by decide) (by decide) (by decide +kernel) rfl (by decide) (v := 0) (ty := .int) tyX8 tyX8_ok nmX8 rfl (by decide +kernel) rfl rfl dX8_begin_27 (fun q_11 eq_11 => ?_)
  have hV_q_11 : sx_V h L q_11 := by rw [eq_11]; exact hV_q_9.pI ka0 trivial
  have hF_q_11 : sx_fr h L (fun a => a = a0 ∧ h.1 a = 8) q q_11 := hF_q_9.tr (by rw [eq_11]; exact sx_fr.pI (show a0 = a0 ∧ h.1 a0 = 8 from by omega))
  have z_12 : q_11.1 a0 6 = 0 := by rw [eq_11]; exact sg_pI_e
  exact hret _ _ _ dX8_begin_30 ⟨hV_q_11, hF_q_11⟩
theorem iq_X8_endsWell_X7 : ∀ w ∈ wsX70, w ∈ wsX8_endsWell := fun _ h => List.mem_cons_of_mem _ (List.mem_append_right _ h)
theorem iq_X8_endsWell_X8 : ∀ w ∈ wsX80, w ∈ wsX8_endsWell := fun _ h => List.mem_cons_of_mem _ (List.mem_append_left _ (List.mem_append_right _ h))
set_option maxHeartbeats 4000000 in
set_option maxRecDepth 100000 in
theorem k_X8_endsWell (l : Launch) (dC : Nat → ClassId) (dI : Nat → Nat → Nat) (h : Sh) (L : List Nat) (hN : sx_nd L) (q : Sg) (hV : sx_V h L q) {a0 : Nat} (ha0 : a0 ∈ L) (ka0 : h.1 a0 = 8) (n1 : Int32)   : CMi l dC dI h L yX8_endsWell wsX8_endsWell ({ frames := 1, cells := 0, slots := 0, locals := 22 } : Room) q [.ref a0, .int n1] (fun r q' => sx_V h L q' ∧ sx_fr h L (fun a => a = a0 ∧ h.1 a = 8) q q' ∧ (r.toInt = 0 ∨ r.toInt = 1)) := by
  refine cm_z (cc := cX8_endsWell) (mL := 2) (own := RX8) hN (by decide) rfl rfl (Nat.le_of_ble_eq_true rfl) (fun Z B hret => ?_)
  have hF : sx_fr h L (fun a => a = a0 ∧ h.1 a = 8) q q := sx_fr.rf
  show WA l dC dI h L ({ frames := 1, cells := 0, slots := 0, locals := 22 } : Room) 2 Z q 0 [(0, .ref a0), (1, .int n1)] []
  refine wa_iload_n B dX8_endsWell_0 rfl 1 rfl ?_
  refine wa_if_le B 18 dX8_endsWell_1 (by decide) (fun (t_1 : n1.toInt ≤ 0) => ?_) (fun (t_1 : ¬ n1.toInt ≤ 0) => ?_)
  · refine wa_aload_n B dX8_endsWell_18 rfl 0 rfl ?_
    refine wa_iconst B 1 dX8_endsWell_19 (by decide) ?_
    refine wa_aload_n B dX8_endsWell_20 rfl 0 rfl ?_
    refine wa_getI B (C := RX8) (T := TX8) (N := 11) iq_X8_endsWell_X8 ha0 ka0 (by decide) rfl 1 (by decide) (by decide) (by decide +kernel) rfl (by decide) (v := (q.1 a0 1)) rfl dX8_endsWell_21 ?_
    refine wa_callVi B (x := (RX8, TX8, 11)) (As := [.int 1, .int (q.1 a0 1)]) (rest := []) (k_X8_refuse l dC dI h L hN q hV (a0 := a0) ha0 ka0 1 (q.1 a0 1)  ) (cwV 2 B.1.2.2.2.2 gX8_endsWell_X8_refuse rfl rfl rfl (by decide +kernel) ⟨Nat.le_of_ble_eq_true rfl, Nat.le_of_ble_eq_true rfl⟩) ha0 ka0 (by decide) rfl rfl rfl (Nat.le_of_ble_eq_true rfl) dX8_endsWell_24 (fun r_3 q_2 w_4 => ?_)
    obtain ⟨hV_q_2, h2_q_2, hw_4⟩ := w_4
    have hF_q_2 : sx_fr h L (fun a => a = a0 ∧ h.1 a = 8) q q_2 := hF.tr (h2_q_2.mono (fun a (z : a = a0 ∧ h.1 a = 8) => (show a = a0 ∧ h.1 a = 8 from by omega)))
    refine wa_if_eq B 34 dX8_endsWell_27 (by decide) (fun (t_5 : r_3.toInt = 0) => ?_) (fun (t_5 : ¬ r_3.toInt = 0) => ?_)
    · refine wa_iconst B 0 dX8_endsWell_34 (by decide) ?_
      exact hret _ _ _ _ dX8_endsWell_35 (Or.inl rfl) ⟨hV_q_2, hF_q_2, (by have h9 : (0 : Int32).toInt = 0 := rfl; first | omega | (refine ⟨?_, ?_⟩ <;> omega) | trivial)⟩
    · refine wa_iconst B 1 dX8_endsWell_30 (by decide) ?_
      refine wa_goto B 35 dX8_endsWell_31 (by decide) ?_
      exact hret _ _ _ _ dX8_endsWell_35 (Or.inr rfl) ⟨hV_q_2, hF_q_2, (by have h9 : (1 : Int32).toInt = 1 := rfl; first | omega | (refine ⟨?_, ?_⟩ <;> omega) | trivial)⟩
  · refine wa_aload_n B dX8_endsWell_4 rfl 0 rfl ?_
    obtain ⟨a_6, ea_6, ha_6, ka_6⟩ := hV.ref (t := 7) ha0 ka0 7 rfl (by decide)
    refine wa_getR B (C := RX8) (T := TX8) (N := 11) iq_X8_endsWell_X8 ha0 ka0 (by decide) rfl 7 (by decide) (by decide) (by decide +kernel) rfl (fun _ _ _ => rfl) (v := a_6) ea_6 dX8_endsWell_5 ?_
    refine wa_getI B (C := RX7) (T := TX7) (N := 2) iq_X8_endsWell_X7 ha_6 ka_6 (by decide) rfl 1 (by decide) (by decide) (by decide +kernel) rfl (by decide) (v := (q.1 a_6 1)) rfl dX8_endsWell_8 ?_
    obtain ⟨a_8, ea_8, ha_8, ka_8⟩ := hV.ref (t := 300) ha_6 ka_6 0 rfl (by decide)
    have g_7 : (0 : Int) ≤ (q.1 a_6 1).toInt ∧ (q.1 a_6 1).toInt ≤ (h.2.1 a_8 : Int) := by have z9 := hV.int ha_6 ka_6 1; rw [ea_8] at z9; exact z9
    have l_9 : h.2.1 a_8 ≤ 5000 := hV.len ha_8
    refine wa_aload_n B dX8_endsWell_11 rfl 0 rfl ?_
    refine wa_getI B (C := RX8) (T := TX8) (N := 11) iq_X8_endsWell_X8 ha0 ka0 (by decide) rfl 8 (by decide) (by decide) (by decide +kernel) rfl (by decide) (v := (q.1 a0 8)) rfl dX8_endsWell_12 ?_
    refine wa_icmp_le B 30 dX8_endsWell_15 (by decide) (fun (t_10 : (q.1 a_6 1).toInt ≤ (q.1 a0 8).toInt) => ?_) (fun (t_10 : ¬ (q.1 a_6 1).toInt ≤ (q.1 a0 8).toInt) => ?_)
    · refine wa_iconst B 1 dX8_endsWell_30 (by decide) ?_
      refine wa_goto B 35 dX8_endsWell_31 (by decide) ?_
      exact hret _ _ _ _ dX8_endsWell_35 (Or.inr rfl) ⟨hV, hF, (by have h9 : (1 : Int32).toInt = 1 := rfl; first | omega | (refine ⟨?_, ?_⟩ <;> omega) | trivial)⟩
    · refine wa_aload_n B dX8_endsWell_18 rfl 0 rfl ?_
      refine wa_iconst B 1 dX8_endsWell_19 (by decide) ?_
      refine wa_aload_n B dX8_endsWell_20 rfl 0 rfl ?_
      refine wa_getI B (C := RX8) (T := TX8) (N := 11) iq_X8_endsWell_X8 ha0 ka0 (by decide) rfl 1 (by decide) (by decide) (by decide +kernel) rfl (by decide) (v := (q.1 a0 1)) rfl dX8_endsWell_21 ?_
      refine wa_callVi B (x := (RX8, TX8, 11)) (As := [.int 1, .int (q.1 a0 1)]) (rest := []) (k_X8_refuse l dC dI h L hN q hV (a0 := a0) ha0 ka0 1 (q.1 a0 1)  ) (cwV 2 B.1.2.2.2.2 gX8_endsWell_X8_refuse rfl rfl rfl (by decide +kernel) ⟨Nat.le_of_ble_eq_true rfl, Nat.le_of_ble_eq_true rfl⟩) ha0 ka0 (by decide) rfl rfl rfl (Nat.le_of_ble_eq_true rfl) dX8_endsWell_24 (fun r_12 q_11 w_13 => ?_)
      obtain ⟨hV_q_11, h2_q_11, hw_13⟩ := w_13
      have hF_q_11 : sx_fr h L (fun a => a = a0 ∧ h.1 a = 8) q q_11 := hF.tr (h2_q_11.mono (fun a (z : a = a0 ∧ h.1 a = 8) => (show a = a0 ∧ h.1 a = 8 from by omega)))
      refine wa_if_eq B 34 dX8_endsWell_27 (by decide) (fun (t_14 : r_12.toInt = 0) => ?_) (fun (t_14 : ¬ r_12.toInt = 0) => ?_)
      · refine wa_iconst B 0 dX8_endsWell_34 (by decide) ?_
        exact hret _ _ _ _ dX8_endsWell_35 (Or.inl rfl) ⟨hV_q_11, hF_q_11, (by have h9 : (0 : Int32).toInt = 0 := rfl; first | omega | (refine ⟨?_, ?_⟩ <;> omega) | trivial)⟩
      · refine wa_iconst B 1 dX8_endsWell_30 (by decide) ?_
        refine wa_goto B 35 dX8_endsWell_31 (by decide) ?_
        exact hret _ _ _ _ dX8_endsWell_35 (Or.inr rfl) ⟨hV_q_11, hF_q_11, (by have h9 : (1 : Int32).toInt = 1 := rfl; first | omega | (refine ⟨?_, ?_⟩ <;> omega) | trivial)⟩
theorem iq_X8_takeSign_X8 : ∀ w ∈ wsX80, w ∈ wsX8_takeSign := fun _ h => List.mem_cons_of_mem _ (List.mem_append_right _ h)
set_option maxHeartbeats 4000000 in
set_option maxRecDepth 100000 in
theorem k_X8_takeSign (l : Launch) (dC : Nat → ClassId) (dI : Nat → Nat → Nat) (h : Sh) (L : List Nat) (hN : sx_nd L) (q : Sg) (hV : sx_V h L q) {a0 : Nat} (ha0 : a0 ∈ L) (ka0 : h.1 a0 = 8) (n1 : Int32)   : CMv l dC dI h L yX8_takeSign wsX8_takeSign ({ frames := 0, cells := 0, slots := 0, locals := 0 } : Room) q [.ref a0, .int n1] (fun q' => sx_V h L q' ∧ sx_fr h L (fun a => a = a0 ∧ h.1 a = 8) q q') := by
  refine cm_v (cc := cX8_takeSign) (mL := 2) (own := RX8) hN (by decide) rfl rfl (Nat.le_of_ble_eq_true rfl) (fun Z B hret => ?_)
  have hF : sx_fr h L (fun a => a = a0 ∧ h.1 a = 8) q q := sx_fr.rf
  show WA l dC dI h L ({ frames := 0, cells := 0, slots := 0, locals := 0 } : Room) 2 Z q 0 [(0, .ref a0), (1, .int n1)] []
  refine wa_aload_n B dX8_takeSign_0 rfl 0 rfl ?_
  refine wa_dup B dX8_takeSign_1 rfl ?_
  refine wa_getI B (C := RX8) (T := TX8) (N := 11) iq_X8_takeSign_X8 ha0 ka0 (by decide) rfl 10 (by decide) (by decide) (by decide +kernel) rfl (by decide) (v := (q.1 a0 10)) rfl dX8_takeSign_2 ?_
  refine wa_iconst B 1 dX8_takeSign_5 (by decide) ?_
  refine wa_iadd B dX8_takeSign_6 (fun v_1 ev_1 => ?_)
  refine wa_putI B (C := RX8) (T := TX8) (N := 11) iq_X8_takeSign_X8 ha0 ka0 (by decide) rfl 10 (by decide) (by decide) (by decide +kernel) rfl (by decide) (v := v_1) (ty := .int) tyX8 tyX8_ok nmX8 rfl (by decide +kernel) rfl rfl dX8_takeSign_7 (fun q_2 eq_2 => ?_)
  have hV_q_2 : sx_V h L q_2 := by rw [eq_2]; exact hV.pI ka0 trivial
  have hF_q_2 : sx_fr h L (fun a => a = a0 ∧ h.1 a = 8) q q_2 := hF.tr (by rw [eq_2]; exact sx_fr.pI (show a0 = a0 ∧ h.1 a0 = 8 from by omega))
  have z_3 : q_2.1 a0 10 = v_1 := by rw [eq_2]; exact sg_pI_e
  refine wa_iload_n B dX8_takeSign_10 rfl 1 rfl ?_
  refine wa_bipush B 58 dX8_takeSign_11 (by decide) ?_
  refine wa_icmp_ne B 24 dX8_takeSign_13 (by decide) (fun (t_4 : ¬ n1.toInt = 58) => ?_) (fun (t_4 : n1.toInt = 58) => ?_)
  · refine wa_aload_n B dX8_takeSign_24 rfl 0 rfl ?_
    refine wa_iload_n B dX8_takeSign_25 rfl 1 rfl ?_
    refine wa_bipush B 59 dX8_takeSign_26 (by decide) ?_
    refine wa_icmp_ne B 35 dX8_takeSign_28 (by decide) (fun (t_5 : ¬ n1.toInt = 59) => ?_) (fun (t_5 : n1.toInt = 59) => ?_)
    · refine wa_iconst B 1 dX8_takeSign_35 (by decide) ?_
      refine wa_putI B (C := RX8) (T := TX8) (N := 11) iq_X8_takeSign_X8 ha0 ka0 (by decide) rfl 0 (by decide) (by decide) (by decide +kernel) rfl (by decide) (v := 1) (ty := .int) tyX8 tyX8_ok nmX8 rfl (by decide +kernel) rfl rfl dX8_takeSign_36 (fun q_6 eq_6 => ?_)
      have hV_q_6 : sx_V h L q_6 := by rw [eq_6]; exact hV_q_2.pI ka0 trivial
      have hF_q_6 : sx_fr h L (fun a => a = a0 ∧ h.1 a = 8) q q_6 := hF_q_2.tr (by rw [eq_6]; exact sx_fr.pI (show a0 = a0 ∧ h.1 a0 = 8 from by omega))
      have z_7 : q_6.1 a0 0 = 1 := by rw [eq_6]; exact sg_pI_e
      exact hret _ _ _ dX8_takeSign_39 ⟨hV_q_6, hF_q_6⟩
    · refine wa_iconst B 5 dX8_takeSign_31 (by decide) ?_
      refine wa_goto B 36 dX8_takeSign_32 (by decide) ?_
      refine wa_putI B (C := RX8) (T := TX8) (N := 11) iq_X8_takeSign_X8 ha0 ka0 (by decide) rfl 0 (by decide) (by decide) (by decide +kernel) rfl (by decide) (v := 5) (ty := .int) tyX8 tyX8_ok nmX8 rfl (by decide +kernel) rfl rfl dX8_takeSign_36 (fun q_8 eq_8 => ?_)
      have hV_q_8 : sx_V h L q_8 := by rw [eq_8]; exact hV_q_2.pI ka0 trivial
      have hF_q_8 : sx_fr h L (fun a => a = a0 ∧ h.1 a = 8) q q_8 := hF_q_2.tr (by rw [eq_8]; exact sx_fr.pI (show a0 = a0 ∧ h.1 a0 = 8 from by omega))
      have z_9 : q_8.1 a0 0 = 5 := by rw [eq_8]; exact sg_pI_e
      exact hret _ _ _ dX8_takeSign_39 ⟨hV_q_8, hF_q_8⟩
  · refine wa_aload_n B dX8_takeSign_16 rfl 0 rfl ?_
    refine wa_iconst B 4 dX8_takeSign_17 (by decide) ?_
    refine wa_putI B (C := RX8) (T := TX8) (N := 11) iq_X8_takeSign_X8 ha0 ka0 (by decide) rfl 0 (by decide) (by decide) (by decide +kernel) rfl (by decide) (v := 4) (ty := .int) tyX8 tyX8_ok nmX8 rfl (by decide +kernel) rfl rfl dX8_takeSign_18 (fun q_10 eq_10 => ?_)
    have hV_q_10 : sx_V h L q_10 := by rw [eq_10]; exact hV_q_2.pI ka0 trivial
    have hF_q_10 : sx_fr h L (fun a => a = a0 ∧ h.1 a = 8) q q_10 := hF_q_2.tr (by rw [eq_10]; exact sx_fr.pI (show a0 = a0 ∧ h.1 a0 = 8 from by omega))
    have z_11 : q_10.1 a0 0 = 4 := by rw [eq_10]; exact sg_pI_e
    refine wa_goto B 39 dX8_takeSign_21 (by decide) ?_
    exact hret _ _ _ dX8_takeSign_39 ⟨hV_q_10, hF_q_10⟩
theorem iq_X8_takeName_X7 : ∀ w ∈ wsX70, w ∈ wsX8_takeName := fun _ h => List.mem_cons_of_mem _ (List.mem_append_right _ h)
theorem iq_X8_takeName_X8 : ∀ w ∈ wsX80, w ∈ wsX8_takeName := fun _ h => List.mem_cons_of_mem _ (List.mem_append_left _ (List.mem_append_right _ h))
set_option maxHeartbeats 4000000 in
set_option maxRecDepth 100000 in
theorem k_X8_takeName (l : Launch) (dC : Nat → ClassId) (dI : Nat → Nat → Nat) (h : Sh) (L : List Nat) (hN : sx_nd L) (q : Sg) (hV : sx_V h L q) {a0 : Nat} (ha0 : a0 ∈ L) (ka0 : h.1 a0 = 8)   : CMv l dC dI h L yX8_takeName wsX8_takeName ({ frames := 1, cells := 0, slots := 0, locals := 21 } : Room) q [.ref a0] (fun q' => sx_V h L q' ∧ sx_fr h L (fun a => a = a0 ∧ h.1 a = 8) q q') := by
  refine cm_v (cc := cX8_takeName) (mL := 3) (own := RX8) hN (by decide) rfl rfl (Nat.le_of_ble_eq_true rfl) (fun Z B hret => ?_)
  have hF : sx_fr h L (fun a => a = a0 ∧ h.1 a = 8) q q := sx_fr.rf
  show WA l dC dI h L ({ frames := 1, cells := 0, slots := 0, locals := 21 } : Room) 3 Z q 0 [(0, .ref a0)] []
  refine wa_iconst B 1 dX8_takeName_0 (by decide) ?_
  refine wa_istore_n B [(1, .int 1), (0, .ref a0)] dX8_takeName_1 rfl (by decide) rfl ?_
  refine wa_aload_n B dX8_takeName_2 rfl 1 rfl ?_
  refine wa_lconst B 0 dX8_takeName_3 (by decide) ?_
  refine wa_putJ B (C := RX8) (T := TX8) (N := 11) iq_X8_takeName_X8 ha0 ka0 (by decide) rfl 2 (by decide) (by decide) (by decide +kernel) rfl (by decide) (v := 0) (ty := .long) tyX8 tyX8_ok nmX8 rfl (by decide +kernel) rfl rfl dX8_takeName_4 (fun q_1 eq_1 => ?_)
  have hV_q_1 : sx_V h L q_1 := by rw [eq_1]; exact hV.pJ
  have hF_q_1 : sx_fr h L (fun a => a = a0 ∧ h.1 a = 8) q q_1 := hF.tr (by rw [eq_1]; exact sx_fr.pJ (show a0 = a0 ∧ h.1 a0 = 8 from by omega))
  have z_2 : q_1.2.1 a0 2 = 0 := by rw [eq_1]; exact sg_pJ_e
  refine wa_aload_n B dX8_takeName_7 rfl 1 rfl ?_
  obtain ⟨a_3, ea_3, ha_3, ka_3⟩ := hV_q_1.ref (t := 7) ha0 ka0 7 rfl (by decide)
  refine wa_getR B (C := RX8) (T := TX8) (N := 11) iq_X8_takeName_X8 ha0 ka0 (by decide) rfl 7 (by decide) (by decide) (by decide +kernel) rfl (fun _ _ _ => rfl) (v := a_3) ea_3 dX8_takeName_8 ?_
  refine wa_aload_n B dX8_takeName_11 rfl 1 rfl ?_
  refine wa_getI B (C := RX8) (T := TX8) (N := 11) iq_X8_takeName_X8 ha0 ka0 (by decide) rfl 10 (by decide) (by decide) (by decide +kernel) rfl (by decide) (v := (q_1.1 a0 10)) rfl dX8_takeName_12 ?_
  refine wa_callVi B (x := (RX7, TX7, 2)) (As := [.int (q_1.1 a0 10)]) (rest := []) (k_X7_byteAt l dC dI h L hN q_1 hV_q_1 (a0 := a_3) ha_3 ka_3 (q_1.1 a0 10)  ) (cwV 1 B.1.2.2.2.2 gX8_takeName_X7_byteAt rfl rfl rfl (by decide +kernel) ⟨Nat.le_of_ble_eq_true rfl, Nat.le_of_ble_eq_true rfl⟩) ha_3 ka_3 (by decide) rfl rfl rfl (Nat.le_of_ble_eq_true rfl) dX8_takeName_15 (fun r_5 q_4 w_6 => ?_)
  obtain ⟨ew_6, hw_6⟩ := w_6
  subst ew_6
  refine wa_istore_n B [(2, .int r_5), (1, .int 1), (0, .ref a0)] dX8_takeName_18 rfl (by decide) rfl ?_
  have Lp_19_10 : ∀ (n : Nat) (v_7 : Int32) (v_8 : Int32) (q_9 : Sg), sx_V h L q_9 → sx_fr h L (fun a => a = a0 ∧ h.1 a = 8) q q_9 → q_9.2.2.1 a0 7 = a_3 → ((q_9.1 a_3 1).toInt - (q_9.1 a0 10).toInt : Int).toNat < n → WA l dC dI h L ({ frames := 1, cells := 0, slots := 0, locals := 21 } : Room) 3 Z q_9 19 [(2, .int v_7), (1, .int v_8), (0, .ref a0)] [] := by
    intro n
    induction n with
    | zero =>
      intro v_7 v_8 q_9 hV_q_9 hF_q_9 p0_q_9 hn
      exact absurd hn (Nat.not_lt_zero _)
    | succ n ih_11 =>
      intro v_7 v_8 q_9 hV_q_9 hF_q_9 p0_q_9 hn
      refine wa_aload_n B dX8_takeName_19 rfl 2 rfl ?_
      refine wa_getI B (C := RX8) (T := TX8) (N := 11) iq_X8_takeName_X8 ha0 ka0 (by decide) rfl 10 (by decide) (by decide) (by decide +kernel) rfl (by decide) (v := (q_9.1 a0 10)) rfl dX8_takeName_20 ?_
      refine wa_aload_n B dX8_takeName_23 rfl 2 rfl ?_
      refine wa_getR B (C := RX8) (T := TX8) (N := 11) iq_X8_takeName_X8 ha0 ka0 (by decide) rfl 7 (by decide) (by decide) (by decide +kernel) rfl (fun _ _ _ => rfl) (v := a_3) p0_q_9 dX8_takeName_24 ?_
      refine wa_getI B (C := RX7) (T := TX7) (N := 2) iq_X8_takeName_X7 ha_3 ka_3 (by decide) rfl 1 (by decide) (by decide) (by decide +kernel) rfl (by decide) (v := (q_9.1 a_3 1)) rfl dX8_takeName_27 ?_
      obtain ⟨a_13, ea_13, ha_13, ka_13⟩ := hV_q_9.ref (t := 300) ha_3 ka_3 0 rfl (by decide)
      have g_12 : (0 : Int) ≤ (q_9.1 a_3 1).toInt ∧ (q_9.1 a_3 1).toInt ≤ (h.2.1 a_13 : Int) := by have z9 := hV_q_9.int ha_3 ka_3 1; rw [ea_13] at z9; exact z9
      have l_14 : h.2.1 a_13 ≤ 5000 := hV_q_9.len ha_13
      refine wa_icmp_ge B 108 dX8_takeName_30 (by decide) (fun (t_15 : (q_9.1 a_3 1).toInt ≤ (q_9.1 a0 10).toInt) => ?_) (fun (t_15 : ¬ (q_9.1 a_3 1).toInt ≤ (q_9.1 a0 10).toInt) => ?_)
      · refine wa_aload_n B dX8_takeName_108 rfl 2 rfl ?_
        refine wa_iload_n B dX8_takeName_109 rfl 1 rfl ?_
        have Jn_135_17 : ∀  (v_16 : Int32), WA l dC dI h L ({ frames := 1, cells := 0, slots := 0, locals := 21 } : Room) 3 Z q_9 135 [(2, .int v_7), (1, .int v_8), (0, .ref a0)] [.int v_16, .ref a0] := by
          intro v_16
          refine wa_putI B (C := RX8) (T := TX8) (N := 11) iq_X8_takeName_X8 ha0 ka0 (by decide) rfl 0 (by decide) (by decide) (by decide +kernel) rfl (by decide) (v := v_16) (ty := .int) tyX8 tyX8_ok nmX8 rfl (by decide +kernel) rfl rfl dX8_takeName_135 (fun q_18 eq_18 => ?_)
          have hV_q_18 : sx_V h L q_18 := by rw [eq_18]; exact hV_q_9.pI ka0 trivial
          have hF_q_18 : sx_fr h L (fun a => a = a0 ∧ h.1 a = 8) q q_18 := hF_q_9.tr (by rw [eq_18]; exact sx_fr.pI (show a0 = a0 ∧ h.1 a0 = 8 from by omega))
          have z_19 : q_18.1 a0 0 = v_16 := by rw [eq_18]; exact sg_pI_e
          exact hret _ _ _ dX8_takeName_138 ⟨hV_q_18, hF_q_18⟩
        refine wa_if_eq B 134 dX8_takeName_110 (by decide) (fun (t_20 : v_8.toInt = 0) => ?_) (fun (t_20 : ¬ v_8.toInt = 0) => ?_)
        · refine wa_iconst B 1 dX8_takeName_134 (by decide) ?_
          exact Jn_135_17 1
        · refine wa_aload_n B dX8_takeName_113 rfl 2 rfl ?_
          refine wa_getI B (C := RX8) (T := TX8) (N := 11) iq_X8_takeName_X8 ha0 ka0 (by decide) rfl 10 (by decide) (by decide) (by decide +kernel) rfl (by decide) (v := (q_9.1 a0 10)) rfl dX8_takeName_114 ?_
          refine wa_aload_n B dX8_takeName_117 rfl 2 rfl ?_
          refine wa_getI B (C := RX8) (T := TX8) (N := 11) iq_X8_takeName_X8 ha0 ka0 (by decide) rfl 1 (by decide) (by decide) (by decide +kernel) rfl (by decide) (v := (q_9.1 a0 1)) rfl dX8_takeName_118 ?_
          refine wa_isub B dX8_takeName_121 (fun v_21 ev_21 => ?_)
          refine wa_bipush B 8 dX8_takeName_122 (by decide) ?_
          refine wa_icmp_gt B 134 dX8_takeName_124 (by decide) (fun (t_22 : 8 < v_21.toInt) => ?_) (fun (t_22 : ¬ 8 < v_21.toInt) => ?_)
          · refine wa_iconst B 1 dX8_takeName_134 (by decide) ?_
            exact Jn_135_17 1
          · refine wa_aload_n B dX8_takeName_127 rfl 2 rfl ?_
            refine wa_callVi B (x := (RX8, TX8, 11)) (As := []) (rest := [.ref a0]) (k_X8_kindOfName l dC dI h L hN q_9 hV_q_9 (a0 := a0) ha0 ka0  ) (cwV 0 B.1.2.2.2.2 gX8_takeName_X8_kindOfName rfl rfl rfl (by decide +kernel) ⟨Nat.le_of_ble_eq_true rfl, Nat.le_of_ble_eq_true rfl⟩) ha0 ka0 (by decide) rfl rfl rfl (Nat.le_of_ble_eq_true rfl) dX8_takeName_128 (fun r_24 q_23 w_25 => ?_)
            subst w_25
            refine wa_goto B 135 dX8_takeName_131 (by decide) ?_
            exact Jn_135_17 r_24
      · refine wa_iload_n B dX8_takeName_33 rfl 0 rfl ?_
        refine wa_callSi B (As := [.int v_7]) (rest := []) (k_X8_isSmallLetter l dC dI h L hN q_9 hV_q_9 v_7  ) (va_cwS 1 B.1.2.2.2.2 gX8_takeName_X8_isSmallLetter rfl rfl rfl (by decide +kernel) ⟨Nat.le_of_ble_eq_true rfl, Nat.le_of_ble_eq_true rfl⟩) rfl rfl (Nat.le_of_ble_eq_true rfl) dX8_takeName_34 (fun r_27 q_26 w_28 => ?_)
        obtain ⟨ew_28, hw_28⟩ := w_28
        subst ew_28
        have Jn_52_29 : ∀ (_ : Unit), WA l dC dI h L ({ frames := 1, cells := 0, slots := 0, locals := 21 } : Room) 3 Z q_9 52 [(2, .int v_7), (1, .int v_8), (0, .ref a0)] [] := by
          intro _
          refine wa_iload_n B dX8_takeName_52 rfl 1 rfl ?_
          have Jn_68_31 : ∀  (v_30 : Int32), WA l dC dI h L ({ frames := 1, cells := 0, slots := 0, locals := 21 } : Room) 3 Z q_9 68 [(2, .int v_7), (1, .int v_8), (0, .ref a0)] [.int v_30] := by
            intro v_30
            refine wa_istore_n B [(1, .int v_30), (2, .int v_7), (0, .ref a0)] dX8_takeName_68 rfl (by decide) rfl ?_
            refine wa_aload_n B dX8_takeName_69 rfl 2 rfl ?_
            refine wa_aload_n B dX8_takeName_70 rfl 2 rfl ?_
            refine wa_getJ B (C := RX8) (T := TX8) (N := 11) iq_X8_takeName_X8 ha0 ka0 (by decide) rfl 2 (by decide) (by decide) (by decide +kernel) rfl (by decide) (v := (q_9.2.1 a0 2)) rfl dX8_takeName_71 ?_
            refine wa_bipush B 8 dX8_takeName_74 (by decide) ?_
            refine wa_lshl B dX8_takeName_76 (fun v_32 ev_32 => ?_)
            refine wa_iload_n B dX8_takeName_77 rfl 1 rfl ?_
            refine wa_i2l B dX8_takeName_78 (fun v_33 ev_33 => ?_)
            refine wa_lor B dX8_takeName_79 (fun v_34 ev_34 => ?_)
            refine wa_putJ B (C := RX8) (T := TX8) (N := 11) iq_X8_takeName_X8 ha0 ka0 (by decide) rfl 2 (by decide) (by decide) (by decide +kernel) rfl (by decide) (v := v_34) (ty := .long) tyX8 tyX8_ok nmX8 rfl (by decide +kernel) rfl rfl dX8_takeName_80 (fun q_35 eq_35 => ?_)
            have hV_q_35 : sx_V h L q_35 := by rw [eq_35]; exact hV_q_9.pJ
            have hF_q_35 : sx_fr h L (fun a => a = a0 ∧ h.1 a = 8) q q_35 := hF_q_9.tr (by rw [eq_35]; exact sx_fr.pJ (show a0 = a0 ∧ h.1 a0 = 8 from by omega))
            have z_36 : q_35.2.1 a0 2 = v_34 := by rw [eq_35]; exact sg_pJ_e
            refine wa_aload_n B dX8_takeName_83 rfl 2 rfl ?_
            refine wa_dup B dX8_takeName_84 rfl ?_
            have z_37 : q_35.1 a0 10 = q_9.1 a0 10 := (show q_35.1 a0 10 = q_9.1 a0 10 from by rw [eq_35]; rfl)
            refine wa_getI B (C := RX8) (T := TX8) (N := 11) iq_X8_takeName_X8 ha0 ka0 (by decide) rfl 10 (by decide) (by decide) (by decide +kernel) rfl (by decide) (v := (q_9.1 a0 10)) z_37 dX8_takeName_85 ?_
            refine wa_iconst B 1 dX8_takeName_88 (by decide) ?_
            refine wa_iadd B dX8_takeName_89 (fun v_38 ev_38 => ?_)
            refine wa_putI B (C := RX8) (T := TX8) (N := 11) iq_X8_takeName_X8 ha0 ka0 (by decide) rfl 10 (by decide) (by decide) (by decide +kernel) rfl (by decide) (v := v_38) (ty := .int) tyX8 tyX8_ok nmX8 rfl (by decide +kernel) rfl rfl dX8_takeName_90 (fun q_39 eq_39 => ?_)
            have hV_q_39 : sx_V h L q_39 := by rw [eq_39]; exact hV_q_35.pI ka0 trivial
            have hF_q_39 : sx_fr h L (fun a => a = a0 ∧ h.1 a = 8) q q_39 := hF_q_35.tr (by rw [eq_39]; exact sx_fr.pI (show a0 = a0 ∧ h.1 a0 = 8 from by omega))
            have z_40 : q_39.1 a0 10 = v_38 := by rw [eq_39]; exact sg_pI_e
            refine wa_aload_n B dX8_takeName_93 rfl 2 rfl ?_
            have z_41 : q_39.2.2.1 a0 7 = a_3 := ((show q_39.2.2.1 a0 7 = q_35.2.2.1 a0 7 from by rw [eq_39]; rfl)).trans (((show q_35.2.2.1 a0 7 = q_9.2.2.1 a0 7 from by rw [eq_35]; rfl)).trans (p0_q_9))
            refine wa_getR B (C := RX8) (T := TX8) (N := 11) iq_X8_takeName_X8 ha0 ka0 (by decide) rfl 7 (by decide) (by decide) (by decide +kernel) rfl (fun _ _ _ => rfl) (v := a_3) z_41 dX8_takeName_94 ?_
            refine wa_aload_n B dX8_takeName_97 rfl 2 rfl ?_
            refine wa_getI B (C := RX8) (T := TX8) (N := 11) iq_X8_takeName_X8 ha0 ka0 (by decide) rfl 10 (by decide) (by decide) (by decide +kernel) rfl (by decide) (v := v_38) z_40 dX8_takeName_98 ?_
            refine wa_callVi B (x := (RX7, TX7, 2)) (As := [.int v_38]) (rest := []) (k_X7_byteAt l dC dI h L hN q_39 hV_q_39 (a0 := a_3) ha_3 ka_3 v_38  ) (cwV 1 B.1.2.2.2.2 gX8_takeName_X7_byteAt rfl rfl rfl (by decide +kernel) ⟨Nat.le_of_ble_eq_true rfl, Nat.le_of_ble_eq_true rfl⟩) ha_3 ka_3 (by decide) rfl rfl rfl (Nat.le_of_ble_eq_true rfl) dX8_takeName_101 (fun r_43 q_42 w_44 => ?_)
            obtain ⟨ew_44, hw_44⟩ := w_44
            subst ew_44
            refine wa_istore_n B [(2, .int r_43), (1, .int v_30), (0, .ref a0)] dX8_takeName_104 rfl (by decide) rfl ?_
            refine wa_goto B 19 dX8_takeName_105 (by decide) ?_
            have y_45 : (q_39.1 a0 10).toInt = v_38.toInt := by rw [z_40]
            have tv_38 : v_38.toInt = (q_9.1 a0 10).toInt + 1 := by have b0 := zx_bd (q_9.1 a0 10); rw [ev_38]; exact zx_add (show (-2147483648 : Int) ≤ (q_9.1 a0 10).toInt + 1 by omega) (show (q_9.1 a0 10).toInt + 1 < (2147483648 : Int) by omega)
            have z_46 : q_39.1 a_3 1 = q_9.1 a_3 1 := ((show q_39.1 a_3 1 = q_35.1 a_3 1 from by rw [eq_39]; exact sg_pI_k (by decide))).trans ((show q_35.1 a_3 1 = q_9.1 a_3 1 from by rw [eq_35]; rfl))
            have y_47 : (q_39.1 a_3 1).toInt = (q_9.1 a_3 1).toInt := by rw [z_46]
            exact ih_11 r_43 v_30 q_39 hV_q_39 hF_q_39 z_41 (show ((q_39.1 a_3 1).toInt - (q_39.1 a0 10).toInt : Int).toNat < _ from by omega)
          refine wa_if_eq B 67 dX8_takeName_53 (by decide) (fun (t_48 : v_8.toInt = 0) => ?_) (fun (t_48 : ¬ v_8.toInt = 0) => ?_)
          · refine wa_iconst B 0 dX8_takeName_67 (by decide) ?_
            exact Jn_68_31 0
          · refine wa_iload_n B dX8_takeName_56 rfl 0 rfl ?_
            refine wa_callSi B (As := [.int v_7]) (rest := []) (k_X8_isSmallLetter l dC dI h L hN q_9 hV_q_9 v_7  ) (va_cwS 1 B.1.2.2.2.2 gX8_takeName_X8_isSmallLetter rfl rfl rfl (by decide +kernel) ⟨Nat.le_of_ble_eq_true rfl, Nat.le_of_ble_eq_true rfl⟩) rfl rfl (Nat.le_of_ble_eq_true rfl) dX8_takeName_57 (fun r_50 q_49 w_51 => ?_)
            obtain ⟨ew_51, hw_51⟩ := w_51
            subst ew_51
            refine wa_if_eq B 67 dX8_takeName_60 (by decide) (fun (t_52 : r_50.toInt = 0) => ?_) (fun (t_52 : ¬ r_50.toInt = 0) => ?_)
            · refine wa_iconst B 0 dX8_takeName_67 (by decide) ?_
              exact Jn_68_31 0
            · refine wa_iconst B 1 dX8_takeName_63 (by decide) ?_
              refine wa_goto B 68 dX8_takeName_64 (by decide) ?_
              exact Jn_68_31 1
        refine wa_if_ne B 52 dX8_takeName_37 (by decide) (fun (t_53 : ¬ r_27.toInt = 0) => ?_) (fun (t_53 : r_27.toInt = 0) => ?_)
        · exact Jn_52_29 ()
        · refine wa_iload_n B dX8_takeName_40 rfl 0 rfl ?_
          refine wa_bipush B 48 dX8_takeName_41 (by decide) ?_
          refine wa_icmp_lt B 108 dX8_takeName_43 (by decide) (fun (t_54 : v_7.toInt < 48) => ?_) (fun (t_54 : ¬ v_7.toInt < 48) => ?_)
          · refine wa_aload_n B dX8_takeName_108 rfl 2 rfl ?_
            refine wa_iload_n B dX8_takeName_109 rfl 1 rfl ?_
            have Jn_135_56 : ∀  (v_55 : Int32), WA l dC dI h L ({ frames := 1, cells := 0, slots := 0, locals := 21 } : Room) 3 Z q_9 135 [(2, .int v_7), (1, .int v_8), (0, .ref a0)] [.int v_55, .ref a0] := by
              intro v_55
              refine wa_putI B (C := RX8) (T := TX8) (N := 11) iq_X8_takeName_X8 ha0 ka0 (by decide) rfl 0 (by decide) (by decide) (by decide +kernel) rfl (by decide) (v := v_55) (ty := .int) tyX8 tyX8_ok nmX8 rfl (by decide +kernel) rfl rfl dX8_takeName_135 (fun q_57 eq_57 => ?_)
              have hV_q_57 : sx_V h L q_57 := by rw [eq_57]; exact hV_q_9.pI ka0 trivial
              have hF_q_57 : sx_fr h L (fun a => a = a0 ∧ h.1 a = 8) q q_57 := hF_q_9.tr (by rw [eq_57]; exact sx_fr.pI (show a0 = a0 ∧ h.1 a0 = 8 from by omega))
              have z_58 : q_57.1 a0 0 = v_55 := by rw [eq_57]; exact sg_pI_e
              exact hret _ _ _ dX8_takeName_138 ⟨hV_q_57, hF_q_57⟩
            refine wa_if_eq B 134 dX8_takeName_110 (by decide) (fun (t_59 : v_8.toInt = 0) => ?_) (fun (t_59 : ¬ v_8.toInt = 0) => ?_)
            · refine wa_iconst B 1 dX8_takeName_134 (by decide) ?_
              exact Jn_135_56 1
            · refine wa_aload_n B dX8_takeName_113 rfl 2 rfl ?_
              refine wa_getI B (C := RX8) (T := TX8) (N := 11) iq_X8_takeName_X8 ha0 ka0 (by decide) rfl 10 (by decide) (by decide) (by decide +kernel) rfl (by decide) (v := (q_9.1 a0 10)) rfl dX8_takeName_114 ?_
              refine wa_aload_n B dX8_takeName_117 rfl 2 rfl ?_
              refine wa_getI B (C := RX8) (T := TX8) (N := 11) iq_X8_takeName_X8 ha0 ka0 (by decide) rfl 1 (by decide) (by decide) (by decide +kernel) rfl (by decide) (v := (q_9.1 a0 1)) rfl dX8_takeName_118 ?_
              refine wa_isub B dX8_takeName_121 (fun v_60 ev_60 => ?_)
              refine wa_bipush B 8 dX8_takeName_122 (by decide) ?_
              refine wa_icmp_gt B 134 dX8_takeName_124 (by decide) (fun (t_61 : 8 < v_60.toInt) => ?_) (fun (t_61 : ¬ 8 < v_60.toInt) => ?_)
              · refine wa_iconst B 1 dX8_takeName_134 (by decide) ?_
                exact Jn_135_56 1
              · refine wa_aload_n B dX8_takeName_127 rfl 2 rfl ?_
                refine wa_callVi B (x := (RX8, TX8, 11)) (As := []) (rest := [.ref a0]) (k_X8_kindOfName l dC dI h L hN q_9 hV_q_9 (a0 := a0) ha0 ka0  ) (cwV 0 B.1.2.2.2.2 gX8_takeName_X8_kindOfName rfl rfl rfl (by decide +kernel) ⟨Nat.le_of_ble_eq_true rfl, Nat.le_of_ble_eq_true rfl⟩) ha0 ka0 (by decide) rfl rfl rfl (Nat.le_of_ble_eq_true rfl) dX8_takeName_128 (fun r_63 q_62 w_64 => ?_)
                subst w_64
                refine wa_goto B 135 dX8_takeName_131 (by decide) ?_
                exact Jn_135_56 r_63
          · refine wa_iload_n B dX8_takeName_46 rfl 0 rfl ?_
            refine wa_bipush B 57 dX8_takeName_47 (by decide) ?_
            refine wa_icmp_gt B 108 dX8_takeName_49 (by decide) (fun (t_65 : 57 < v_7.toInt) => ?_) (fun (t_65 : ¬ 57 < v_7.toInt) => ?_)
            · refine wa_aload_n B dX8_takeName_108 rfl 2 rfl ?_
              refine wa_iload_n B dX8_takeName_109 rfl 1 rfl ?_
              have Jn_135_67 : ∀  (v_66 : Int32), WA l dC dI h L ({ frames := 1, cells := 0, slots := 0, locals := 21 } : Room) 3 Z q_9 135 [(2, .int v_7), (1, .int v_8), (0, .ref a0)] [.int v_66, .ref a0] := by
                intro v_66
                refine wa_putI B (C := RX8) (T := TX8) (N := 11) iq_X8_takeName_X8 ha0 ka0 (by decide) rfl 0 (by decide) (by decide) (by decide +kernel) rfl (by decide) (v := v_66) (ty := .int) tyX8 tyX8_ok nmX8 rfl (by decide +kernel) rfl rfl dX8_takeName_135 (fun q_68 eq_68 => ?_)
                have hV_q_68 : sx_V h L q_68 := by rw [eq_68]; exact hV_q_9.pI ka0 trivial
                have hF_q_68 : sx_fr h L (fun a => a = a0 ∧ h.1 a = 8) q q_68 := hF_q_9.tr (by rw [eq_68]; exact sx_fr.pI (show a0 = a0 ∧ h.1 a0 = 8 from by omega))
                have z_69 : q_68.1 a0 0 = v_66 := by rw [eq_68]; exact sg_pI_e
                exact hret _ _ _ dX8_takeName_138 ⟨hV_q_68, hF_q_68⟩
              refine wa_if_eq B 134 dX8_takeName_110 (by decide) (fun (t_70 : v_8.toInt = 0) => ?_) (fun (t_70 : ¬ v_8.toInt = 0) => ?_)
              · refine wa_iconst B 1 dX8_takeName_134 (by decide) ?_
                exact Jn_135_67 1
              · refine wa_aload_n B dX8_takeName_113 rfl 2 rfl ?_
                refine wa_getI B (C := RX8) (T := TX8) (N := 11) iq_X8_takeName_X8 ha0 ka0 (by decide) rfl 10 (by decide) (by decide) (by decide +kernel) rfl (by decide) (v := (q_9.1 a0 10)) rfl dX8_takeName_114 ?_
                refine wa_aload_n B dX8_takeName_117 rfl 2 rfl ?_
                refine wa_getI B (C := RX8) (T := TX8) (N := 11) iq_X8_takeName_X8 ha0 ka0 (by decide) rfl 1 (by decide) (by decide) (by decide +kernel) rfl (by decide) (v := (q_9.1 a0 1)) rfl dX8_takeName_118 ?_
                refine wa_isub B dX8_takeName_121 (fun v_71 ev_71 => ?_)
                refine wa_bipush B 8 dX8_takeName_122 (by decide) ?_
                refine wa_icmp_gt B 134 dX8_takeName_124 (by decide) (fun (t_72 : 8 < v_71.toInt) => ?_) (fun (t_72 : ¬ 8 < v_71.toInt) => ?_)
                · refine wa_iconst B 1 dX8_takeName_134 (by decide) ?_
                  exact Jn_135_67 1
                · refine wa_aload_n B dX8_takeName_127 rfl 2 rfl ?_
                  refine wa_callVi B (x := (RX8, TX8, 11)) (As := []) (rest := [.ref a0]) (k_X8_kindOfName l dC dI h L hN q_9 hV_q_9 (a0 := a0) ha0 ka0  ) (cwV 0 B.1.2.2.2.2 gX8_takeName_X8_kindOfName rfl rfl rfl (by decide +kernel) ⟨Nat.le_of_ble_eq_true rfl, Nat.le_of_ble_eq_true rfl⟩) ha0 ka0 (by decide) rfl rfl rfl (Nat.le_of_ble_eq_true rfl) dX8_takeName_128 (fun r_74 q_73 w_75 => ?_)
                  subst w_75
                  refine wa_goto B 135 dX8_takeName_131 (by decide) ?_
                  exact Jn_135_67 r_74
            · exact Jn_52_29 ()
  exact Lp_19_10 _ r_5 1 q_1 hV_q_1 hF_q_1 ea_3 (Nat.lt_succ_self _)
theorem iq_X8_takeNumber_X7 : ∀ w ∈ wsX70, w ∈ wsX8_takeNumber := fun _ h => List.mem_cons_of_mem _ (List.mem_append_right _ h)
theorem iq_X8_takeNumber_X8 : ∀ w ∈ wsX80, w ∈ wsX8_takeNumber := fun _ h => List.mem_cons_of_mem _ (List.mem_append_left _ (List.mem_append_right _ h))
set_option maxHeartbeats 4000000 in
set_option maxRecDepth 100000 in
theorem k_X8_takeNumber (l : Launch) (dC : Nat → ClassId) (dI : Nat → Nat → Nat) (h : Sh) (L : List Nat) (hN : sx_nd L) (q : Sg) (hV : sx_V h L q) {a0 : Nat} (ha0 : a0 ∈ L) (ka0 : h.1 a0 = 8)   : CMv l dC dI h L yX8_takeNumber wsX8_takeNumber ({ frames := 1, cells := 0, slots := 0, locals := 21 } : Room) q [.ref a0] (fun q' => sx_V h L q' ∧ sx_fr h L (fun a => a = a0 ∧ h.1 a = 8) q q') := by
  refine cm_v (cc := cX8_takeNumber) (mL := 3) (own := RX8) hN (by decide) rfl rfl (Nat.le_of_ble_eq_true rfl) (fun Z B hret => ?_)
  have hF : sx_fr h L (fun a => a = a0 ∧ h.1 a = 8) q q := sx_fr.rf
  show WA l dC dI h L ({ frames := 1, cells := 0, slots := 0, locals := 21 } : Room) 3 Z q 0 [(0, .ref a0)] []
  refine wa_iconst B 1 dX8_takeNumber_0 (by decide) ?_
  refine wa_istore_n B [(1, .int 1), (0, .ref a0)] dX8_takeNumber_1 rfl (by decide) rfl ?_
  refine wa_aload_n B dX8_takeNumber_2 rfl 1 rfl ?_
  refine wa_iconst B (-1) dX8_takeNumber_3 (by decide) ?_
  refine wa_putI B (C := RX8) (T := TX8) (N := 11) iq_X8_takeNumber_X8 ha0 ka0 (by decide) rfl 3 (by decide) (by decide) (by decide +kernel) rfl (by decide) (v := (-1)) (ty := .int) tyX8 tyX8_ok nmX8 rfl (by decide +kernel) rfl rfl dX8_takeNumber_4 (fun q_1 eq_1 => ?_)
  have hV_q_1 : sx_V h L q_1 := by rw [eq_1]; exact hV.pI ka0 trivial
  have hF_q_1 : sx_fr h L (fun a => a = a0 ∧ h.1 a = 8) q q_1 := hF.tr (by rw [eq_1]; exact sx_fr.pI (show a0 = a0 ∧ h.1 a0 = 8 from by omega))
  have z_2 : q_1.1 a0 3 = (-1) := by rw [eq_1]; exact sg_pI_e
  refine wa_aload_n B dX8_takeNumber_7 rfl 1 rfl ?_
  refine wa_iconst B (-1) dX8_takeNumber_8 (by decide) ?_
  refine wa_putI B (C := RX8) (T := TX8) (N := 11) iq_X8_takeNumber_X8 ha0 ka0 (by decide) rfl 4 (by decide) (by decide) (by decide +kernel) rfl (by decide) (v := (-1)) (ty := .int) tyX8 tyX8_ok nmX8 rfl (by decide +kernel) rfl rfl dX8_takeNumber_9 (fun q_3 eq_3 => ?_)
  have hV_q_3 : sx_V h L q_3 := by rw [eq_3]; exact hV_q_1.pI ka0 trivial
  have hF_q_3 : sx_fr h L (fun a => a = a0 ∧ h.1 a = 8) q q_3 := hF_q_1.tr (by rw [eq_3]; exact sx_fr.pI (show a0 = a0 ∧ h.1 a0 = 8 from by omega))
  have z_4 : q_3.1 a0 4 = (-1) := by rw [eq_3]; exact sg_pI_e
  refine wa_aload_n B dX8_takeNumber_12 rfl 1 rfl ?_
  obtain ⟨a_5, ea_5, ha_5, ka_5⟩ := hV_q_3.ref (t := 7) ha0 ka0 7 rfl (by decide)
  refine wa_getR B (C := RX8) (T := TX8) (N := 11) iq_X8_takeNumber_X8 ha0 ka0 (by decide) rfl 7 (by decide) (by decide) (by decide +kernel) rfl (fun _ _ _ => rfl) (v := a_5) ea_5 dX8_takeNumber_13 ?_
  refine wa_aload_n B dX8_takeNumber_16 rfl 1 rfl ?_
  refine wa_getI B (C := RX8) (T := TX8) (N := 11) iq_X8_takeNumber_X8 ha0 ka0 (by decide) rfl 10 (by decide) (by decide) (by decide +kernel) rfl (by decide) (v := (q_3.1 a0 10)) rfl dX8_takeNumber_17 ?_
  refine wa_callVi B (x := (RX7, TX7, 2)) (As := [.int (q_3.1 a0 10)]) (rest := []) (k_X7_byteAt l dC dI h L hN q_3 hV_q_3 (a0 := a_5) ha_5 ka_5 (q_3.1 a0 10)  ) (cwV 1 B.1.2.2.2.2 gX8_takeNumber_X7_byteAt rfl rfl rfl (by decide +kernel) ⟨Nat.le_of_ble_eq_true rfl, Nat.le_of_ble_eq_true rfl⟩) ha_5 ka_5 (by decide) rfl rfl rfl (Nat.le_of_ble_eq_true rfl) dX8_takeNumber_20 (fun r_7 q_6 w_8 => ?_)
  obtain ⟨ew_8, hw_8⟩ := w_8
  subst ew_8
  refine wa_istore_n B [(2, .int r_7), (1, .int 1), (0, .ref a0)] dX8_takeNumber_23 rfl (by decide) rfl ?_
  have z_12 : q_3.1 a0 3 = (-1) := ((show q_3.1 a0 3 = q_1.1 a0 3 from by rw [eq_3]; exact sg_pI_k (by decide))).trans (z_2)
  have Lp_24_13 : ∀ (n : Nat) (v_9 : Int32) (v_10 : Int32) (q_11 : Sg), sx_V h L q_11 → sx_fr h L (fun a => a = a0 ∧ h.1 a = 8) q q_11 → q_11.2.2.1 a0 7 = a_5 → ((q_11.1 a_5 1).toInt - (q_11.1 a0 10).toInt : Int).toNat < n → WA l dC dI h L ({ frames := 1, cells := 0, slots := 0, locals := 21 } : Room) 3 Z q_11 24 [(2, .int v_9), (1, .int v_10), (0, .ref a0)] [] := by
    intro n
    induction n with
    | zero =>
      intro v_9 v_10 q_11 hV_q_11 hF_q_11 p0_q_11 hn
      exact absurd hn (Nat.not_lt_zero _)
    | succ n ih_14 =>
      intro v_9 v_10 q_11 hV_q_11 hF_q_11 p0_q_11 hn
      refine wa_aload_n B dX8_takeNumber_24 rfl 2 rfl ?_
      refine wa_getI B (C := RX8) (T := TX8) (N := 11) iq_X8_takeNumber_X8 ha0 ka0 (by decide) rfl 10 (by decide) (by decide) (by decide +kernel) rfl (by decide) (v := (q_11.1 a0 10)) rfl dX8_takeNumber_25 ?_
      refine wa_aload_n B dX8_takeNumber_28 rfl 2 rfl ?_
      refine wa_getR B (C := RX8) (T := TX8) (N := 11) iq_X8_takeNumber_X8 ha0 ka0 (by decide) rfl 7 (by decide) (by decide) (by decide +kernel) rfl (fun _ _ _ => rfl) (v := a_5) p0_q_11 dX8_takeNumber_29 ?_
      refine wa_getI B (C := RX7) (T := TX7) (N := 2) iq_X8_takeNumber_X7 ha_5 ka_5 (by decide) rfl 1 (by decide) (by decide) (by decide +kernel) rfl (by decide) (v := (q_11.1 a_5 1)) rfl dX8_takeNumber_32 ?_
      obtain ⟨a_16, ea_16, ha_16, ka_16⟩ := hV_q_11.ref (t := 300) ha_5 ka_5 0 rfl (by decide)
      have g_15 : (0 : Int) ≤ (q_11.1 a_5 1).toInt ∧ (q_11.1 a_5 1).toInt ≤ (h.2.1 a_16 : Int) := by have z9 := hV_q_11.int ha_5 ka_5 1; rw [ea_16] at z9; exact z9
      have l_17 : h.2.1 a_16 ≤ 5000 := hV_q_11.len ha_16
      refine wa_icmp_ge B 123 dX8_takeNumber_35 (by decide) (fun (t_18 : (q_11.1 a_5 1).toInt ≤ (q_11.1 a0 10).toInt) => ?_) (fun (t_18 : ¬ (q_11.1 a_5 1).toInt ≤ (q_11.1 a0 10).toInt) => ?_)
      · refine wa_aload_n B dX8_takeNumber_123 rfl 2 rfl ?_
        refine wa_iload_n B dX8_takeNumber_124 rfl 1 rfl ?_
        have Jn_146_20 : ∀  (v_19 : Int32), WA l dC dI h L ({ frames := 1, cells := 0, slots := 0, locals := 21 } : Room) 3 Z q_11 146 [(2, .int v_9), (1, .int v_10), (0, .ref a0)] [.int v_19, .ref a0] := by
          intro v_19
          refine wa_putI B (C := RX8) (T := TX8) (N := 11) iq_X8_takeNumber_X8 ha0 ka0 (by decide) rfl 0 (by decide) (by decide) (by decide +kernel) rfl (by decide) (v := v_19) (ty := .int) tyX8 tyX8_ok nmX8 rfl (by decide +kernel) rfl rfl dX8_takeNumber_146 (fun q_21 eq_21 => ?_)
          have hV_q_21 : sx_V h L q_21 := by rw [eq_21]; exact hV_q_11.pI ka0 trivial
          have hF_q_21 : sx_fr h L (fun a => a = a0 ∧ h.1 a = 8) q q_21 := hF_q_11.tr (by rw [eq_21]; exact sx_fr.pI (show a0 = a0 ∧ h.1 a0 = 8 from by omega))
          have z_22 : q_21.1 a0 0 = v_19 := by rw [eq_21]; exact sg_pI_e
          exact hret _ _ _ dX8_takeNumber_149 ⟨hV_q_21, hF_q_21⟩
        refine wa_if_eq B 145 dX8_takeNumber_125 (by decide) (fun (t_23 : v_10.toInt = 0) => ?_) (fun (t_23 : ¬ v_10.toInt = 0) => ?_)
        · refine wa_iconst B 1 dX8_takeNumber_145 (by decide) ?_
          exact Jn_146_20 1
        · refine wa_aload_n B dX8_takeNumber_128 rfl 2 rfl ?_
          refine wa_getI B (C := RX8) (T := TX8) (N := 11) iq_X8_takeNumber_X8 ha0 ka0 (by decide) rfl 10 (by decide) (by decide) (by decide +kernel) rfl (by decide) (v := (q_11.1 a0 10)) rfl dX8_takeNumber_129 ?_
          refine wa_aload_n B dX8_takeNumber_132 rfl 2 rfl ?_
          refine wa_getI B (C := RX8) (T := TX8) (N := 11) iq_X8_takeNumber_X8 ha0 ka0 (by decide) rfl 1 (by decide) (by decide) (by decide +kernel) rfl (by decide) (v := (q_11.1 a0 1)) rfl dX8_takeNumber_133 ?_
          refine wa_isub B dX8_takeNumber_136 (fun v_24 ev_24 => ?_)
          refine wa_iconst B 2 dX8_takeNumber_137 (by decide) ?_
          refine wa_icmp_gt B 145 dX8_takeNumber_138 (by decide) (fun (t_25 : 2 < v_24.toInt) => ?_) (fun (t_25 : ¬ 2 < v_24.toInt) => ?_)
          · refine wa_iconst B 1 dX8_takeNumber_145 (by decide) ?_
            exact Jn_146_20 1
          · refine wa_iconst B 3 dX8_takeNumber_141 (by decide) ?_
            refine wa_goto B 146 dX8_takeNumber_142 (by decide) ?_
            exact Jn_146_20 3
      · refine wa_aload_n B dX8_takeNumber_38 rfl 2 rfl ?_
        refine wa_iload_n B dX8_takeNumber_39 rfl 0 rfl ?_
        refine wa_callVi B (x := (RX8, TX8, 11)) (As := [.int v_9]) (rest := []) (k_X8_isDigit l dC dI h L hN q_11 hV_q_11 (a0 := a0) ha0 ka0 v_9  ) (cwV 1 B.1.2.2.2.2 gX8_takeNumber_X8_isDigit rfl rfl rfl (by decide +kernel) ⟨Nat.le_of_ble_eq_true rfl, Nat.le_of_ble_eq_true rfl⟩) ha0 ka0 (by decide) rfl rfl rfl (Nat.le_of_ble_eq_true rfl) dX8_takeNumber_40 (fun r_27 q_26 w_28 => ?_)
        obtain ⟨ew_28, hw_28⟩ := w_28
        subst ew_28
        have Jn_53_29 : ∀ (_ : Unit), WA l dC dI h L ({ frames := 1, cells := 0, slots := 0, locals := 21 } : Room) 3 Z q_11 53 [(2, .int v_9), (1, .int v_10), (0, .ref a0)] [] := by
          intro _
          refine wa_iload_n B dX8_takeNumber_53 rfl 1 rfl ?_
          have Jn_70_31 : ∀  (v_30 : Int32), WA l dC dI h L ({ frames := 1, cells := 0, slots := 0, locals := 21 } : Room) 3 Z q_11 70 [(2, .int v_9), (1, .int v_10), (0, .ref a0)] [.int v_30] := by
            intro v_30
            refine wa_istore_n B [(1, .int v_30), (2, .int v_9), (0, .ref a0)] dX8_takeNumber_70 rfl (by decide) rfl ?_
            refine wa_aload_n B dX8_takeNumber_71 rfl 2 rfl ?_
            refine wa_aload_n B dX8_takeNumber_72 rfl 2 rfl ?_
            refine wa_getI B (C := RX8) (T := TX8) (N := 11) iq_X8_takeNumber_X8 ha0 ka0 (by decide) rfl 4 (by decide) (by decide) (by decide +kernel) rfl (by decide) (v := (q_11.1 a0 4)) rfl dX8_takeNumber_73 ?_
            refine wa_putI B (C := RX8) (T := TX8) (N := 11) iq_X8_takeNumber_X8 ha0 ka0 (by decide) rfl 3 (by decide) (by decide) (by decide +kernel) rfl (by decide) (v := (q_11.1 a0 4)) (ty := .int) tyX8 tyX8_ok nmX8 rfl (by decide +kernel) rfl rfl dX8_takeNumber_76 (fun q_32 eq_32 => ?_)
            have hV_q_32 : sx_V h L q_32 := by rw [eq_32]; exact hV_q_11.pI ka0 trivial
            have hF_q_32 : sx_fr h L (fun a => a = a0 ∧ h.1 a = 8) q q_32 := hF_q_11.tr (by rw [eq_32]; exact sx_fr.pI (show a0 = a0 ∧ h.1 a0 = 8 from by omega))
            have z_33 : q_32.1 a0 3 = (q_11.1 a0 4) := by rw [eq_32]; exact sg_pI_e
            refine wa_aload_n B dX8_takeNumber_79 rfl 2 rfl ?_
            refine wa_iload_n B dX8_takeNumber_80 rfl 1 rfl ?_
            refine wa_bipush B 63 dX8_takeNumber_81 (by decide) ?_
            have Jn_95_35 : ∀  (v_34 : Int32), WA l dC dI h L ({ frames := 1, cells := 0, slots := 0, locals := 21 } : Room) 3 Z q_32 95 [(1, .int v_30), (2, .int v_9), (0, .ref a0)] [.int v_34, .ref a0] := by
              intro v_34
              refine wa_putI B (C := RX8) (T := TX8) (N := 11) iq_X8_takeNumber_X8 ha0 ka0 (by decide) rfl 4 (by decide) (by decide) (by decide +kernel) rfl (by decide) (v := v_34) (ty := .int) tyX8 tyX8_ok nmX8 rfl (by decide +kernel) rfl rfl dX8_takeNumber_95 (fun q_36 eq_36 => ?_)
              have hV_q_36 : sx_V h L q_36 := by rw [eq_36]; exact hV_q_32.pI ka0 trivial
              have hF_q_36 : sx_fr h L (fun a => a = a0 ∧ h.1 a = 8) q q_36 := hF_q_32.tr (by rw [eq_36]; exact sx_fr.pI (show a0 = a0 ∧ h.1 a0 = 8 from by omega))
              have z_37 : q_36.1 a0 4 = v_34 := by rw [eq_36]; exact sg_pI_e
              refine wa_aload_n B dX8_takeNumber_98 rfl 2 rfl ?_
              refine wa_dup B dX8_takeNumber_99 rfl ?_
              have z_38 : q_36.1 a0 10 = q_11.1 a0 10 := ((show q_36.1 a0 10 = q_32.1 a0 10 from by rw [eq_36]; exact sg_pI_k (by decide))).trans ((show q_32.1 a0 10 = q_11.1 a0 10 from by rw [eq_32]; exact sg_pI_k (by decide)))
              refine wa_getI B (C := RX8) (T := TX8) (N := 11) iq_X8_takeNumber_X8 ha0 ka0 (by decide) rfl 10 (by decide) (by decide) (by decide +kernel) rfl (by decide) (v := (q_11.1 a0 10)) z_38 dX8_takeNumber_100 ?_
              refine wa_iconst B 1 dX8_takeNumber_103 (by decide) ?_
              refine wa_iadd B dX8_takeNumber_104 (fun v_39 ev_39 => ?_)
              refine wa_putI B (C := RX8) (T := TX8) (N := 11) iq_X8_takeNumber_X8 ha0 ka0 (by decide) rfl 10 (by decide) (by decide) (by decide +kernel) rfl (by decide) (v := v_39) (ty := .int) tyX8 tyX8_ok nmX8 rfl (by decide +kernel) rfl rfl dX8_takeNumber_105 (fun q_40 eq_40 => ?_)
              have hV_q_40 : sx_V h L q_40 := by rw [eq_40]; exact hV_q_36.pI ka0 trivial
              have hF_q_40 : sx_fr h L (fun a => a = a0 ∧ h.1 a = 8) q q_40 := hF_q_36.tr (by rw [eq_40]; exact sx_fr.pI (show a0 = a0 ∧ h.1 a0 = 8 from by omega))
              have z_41 : q_40.1 a0 10 = v_39 := by rw [eq_40]; exact sg_pI_e
              refine wa_aload_n B dX8_takeNumber_108 rfl 2 rfl ?_
              have z_42 : q_40.2.2.1 a0 7 = a_5 := ((show q_40.2.2.1 a0 7 = q_36.2.2.1 a0 7 from by rw [eq_40]; rfl)).trans (((show q_36.2.2.1 a0 7 = q_32.2.2.1 a0 7 from by rw [eq_36]; rfl)).trans (((show q_32.2.2.1 a0 7 = q_11.2.2.1 a0 7 from by rw [eq_32]; rfl)).trans (p0_q_11)))
              refine wa_getR B (C := RX8) (T := TX8) (N := 11) iq_X8_takeNumber_X8 ha0 ka0 (by decide) rfl 7 (by decide) (by decide) (by decide +kernel) rfl (fun _ _ _ => rfl) (v := a_5) z_42 dX8_takeNumber_109 ?_
              refine wa_aload_n B dX8_takeNumber_112 rfl 2 rfl ?_
              refine wa_getI B (C := RX8) (T := TX8) (N := 11) iq_X8_takeNumber_X8 ha0 ka0 (by decide) rfl 10 (by decide) (by decide) (by decide +kernel) rfl (by decide) (v := v_39) z_41 dX8_takeNumber_113 ?_
              refine wa_callVi B (x := (RX7, TX7, 2)) (As := [.int v_39]) (rest := []) (k_X7_byteAt l dC dI h L hN q_40 hV_q_40 (a0 := a_5) ha_5 ka_5 v_39  ) (cwV 1 B.1.2.2.2.2 gX8_takeNumber_X7_byteAt rfl rfl rfl (by decide +kernel) ⟨Nat.le_of_ble_eq_true rfl, Nat.le_of_ble_eq_true rfl⟩) ha_5 ka_5 (by decide) rfl rfl rfl (Nat.le_of_ble_eq_true rfl) dX8_takeNumber_116 (fun r_44 q_43 w_45 => ?_)
              obtain ⟨ew_45, hw_45⟩ := w_45
              subst ew_45
              refine wa_istore_n B [(2, .int r_44), (1, .int v_30), (0, .ref a0)] dX8_takeNumber_119 rfl (by decide) rfl ?_
              refine wa_goto B 24 dX8_takeNumber_120 (by decide) ?_
              have y_46 : (q_40.1 a0 10).toInt = v_39.toInt := by rw [z_41]
              have tv_39 : v_39.toInt = (q_11.1 a0 10).toInt + 1 := by have b0 := zx_bd (q_11.1 a0 10); rw [ev_39]; exact zx_add (show (-2147483648 : Int) ≤ (q_11.1 a0 10).toInt + 1 by omega) (show (q_11.1 a0 10).toInt + 1 < (2147483648 : Int) by omega)
              have z_47 : q_40.1 a_5 1 = q_11.1 a_5 1 := ((show q_40.1 a_5 1 = q_36.1 a_5 1 from by rw [eq_40]; exact sg_pI_k (by decide))).trans (((show q_36.1 a_5 1 = q_32.1 a_5 1 from by rw [eq_36]; exact sg_pI_k (by decide))).trans ((show q_32.1 a_5 1 = q_11.1 a_5 1 from by rw [eq_32]; exact sg_pI_k (by decide))))
              have y_48 : (q_40.1 a_5 1).toInt = (q_11.1 a_5 1).toInt := by rw [z_47]
              exact ih_14 r_44 v_30 q_40 hV_q_40 hF_q_40 z_42 (show ((q_40.1 a_5 1).toInt - (q_40.1 a0 10).toInt : Int).toNat < _ from by omega)
            refine wa_icmp_ne B 91 dX8_takeNumber_83 (by decide) (fun (t_49 : ¬ v_9.toInt = 63) => ?_) (fun (t_49 : v_9.toInt = 63) => ?_)
            · refine wa_iload_n B dX8_takeNumber_91 rfl 1 rfl ?_
              refine wa_bipush B 48 dX8_takeNumber_92 (by decide) ?_
              refine wa_isub B dX8_takeNumber_94 (fun v_50 ev_50 => ?_)
              exact Jn_95_35 v_50
            · refine wa_bipush B 10 dX8_takeNumber_86 (by decide) ?_
              refine wa_goto B 95 dX8_takeNumber_88 (by decide) ?_
              exact Jn_95_35 10
          refine wa_if_eq B 69 dX8_takeNumber_54 (by decide) (fun (t_51 : v_10.toInt = 0) => ?_) (fun (t_51 : ¬ v_10.toInt = 0) => ?_)
          · refine wa_iconst B 0 dX8_takeNumber_69 (by decide) ?_
            exact Jn_70_31 0
          · refine wa_aload_n B dX8_takeNumber_57 rfl 2 rfl ?_
            refine wa_iload_n B dX8_takeNumber_58 rfl 0 rfl ?_
            refine wa_callVi B (x := (RX8, TX8, 11)) (As := [.int v_9]) (rest := []) (k_X8_isDigit l dC dI h L hN q_11 hV_q_11 (a0 := a0) ha0 ka0 v_9  ) (cwV 1 B.1.2.2.2.2 gX8_takeNumber_X8_isDigit rfl rfl rfl (by decide +kernel) ⟨Nat.le_of_ble_eq_true rfl, Nat.le_of_ble_eq_true rfl⟩) ha0 ka0 (by decide) rfl rfl rfl (Nat.le_of_ble_eq_true rfl) dX8_takeNumber_59 (fun r_53 q_52 w_54 => ?_)
            obtain ⟨ew_54, hw_54⟩ := w_54
            subst ew_54
            refine wa_if_eq B 69 dX8_takeNumber_62 (by decide) (fun (t_55 : r_53.toInt = 0) => ?_) (fun (t_55 : ¬ r_53.toInt = 0) => ?_)
            · refine wa_iconst B 0 dX8_takeNumber_69 (by decide) ?_
              exact Jn_70_31 0
            · refine wa_iconst B 1 dX8_takeNumber_65 (by decide) ?_
              refine wa_goto B 70 dX8_takeNumber_66 (by decide) ?_
              exact Jn_70_31 1
        refine wa_if_ne B 53 dX8_takeNumber_43 (by decide) (fun (t_56 : ¬ r_27.toInt = 0) => ?_) (fun (t_56 : r_27.toInt = 0) => ?_)
        · exact Jn_53_29 ()
        · refine wa_iload_n B dX8_takeNumber_46 rfl 0 rfl ?_
          refine wa_callSi B (As := [.int v_9]) (rest := []) (k_X8_isSmallLetter l dC dI h L hN q_11 hV_q_11 v_9  ) (va_cwS 1 B.1.2.2.2.2 gX8_takeNumber_X8_isSmallLetter rfl rfl rfl (by decide +kernel) ⟨Nat.le_of_ble_eq_true rfl, Nat.le_of_ble_eq_true rfl⟩) rfl rfl (Nat.le_of_ble_eq_true rfl) dX8_takeNumber_47 (fun r_58 q_57 w_59 => ?_)
          obtain ⟨ew_59, hw_59⟩ := w_59
          subst ew_59
          refine wa_if_eq B 123 dX8_takeNumber_50 (by decide) (fun (t_60 : r_58.toInt = 0) => ?_) (fun (t_60 : ¬ r_58.toInt = 0) => ?_)
          · refine wa_aload_n B dX8_takeNumber_123 rfl 2 rfl ?_
            refine wa_iload_n B dX8_takeNumber_124 rfl 1 rfl ?_
            have Jn_146_62 : ∀  (v_61 : Int32), WA l dC dI h L ({ frames := 1, cells := 0, slots := 0, locals := 21 } : Room) 3 Z q_11 146 [(2, .int v_9), (1, .int v_10), (0, .ref a0)] [.int v_61, .ref a0] := by
              intro v_61
              refine wa_putI B (C := RX8) (T := TX8) (N := 11) iq_X8_takeNumber_X8 ha0 ka0 (by decide) rfl 0 (by decide) (by decide) (by decide +kernel) rfl (by decide) (v := v_61) (ty := .int) tyX8 tyX8_ok nmX8 rfl (by decide +kernel) rfl rfl dX8_takeNumber_146 (fun q_63 eq_63 => ?_)
              have hV_q_63 : sx_V h L q_63 := by rw [eq_63]; exact hV_q_11.pI ka0 trivial
              have hF_q_63 : sx_fr h L (fun a => a = a0 ∧ h.1 a = 8) q q_63 := hF_q_11.tr (by rw [eq_63]; exact sx_fr.pI (show a0 = a0 ∧ h.1 a0 = 8 from by omega))
              have z_64 : q_63.1 a0 0 = v_61 := by rw [eq_63]; exact sg_pI_e
              exact hret _ _ _ dX8_takeNumber_149 ⟨hV_q_63, hF_q_63⟩
            refine wa_if_eq B 145 dX8_takeNumber_125 (by decide) (fun (t_65 : v_10.toInt = 0) => ?_) (fun (t_65 : ¬ v_10.toInt = 0) => ?_)
            · refine wa_iconst B 1 dX8_takeNumber_145 (by decide) ?_
              exact Jn_146_62 1
            · refine wa_aload_n B dX8_takeNumber_128 rfl 2 rfl ?_
              refine wa_getI B (C := RX8) (T := TX8) (N := 11) iq_X8_takeNumber_X8 ha0 ka0 (by decide) rfl 10 (by decide) (by decide) (by decide +kernel) rfl (by decide) (v := (q_11.1 a0 10)) rfl dX8_takeNumber_129 ?_
              refine wa_aload_n B dX8_takeNumber_132 rfl 2 rfl ?_
              refine wa_getI B (C := RX8) (T := TX8) (N := 11) iq_X8_takeNumber_X8 ha0 ka0 (by decide) rfl 1 (by decide) (by decide) (by decide +kernel) rfl (by decide) (v := (q_11.1 a0 1)) rfl dX8_takeNumber_133 ?_
              refine wa_isub B dX8_takeNumber_136 (fun v_66 ev_66 => ?_)
              refine wa_iconst B 2 dX8_takeNumber_137 (by decide) ?_
              refine wa_icmp_gt B 145 dX8_takeNumber_138 (by decide) (fun (t_67 : 2 < v_66.toInt) => ?_) (fun (t_67 : ¬ 2 < v_66.toInt) => ?_)
              · refine wa_iconst B 1 dX8_takeNumber_145 (by decide) ?_
                exact Jn_146_62 1
              · refine wa_iconst B 3 dX8_takeNumber_141 (by decide) ?_
                refine wa_goto B 146 dX8_takeNumber_142 (by decide) ?_
                exact Jn_146_62 3
          · exact Jn_53_29 ()
  exact Lp_24_13 _ r_7 1 q_3 hV_q_3 hF_q_3 ea_5 (Nat.lt_succ_self _)
theorem iq_X8_advance_X7 : ∀ w ∈ wsX70, w ∈ wsX8_advance := fun _ h => List.mem_cons_of_mem _ (List.mem_append_right _ h)
theorem iq_X8_advance_X8 : ∀ w ∈ wsX80, w ∈ wsX8_advance := fun _ h => List.mem_cons_of_mem _ (List.mem_append_left _ (List.mem_append_right _ h))
set_option maxHeartbeats 4000000 in
set_option maxRecDepth 100000 in
theorem k_X8_advance (l : Launch) (dC : Nat → ClassId) (dI : Nat → Nat → Nat) (h : Sh) (L : List Nat) (hN : sx_nd L) (q : Sg) (hV : sx_V h L q) {a0 : Nat} (ha0 : a0 ∈ L) (ka0 : h.1 a0 = 8)   : CMv l dC dI h L yX8_advance wsX8_advance ({ frames := 2, cells := 0, slots := 0, locals := 43 } : Room) q [.ref a0] (fun q' => sx_V h L q' ∧ sx_fr h L (fun a => a = a0 ∧ h.1 a = 8) q q') := by
  refine cm_v (cc := cX8_advance) (mL := 3) (own := RX8) hN (by decide) rfl rfl (Nat.le_of_ble_eq_true rfl) (fun Z B hret => ?_)
  have hF : sx_fr h L (fun a => a = a0 ∧ h.1 a = 8) q q := sx_fr.rf
  show WA l dC dI h L ({ frames := 2, cells := 0, slots := 0, locals := 43 } : Room) 3 Z q 0 [(0, .ref a0)] []
  refine wa_aload_n B dX8_advance_0 rfl 0 rfl ?_
  obtain ⟨a_1, ea_1, ha_1, ka_1⟩ := hV.ref (t := 7) ha0 ka0 7 rfl (by decide)
  refine wa_getR B (C := RX8) (T := TX8) (N := 11) iq_X8_advance_X8 ha0 ka0 (by decide) rfl 7 (by decide) (by decide) (by decide +kernel) rfl (fun _ _ _ => rfl) (v := a_1) ea_1 dX8_advance_1 ?_
  refine wa_getI B (C := RX7) (T := TX7) (N := 2) iq_X8_advance_X7 ha_1 ka_1 (by decide) rfl 1 (by decide) (by decide) (by decide +kernel) rfl (by decide) (v := (q.1 a_1 1)) rfl dX8_advance_4 ?_
  obtain ⟨a_3, ea_3, ha_3, ka_3⟩ := hV.ref (t := 300) ha_1 ka_1 0 rfl (by decide)
  have g_2 : (0 : Int) ≤ (q.1 a_1 1).toInt ∧ (q.1 a_1 1).toInt ≤ (h.2.1 a_3 : Int) := by have z9 := hV.int ha_1 ka_1 1; rw [ea_3] at z9; exact z9
  have l_4 : h.2.1 a_3 ≤ 5000 := hV.len ha_3
  refine wa_aload_n B dX8_advance_7 rfl 0 rfl ?_
  refine wa_getI B (C := RX8) (T := TX8) (N := 11) iq_X8_advance_X8 ha0 ka0 (by decide) rfl 8 (by decide) (by decide) (by decide +kernel) rfl (by decide) (v := (q.1 a0 8)) rfl dX8_advance_8 ?_
  refine wa_mmin B (by decide +kernel) (by decide +kernel) (by decide +kernel) (by decide +kernel) (Nat.le_of_ble_eq_true rfl) (Nat.le_of_ble_eq_true rfl) dX8_advance_11 (fun v_5 ev_5 => ?_)
  have gv_5 : (v_5.toInt = (q.1 a_1 1).toInt ∨ v_5.toInt = (q.1 a0 8).toInt) ∧ (q.1 a_1 1).toInt ≥ v_5.toInt ∧ (q.1 a0 8).toInt ≥ v_5.toInt := by rw [ev_5]; exact zx_min
  refine wa_istore_n B [(1, .int v_5), (0, .ref a0)] dX8_advance_14 rfl (by decide) rfl ?_
  have Lp_15_7 : ∀ (n : Nat) (q_6 : Sg), sx_V h L q_6 → sx_fr h L (fun a => a = a0 ∧ h.1 a = 8) q q_6 → q_6.1 a_1 1 = (q.1 a_1 1) → q_6.1 a0 8 = (q.1 a0 8) → q_6.2.2.1 a0 7 = a_1 → q_6.2.2.1 a_1 0 = a_3 → (v_5.toInt - (q_6.1 a0 10).toInt : Int).toNat < n → WA l dC dI h L ({ frames := 2, cells := 0, slots := 0, locals := 43 } : Room) 3 Z q_6 15 [(1, .int v_5), (0, .ref a0)] [] := by
    intro n
    induction n with
    | zero =>
      intro q_6 hV_q_6 hF_q_6 p0_q_6 p1_q_6 p2_q_6 p3_q_6 hn
      exact absurd hn (Nat.not_lt_zero _)
    | succ n ih_8 =>
      intro q_6 hV_q_6 hF_q_6 p0_q_6 p1_q_6 p2_q_6 p3_q_6 hn
      refine wa_aload_n B dX8_advance_15 rfl 1 rfl ?_
      refine wa_getI B (C := RX8) (T := TX8) (N := 11) iq_X8_advance_X8 ha0 ka0 (by decide) rfl 10 (by decide) (by decide) (by decide +kernel) rfl (by decide) (v := (q_6.1 a0 10)) rfl dX8_advance_16 ?_
      refine wa_iload_n B dX8_advance_19 rfl 0 rfl ?_
      have Jn_53_10 : ∀  (q_9 : Sg), sx_V h L q_9 → sx_fr h L (fun a => a = a0 ∧ h.1 a = 8) q q_9 → q_9.1 a_1 1 = (q.1 a_1 1) → q_9.1 a0 8 = (q.1 a0 8) → q_9.2.2.1 a0 7 = a_1 → q_9.2.2.1 a_1 0 = a_3 → WA l dC dI h L ({ frames := 2, cells := 0, slots := 0, locals := 43 } : Room) 3 Z q_9 53 [(1, .int v_5), (0, .ref a0)] [] := by
        intro q_9 hV_q_9 hF_q_9 p0_q_9 p1_q_9 p2_q_9 p3_q_9
        refine wa_aload_n B dX8_advance_53 rfl 1 rfl ?_
        refine wa_getI B (C := RX8) (T := TX8) (N := 11) iq_X8_advance_X8 ha0 ka0 (by decide) rfl 10 (by decide) (by decide) (by decide +kernel) rfl (by decide) (v := (q_9.1 a0 10)) rfl dX8_advance_54 ?_
        refine wa_iload_n B dX8_advance_57 rfl 0 rfl ?_
        refine wa_icmp_lt B 72 dX8_advance_58 (by decide) (fun (t_11 : (q_9.1 a0 10).toInt < v_5.toInt) => ?_) (fun (t_11 : ¬ (q_9.1 a0 10).toInt < v_5.toInt) => ?_)
        · refine wa_aload_n B dX8_advance_72 rfl 1 rfl ?_
          refine wa_aload_n B dX8_advance_73 rfl 1 rfl ?_
          refine wa_getI B (C := RX8) (T := TX8) (N := 11) iq_X8_advance_X8 ha0 ka0 (by decide) rfl 10 (by decide) (by decide) (by decide +kernel) rfl (by decide) (v := (q_9.1 a0 10)) rfl dX8_advance_74 ?_
          refine wa_putI B (C := RX8) (T := TX8) (N := 11) iq_X8_advance_X8 ha0 ka0 (by decide) rfl 1 (by decide) (by decide) (by decide +kernel) rfl (by decide) (v := (q_9.1 a0 10)) (ty := .int) tyX8 tyX8_ok nmX8 rfl (by decide +kernel) rfl rfl dX8_advance_77 (fun q_12 eq_12 => ?_)
          have hV_q_12 : sx_V h L q_12 := by rw [eq_12]; exact hV_q_9.pI ka0 trivial
          have hF_q_12 : sx_fr h L (fun a => a = a0 ∧ h.1 a = 8) q q_12 := hF_q_9.tr (by rw [eq_12]; exact sx_fr.pI (show a0 = a0 ∧ h.1 a0 = 8 from by omega))
          have z_13 : q_12.1 a0 1 = (q_9.1 a0 10) := by rw [eq_12]; exact sg_pI_e
          refine wa_aload_n B dX8_advance_80 rfl 1 rfl ?_
          have z_14 : q_12.2.2.1 a0 7 = a_1 := ((show q_12.2.2.1 a0 7 = q_9.2.2.1 a0 7 from by rw [eq_12]; rfl)).trans (p2_q_9)
          refine wa_getR B (C := RX8) (T := TX8) (N := 11) iq_X8_advance_X8 ha0 ka0 (by decide) rfl 7 (by decide) (by decide) (by decide +kernel) rfl (fun _ _ _ => rfl) (v := a_1) z_14 dX8_advance_81 ?_
          refine wa_aload_n B dX8_advance_84 rfl 1 rfl ?_
          have z_15 : q_12.1 a0 10 = q_9.1 a0 10 := (show q_12.1 a0 10 = q_9.1 a0 10 from by rw [eq_12]; exact sg_pI_k (by decide))
          refine wa_getI B (C := RX8) (T := TX8) (N := 11) iq_X8_advance_X8 ha0 ka0 (by decide) rfl 10 (by decide) (by decide) (by decide +kernel) rfl (by decide) (v := (q_9.1 a0 10)) z_15 dX8_advance_85 ?_
          refine wa_callVi B (x := (RX7, TX7, 2)) (As := [.int (q_9.1 a0 10)]) (rest := []) (k_X7_byteAt l dC dI h L hN q_12 hV_q_12 (a0 := a_1) ha_1 ka_1 (q_9.1 a0 10)  ) (cwV 1 B.1.2.2.2.2 gX8_advance_X7_byteAt rfl rfl rfl (by decide +kernel) ⟨Nat.le_of_ble_eq_true rfl, Nat.le_of_ble_eq_true rfl⟩) ha_1 ka_1 (by decide) rfl rfl rfl (Nat.le_of_ble_eq_true rfl) dX8_advance_88 (fun r_17 q_16 w_18 => ?_)
          obtain ⟨ew_18, hw_18⟩ := w_18
          subst ew_18
          refine wa_istore_n B [(2, .int r_17), (1, .int v_5), (0, .ref a0)] dX8_advance_91 rfl (by decide) rfl ?_
          refine wa_iload_n B dX8_advance_92 rfl 0 rfl ?_
          refine wa_callSi B (As := [.int r_17]) (rest := []) (k_X8_isSmallLetter l dC dI h L hN q_12 hV_q_12 r_17  ) (va_cwS 1 B.1.2.2.2.2 gX8_advance_X8_isSmallLetter rfl rfl rfl (by decide +kernel) ⟨Nat.le_of_ble_eq_true rfl, Nat.le_of_ble_eq_true rfl⟩) rfl rfl (Nat.le_of_ble_eq_true rfl) dX8_advance_93 (fun r_20 q_19 w_21 => ?_)
          obtain ⟨ew_21, hw_21⟩ := w_21
          subst ew_21
          refine wa_if_eq B 106 dX8_advance_96 (by decide) (fun (t_22 : r_20.toInt = 0) => ?_) (fun (t_22 : ¬ r_20.toInt = 0) => ?_)
          · refine wa_aload_n B dX8_advance_106 rfl 2 rfl ?_
            refine wa_iload_n B dX8_advance_107 rfl 0 rfl ?_
            refine wa_callVi B (x := (RX8, TX8, 11)) (As := [.int r_17]) (rest := []) (k_X8_isDigit l dC dI h L hN q_12 hV_q_12 (a0 := a0) ha0 ka0 r_17  ) (cwV 1 B.1.2.2.2.2 gX8_advance_X8_isDigit rfl rfl rfl (by decide +kernel) ⟨Nat.le_of_ble_eq_true rfl, Nat.le_of_ble_eq_true rfl⟩) ha0 ka0 (by decide) rfl rfl rfl (Nat.le_of_ble_eq_true rfl) dX8_advance_108 (fun r_24 q_23 w_25 => ?_)
            obtain ⟨ew_25, hw_25⟩ := w_25
            subst ew_25
            refine wa_if_eq B 121 dX8_advance_111 (by decide) (fun (t_26 : r_24.toInt = 0) => ?_) (fun (t_26 : ¬ r_24.toInt = 0) => ?_)
            · refine wa_aload_n B dX8_advance_121 rfl 2 rfl ?_
              refine wa_iload_n B dX8_advance_122 rfl 0 rfl ?_
              refine wa_callVv B (x := (RX8, TX8, 11)) (As := [.int r_17]) (rest := []) (k_X8_takeSign l dC dI h L hN q_12 hV_q_12 (a0 := a0) ha0 ka0 r_17  ) (cwV 1 B.1.2.2.2.2 gX8_advance_X8_takeSign rfl rfl rfl (by decide +kernel) ⟨Nat.le_of_ble_eq_true rfl, Nat.le_of_ble_eq_true rfl⟩) ha0 ka0 (by decide) rfl rfl rfl (Nat.le_of_ble_eq_true rfl) dX8_advance_123 (fun q_27 w_28 => ?_)
              obtain ⟨hV_q_27, h2_q_27⟩ := w_28
              have hF_q_27 : sx_fr h L (fun a => a = a0 ∧ h.1 a = 8) q q_27 := hF_q_12.tr (h2_q_27.mono (fun a (z : a = a0 ∧ h.1 a = 8) => (show a = a0 ∧ h.1 a = 8 from by omega)))
              exact hret _ _ _ dX8_advance_126 ⟨hV_q_27, hF_q_27⟩
            · refine wa_aload_n B dX8_advance_114 rfl 2 rfl ?_
              refine wa_callVv B (x := (RX8, TX8, 11)) (As := []) (rest := []) (k_X8_takeNumber l dC dI h L hN q_12 hV_q_12 (a0 := a0) ha0 ka0  ) (cwV 0 B.1.2.2.2.2 gX8_advance_X8_takeNumber rfl rfl rfl (by decide +kernel) ⟨Nat.le_of_ble_eq_true rfl, Nat.le_of_ble_eq_true rfl⟩) ha0 ka0 (by decide) rfl rfl rfl (Nat.le_of_ble_eq_true rfl) dX8_advance_115 (fun q_29 w_30 => ?_)
              obtain ⟨hV_q_29, h2_q_29⟩ := w_30
              have hF_q_29 : sx_fr h L (fun a => a = a0 ∧ h.1 a = 8) q q_29 := hF_q_12.tr (h2_q_29.mono (fun a (z : a = a0 ∧ h.1 a = 8) => (show a = a0 ∧ h.1 a = 8 from by omega)))
              refine wa_goto B 126 dX8_advance_118 (by decide) ?_
              exact hret _ _ _ dX8_advance_126 ⟨hV_q_29, hF_q_29⟩
          · refine wa_aload_n B dX8_advance_99 rfl 2 rfl ?_
            refine wa_callVv B (x := (RX8, TX8, 11)) (As := []) (rest := []) (k_X8_takeName l dC dI h L hN q_12 hV_q_12 (a0 := a0) ha0 ka0  ) (cwV 0 B.1.2.2.2.2 gX8_advance_X8_takeName rfl rfl rfl (by decide +kernel) ⟨Nat.le_of_ble_eq_true rfl, Nat.le_of_ble_eq_true rfl⟩) ha0 ka0 (by decide) rfl rfl rfl (Nat.le_of_ble_eq_true rfl) dX8_advance_100 (fun q_31 w_32 => ?_)
            obtain ⟨hV_q_31, h2_q_31⟩ := w_32
            have hF_q_31 : sx_fr h L (fun a => a = a0 ∧ h.1 a = 8) q q_31 := hF_q_12.tr (h2_q_31.mono (fun a (z : a = a0 ∧ h.1 a = 8) => (show a = a0 ∧ h.1 a = 8 from by omega)))
            refine wa_goto B 126 dX8_advance_103 (by decide) ?_
            exact hret _ _ _ dX8_advance_126 ⟨hV_q_31, hF_q_31⟩
        · refine wa_aload_n B dX8_advance_61 rfl 1 rfl ?_
          refine wa_iconst B 0 dX8_advance_62 (by decide) ?_
          refine wa_putI B (C := RX8) (T := TX8) (N := 11) iq_X8_advance_X8 ha0 ka0 (by decide) rfl 0 (by decide) (by decide) (by decide +kernel) rfl (by decide) (v := 0) (ty := .int) tyX8 tyX8_ok nmX8 rfl (by decide +kernel) rfl rfl dX8_advance_63 (fun q_33 eq_33 => ?_)
          have hV_q_33 : sx_V h L q_33 := by rw [eq_33]; exact hV_q_9.pI ka0 trivial
          have hF_q_33 : sx_fr h L (fun a => a = a0 ∧ h.1 a = 8) q q_33 := hF_q_9.tr (by rw [eq_33]; exact sx_fr.pI (show a0 = a0 ∧ h.1 a0 = 8 from by omega))
          have z_34 : q_33.1 a0 0 = 0 := by rw [eq_33]; exact sg_pI_e
          refine wa_aload_n B dX8_advance_66 rfl 1 rfl ?_
          refine wa_iload_n B dX8_advance_67 rfl 0 rfl ?_
          refine wa_putI B (C := RX8) (T := TX8) (N := 11) iq_X8_advance_X8 ha0 ka0 (by decide) rfl 1 (by decide) (by decide) (by decide +kernel) rfl (by decide) (v := v_5) (ty := .int) tyX8 tyX8_ok nmX8 rfl (by decide +kernel) rfl rfl dX8_advance_68 (fun q_35 eq_35 => ?_)
          have hV_q_35 : sx_V h L q_35 := by rw [eq_35]; exact hV_q_33.pI ka0 trivial
          have hF_q_35 : sx_fr h L (fun a => a = a0 ∧ h.1 a = 8) q q_35 := hF_q_33.tr (by rw [eq_35]; exact sx_fr.pI (show a0 = a0 ∧ h.1 a0 = 8 from by omega))
          have z_36 : q_35.1 a0 1 = v_5 := by rw [eq_35]; exact sg_pI_e
          exact hret _ _ _ dX8_advance_71 ⟨hV_q_35, hF_q_35⟩
      refine wa_icmp_ge B 53 dX8_advance_20 (by decide) (fun (t_37 : v_5.toInt ≤ (q_6.1 a0 10).toInt) => ?_) (fun (t_37 : ¬ v_5.toInt ≤ (q_6.1 a0 10).toInt) => ?_)
      · exact Jn_53_10 q_6 hV_q_6 hF_q_6 p0_q_6 p1_q_6 p2_q_6 p3_q_6
      · refine wa_aload_n B dX8_advance_23 rfl 1 rfl ?_
        refine wa_getR B (C := RX8) (T := TX8) (N := 11) iq_X8_advance_X8 ha0 ka0 (by decide) rfl 7 (by decide) (by decide) (by decide +kernel) rfl (fun _ _ _ => rfl) (v := a_1) p2_q_6 dX8_advance_24 ?_
        refine wa_aload_n B dX8_advance_27 rfl 1 rfl ?_
        refine wa_getI B (C := RX8) (T := TX8) (N := 11) iq_X8_advance_X8 ha0 ka0 (by decide) rfl 10 (by decide) (by decide) (by decide +kernel) rfl (by decide) (v := (q_6.1 a0 10)) rfl dX8_advance_28 ?_
        refine wa_callVi B (x := (RX7, TX7, 2)) (As := [.int (q_6.1 a0 10)]) (rest := []) (k_X7_byteAt l dC dI h L hN q_6 hV_q_6 (a0 := a_1) ha_1 ka_1 (q_6.1 a0 10)  ) (cwV 1 B.1.2.2.2.2 gX8_advance_X7_byteAt rfl rfl rfl (by decide +kernel) ⟨Nat.le_of_ble_eq_true rfl, Nat.le_of_ble_eq_true rfl⟩) ha_1 ka_1 (by decide) rfl rfl rfl (Nat.le_of_ble_eq_true rfl) dX8_advance_31 (fun r_39 q_38 w_40 => ?_)
        obtain ⟨ew_40, hw_40⟩ := w_40
        subst ew_40
        refine wa_callSi B (As := [.int r_39]) (rest := []) (k_X8_isBlank l dC dI h L hN q_6 hV_q_6 r_39  ) (va_cwS 1 B.1.2.2.2.2 gX8_advance_X8_isBlank rfl rfl rfl (by decide +kernel) ⟨Nat.le_of_ble_eq_true rfl, Nat.le_of_ble_eq_true rfl⟩) rfl rfl (Nat.le_of_ble_eq_true rfl) dX8_advance_34 (fun r_42 q_41 w_43 => ?_)
        obtain ⟨ew_43, hw_43⟩ := w_43
        subst ew_43
        refine wa_if_eq B 53 dX8_advance_37 (by decide) (fun (t_44 : r_42.toInt = 0) => ?_) (fun (t_44 : ¬ r_42.toInt = 0) => ?_)
        · exact Jn_53_10 q_6 hV_q_6 hF_q_6 p0_q_6 p1_q_6 p2_q_6 p3_q_6
        · refine wa_aload_n B dX8_advance_40 rfl 1 rfl ?_
          refine wa_dup B dX8_advance_41 rfl ?_
          refine wa_getI B (C := RX8) (T := TX8) (N := 11) iq_X8_advance_X8 ha0 ka0 (by decide) rfl 10 (by decide) (by decide) (by decide +kernel) rfl (by decide) (v := (q_6.1 a0 10)) rfl dX8_advance_42 ?_
          refine wa_iconst B 1 dX8_advance_45 (by decide) ?_
          refine wa_iadd B dX8_advance_46 (fun v_45 ev_45 => ?_)
          refine wa_putI B (C := RX8) (T := TX8) (N := 11) iq_X8_advance_X8 ha0 ka0 (by decide) rfl 10 (by decide) (by decide) (by decide +kernel) rfl (by decide) (v := v_45) (ty := .int) tyX8 tyX8_ok nmX8 rfl (by decide +kernel) rfl rfl dX8_advance_47 (fun q_46 eq_46 => ?_)
          have hV_q_46 : sx_V h L q_46 := by rw [eq_46]; exact hV_q_6.pI ka0 trivial
          have hF_q_46 : sx_fr h L (fun a => a = a0 ∧ h.1 a = 8) q q_46 := hF_q_6.tr (by rw [eq_46]; exact sx_fr.pI (show a0 = a0 ∧ h.1 a0 = 8 from by omega))
          have z_47 : q_46.1 a0 10 = v_45 := by rw [eq_46]; exact sg_pI_e
          refine wa_goto B 15 dX8_advance_50 (by decide) ?_
          have y_48 : (q_46.1 a0 10).toInt = v_45.toInt := by rw [z_47]
          have tv_45 : v_45.toInt = (q_6.1 a0 10).toInt + 1 := by have b0 := zx_bd (q_6.1 a0 10); rw [ev_45]; exact zx_add (show (-2147483648 : Int) ≤ (q_6.1 a0 10).toInt + 1 by omega) (show (q_6.1 a0 10).toInt + 1 < (2147483648 : Int) by omega)
          have z_49 : q_46.1 a_1 1 = (q.1 a_1 1) := ((show q_46.1 a_1 1 = q_6.1 a_1 1 from by rw [eq_46]; exact sg_pI_k (by decide))).trans (p0_q_6)
          have z_50 : q_46.1 a0 8 = (q.1 a0 8) := ((show q_46.1 a0 8 = q_6.1 a0 8 from by rw [eq_46]; exact sg_pI_k (by decide))).trans (p1_q_6)
          have z_51 : q_46.2.2.1 a0 7 = a_1 := ((show q_46.2.2.1 a0 7 = q_6.2.2.1 a0 7 from by rw [eq_46]; rfl)).trans (p2_q_6)
          have z_52 : q_46.2.2.1 a_1 0 = a_3 := ((show q_46.2.2.1 a_1 0 = q_6.2.2.1 a_1 0 from by rw [eq_46]; rfl)).trans (p3_q_6)
          exact ih_8 q_46 hV_q_46 hF_q_46 z_49 z_50 z_51 z_52 (show (v_5.toInt - (q_46.1 a0 10).toInt : Int).toNat < _ from by omega)
  exact Lp_15_7 _ q hV hF rfl rfl ea_1 ea_3 (Nat.lt_succ_self _)
