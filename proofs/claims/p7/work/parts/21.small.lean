set_option maxHeartbeats 4000000 in
set_option maxRecDepth 100000 in
theorem k_X8_isBlank (l : Launch) (dC : Nat → ClassId) (dI : Nat → Nat → Nat) (h : Sh) (L : List Nat) (hN : sx_nd L) (q : Sg) (hV : sx_V h L q) (n1 : Int32)   : CMi l dC dI h L yX8_isBlank wsX8_isBlank ({ frames := 0, cells := 0, slots := 0, locals := 0 } : Room) q [.int n1] (fun r q' => q = q' ∧ (r.toInt = 0 ∨ r.toInt = 1)) := by
  refine cm_z (cc := cX8_isBlank) (mL := 1) (own := RX8) hN (by decide) rfl rfl (Nat.le_of_ble_eq_true rfl) (fun Z B hret => ?_)
  show WA l dC dI h L ({ frames := 0, cells := 0, slots := 0, locals := 0 } : Room) 1 Z q 0 [(0, .int n1)] []
  refine wa_iload_n B dX8_isBlank_0 rfl 0 rfl ?_
  refine wa_bipush B 32 dX8_isBlank_1 (by decide) ?_
  refine wa_icmp_eq B 12 dX8_isBlank_3 (by decide) (fun (t_1 : n1.toInt = 32) => ?_) (fun (t_1 : ¬ n1.toInt = 32) => ?_)
  · refine wa_iconst B 1 dX8_isBlank_12 (by decide) ?_
    refine wa_goto B 17 dX8_isBlank_13 (by decide) ?_
    exact hret _ _ _ _ dX8_isBlank_17 (Or.inr rfl) ⟨rfl, (by have h9 : (1 : Int32).toInt = 1 := rfl; first | omega | (refine ⟨?_, ?_⟩ <;> omega) | trivial)⟩
  · refine wa_iload_n B dX8_isBlank_6 rfl 0 rfl ?_
    refine wa_bipush B 10 dX8_isBlank_7 (by decide) ?_
    refine wa_icmp_ne B 16 dX8_isBlank_9 (by decide) (fun (t_2 : ¬ n1.toInt = 10) => ?_) (fun (t_2 : n1.toInt = 10) => ?_)
    · refine wa_iconst B 0 dX8_isBlank_16 (by decide) ?_
      exact hret _ _ _ _ dX8_isBlank_17 (Or.inl rfl) ⟨rfl, (by have h9 : (0 : Int32).toInt = 0 := rfl; first | omega | (refine ⟨?_, ?_⟩ <;> omega) | trivial)⟩
    · refine wa_iconst B 1 dX8_isBlank_12 (by decide) ?_
      refine wa_goto B 17 dX8_isBlank_13 (by decide) ?_
      exact hret _ _ _ _ dX8_isBlank_17 (Or.inr rfl) ⟨rfl, (by have h9 : (1 : Int32).toInt = 1 := rfl; first | omega | (refine ⟨?_, ?_⟩ <;> omega) | trivial)⟩
set_option maxHeartbeats 4000000 in
set_option maxRecDepth 100000 in
theorem k_X8_isSmallLetter (l : Launch) (dC : Nat → ClassId) (dI : Nat → Nat → Nat) (h : Sh) (L : List Nat) (hN : sx_nd L) (q : Sg) (hV : sx_V h L q) (n1 : Int32)   : CMi l dC dI h L yX8_isSmallLetter wsX8_isSmallLetter ({ frames := 0, cells := 0, slots := 0, locals := 0 } : Room) q [.int n1] (fun r q' => q = q' ∧ (r.toInt = 0 ∨ r.toInt = 1)) := by
  refine cm_z (cc := cX8_isSmallLetter) (mL := 1) (own := RX8) hN (by decide) rfl rfl (Nat.le_of_ble_eq_true rfl) (fun Z B hret => ?_)
  show WA l dC dI h L ({ frames := 0, cells := 0, slots := 0, locals := 0 } : Room) 1 Z q 0 [(0, .int n1)] []
  refine wa_iload_n B dX8_isSmallLetter_0 rfl 0 rfl ?_
  refine wa_bipush B 97 dX8_isSmallLetter_1 (by decide) ?_
  refine wa_icmp_lt B 16 dX8_isSmallLetter_3 (by decide) (fun (t_1 : n1.toInt < 97) => ?_) (fun (t_1 : ¬ n1.toInt < 97) => ?_)
  · refine wa_iconst B 0 dX8_isSmallLetter_16 (by decide) ?_
    exact hret _ _ _ _ dX8_isSmallLetter_17 (Or.inl rfl) ⟨rfl, (by have h9 : (0 : Int32).toInt = 0 := rfl; first | omega | (refine ⟨?_, ?_⟩ <;> omega) | trivial)⟩
  · refine wa_iload_n B dX8_isSmallLetter_6 rfl 0 rfl ?_
    refine wa_bipush B 122 dX8_isSmallLetter_7 (by decide) ?_
    refine wa_icmp_gt B 16 dX8_isSmallLetter_9 (by decide) (fun (t_2 : 122 < n1.toInt) => ?_) (fun (t_2 : ¬ 122 < n1.toInt) => ?_)
    · refine wa_iconst B 0 dX8_isSmallLetter_16 (by decide) ?_
      exact hret _ _ _ _ dX8_isSmallLetter_17 (Or.inl rfl) ⟨rfl, (by have h9 : (0 : Int32).toInt = 0 := rfl; first | omega | (refine ⟨?_, ?_⟩ <;> omega) | trivial)⟩
    · refine wa_iconst B 1 dX8_isSmallLetter_12 (by decide) ?_
      refine wa_goto B 17 dX8_isSmallLetter_13 (by decide) ?_
      exact hret _ _ _ _ dX8_isSmallLetter_17 (Or.inr rfl) ⟨rfl, (by have h9 : (1 : Int32).toInt = 1 := rfl; first | omega | (refine ⟨?_, ?_⟩ <;> omega) | trivial)⟩
theorem iq_X8_isDigit_X8 : ∀ w ∈ wsX80, w ∈ wsX8_isDigit := fun _ h => List.mem_cons_of_mem _ (List.mem_append_right _ h)
set_option maxHeartbeats 4000000 in
set_option maxRecDepth 100000 in
theorem k_X8_isDigit (l : Launch) (dC : Nat → ClassId) (dI : Nat → Nat → Nat) (h : Sh) (L : List Nat) (hN : sx_nd L) (q : Sg) (hV : sx_V h L q) {a0 : Nat} (ha0 : a0 ∈ L) (ka0 : h.1 a0 = 8) (n1 : Int32)   : CMi l dC dI h L yX8_isDigit wsX8_isDigit ({ frames := 0, cells := 0, slots := 0, locals := 0 } : Room) q [.ref a0, .int n1] (fun r q' => q = q' ∧ (r.toInt = 0 ∨ r.toInt = 1)) := by
  refine cm_z (cc := cX8_isDigit) (mL := 2) (own := RX8) hN (by decide) rfl rfl (Nat.le_of_ble_eq_true rfl) (fun Z B hret => ?_)
  show WA l dC dI h L ({ frames := 0, cells := 0, slots := 0, locals := 0 } : Room) 2 Z q 0 [(0, .ref a0), (1, .int n1)] []
  refine wa_iload_n B dX8_isDigit_0 rfl 1 rfl ?_
  refine wa_bipush B 48 dX8_isDigit_1 (by decide) ?_
  refine wa_icmp_lt B 12 dX8_isDigit_3 (by decide) (fun (t_1 : n1.toInt < 48) => ?_) (fun (t_1 : ¬ n1.toInt < 48) => ?_)
  · refine wa_aload_n B dX8_isDigit_12 rfl 0 rfl ?_
    refine wa_getI B (C := RX8) (T := TX8) (N := 11) iq_X8_isDigit_X8 ha0 ka0 (by decide) rfl 9 (by decide) (by decide) (by decide +kernel) rfl (by decide) (v := (q.1 a0 9)) rfl dX8_isDigit_13 ?_
    refine wa_if_eq B 29 dX8_isDigit_16 (by decide) (fun (t_2 : (q.1 a0 9).toInt = 0) => ?_) (fun (t_2 : ¬ (q.1 a0 9).toInt = 0) => ?_)
    · refine wa_iconst B 0 dX8_isDigit_29 (by decide) ?_
      exact hret _ _ _ _ dX8_isDigit_30 (Or.inl rfl) ⟨rfl, (by have h9 : (0 : Int32).toInt = 0 := rfl; first | omega | (refine ⟨?_, ?_⟩ <;> omega) | trivial)⟩
    · refine wa_iload_n B dX8_isDigit_19 rfl 1 rfl ?_
      refine wa_bipush B 63 dX8_isDigit_20 (by decide) ?_
      refine wa_icmp_ne B 29 dX8_isDigit_22 (by decide) (fun (t_3 : ¬ n1.toInt = 63) => ?_) (fun (t_3 : n1.toInt = 63) => ?_)
      · refine wa_iconst B 0 dX8_isDigit_29 (by decide) ?_
        exact hret _ _ _ _ dX8_isDigit_30 (Or.inl rfl) ⟨rfl, (by have h9 : (0 : Int32).toInt = 0 := rfl; first | omega | (refine ⟨?_, ?_⟩ <;> omega) | trivial)⟩
      · refine wa_iconst B 1 dX8_isDigit_25 (by decide) ?_
        refine wa_goto B 30 dX8_isDigit_26 (by decide) ?_
        exact hret _ _ _ _ dX8_isDigit_30 (Or.inr rfl) ⟨rfl, (by have h9 : (1 : Int32).toInt = 1 := rfl; first | omega | (refine ⟨?_, ?_⟩ <;> omega) | trivial)⟩
  · refine wa_iload_n B dX8_isDigit_6 rfl 1 rfl ?_
    refine wa_bipush B 57 dX8_isDigit_7 (by decide) ?_
    refine wa_icmp_le B 25 dX8_isDigit_9 (by decide) (fun (t_4 : n1.toInt ≤ 57) => ?_) (fun (t_4 : ¬ n1.toInt ≤ 57) => ?_)
    · refine wa_iconst B 1 dX8_isDigit_25 (by decide) ?_
      refine wa_goto B 30 dX8_isDigit_26 (by decide) ?_
      exact hret _ _ _ _ dX8_isDigit_30 (Or.inr rfl) ⟨rfl, (by have h9 : (1 : Int32).toInt = 1 := rfl; first | omega | (refine ⟨?_, ?_⟩ <;> omega) | trivial)⟩
    · refine wa_aload_n B dX8_isDigit_12 rfl 0 rfl ?_
      refine wa_getI B (C := RX8) (T := TX8) (N := 11) iq_X8_isDigit_X8 ha0 ka0 (by decide) rfl 9 (by decide) (by decide) (by decide +kernel) rfl (by decide) (v := (q.1 a0 9)) rfl dX8_isDigit_13 ?_
      refine wa_if_eq B 29 dX8_isDigit_16 (by decide) (fun (t_5 : (q.1 a0 9).toInt = 0) => ?_) (fun (t_5 : ¬ (q.1 a0 9).toInt = 0) => ?_)
      · refine wa_iconst B 0 dX8_isDigit_29 (by decide) ?_
        exact hret _ _ _ _ dX8_isDigit_30 (Or.inl rfl) ⟨rfl, (by have h9 : (0 : Int32).toInt = 0 := rfl; first | omega | (refine ⟨?_, ?_⟩ <;> omega) | trivial)⟩
      · refine wa_iload_n B dX8_isDigit_19 rfl 1 rfl ?_
        refine wa_bipush B 63 dX8_isDigit_20 (by decide) ?_
        refine wa_icmp_ne B 29 dX8_isDigit_22 (by decide) (fun (t_6 : ¬ n1.toInt = 63) => ?_) (fun (t_6 : n1.toInt = 63) => ?_)
        · refine wa_iconst B 0 dX8_isDigit_29 (by decide) ?_
          exact hret _ _ _ _ dX8_isDigit_30 (Or.inl rfl) ⟨rfl, (by have h9 : (0 : Int32).toInt = 0 := rfl; first | omega | (refine ⟨?_, ?_⟩ <;> omega) | trivial)⟩
        · refine wa_iconst B 1 dX8_isDigit_25 (by decide) ?_
          refine wa_goto B 30 dX8_isDigit_26 (by decide) ?_
          exact hret _ _ _ _ dX8_isDigit_30 (Or.inr rfl) ⟨rfl, (by have h9 : (1 : Int32).toInt = 1 := rfl; first | omega | (refine ⟨?_, ?_⟩ <;> omega) | trivial)⟩
theorem iq_X8_refuse_X8 : ∀ w ∈ wsX80, w ∈ wsX8_refuse := fun _ h => List.mem_cons_of_mem _ (List.mem_append_right _ h)
set_option maxHeartbeats 4000000 in
set_option maxRecDepth 100000 in
theorem k_X8_refuse (l : Launch) (dC : Nat → ClassId) (dI : Nat → Nat → Nat) (h : Sh) (L : List Nat) (hN : sx_nd L) (q : Sg) (hV : sx_V h L q) {a0 : Nat} (ha0 : a0 ∈ L) (ka0 : h.1 a0 = 8) (n1 : Int32) (n2 : Int32)   : CMi l dC dI h L yX8_refuse wsX8_refuse ({ frames := 0, cells := 0, slots := 0, locals := 0 } : Room) q [.ref a0, .int n1, .int n2] (fun r q' => sx_V h L q' ∧ sx_fr h L (fun a => a = a0 ∧ h.1 a = 8) q q' ∧ r.toInt = 0) := by
  refine cm_z (cc := cX8_refuse) (mL := 3) (own := RX8) hN (by decide) rfl rfl (Nat.le_of_ble_eq_true rfl) (fun Z B hret => ?_)
  have hF : sx_fr h L (fun a => a = a0 ∧ h.1 a = 8) q q := sx_fr.rf
  show WA l dC dI h L ({ frames := 0, cells := 0, slots := 0, locals := 0 } : Room) 3 Z q 0 [(0, .ref a0), (1, .int n1), (2, .int n2)] []
  refine wa_aload_n B dX8_refuse_0 rfl 0 rfl ?_
  refine wa_iload_n B dX8_refuse_1 rfl 1 rfl ?_
  refine wa_putI B (C := RX8) (T := TX8) (N := 11) iq_X8_refuse_X8 ha0 ka0 (by decide) rfl 5 (by decide) (by decide) (by decide +kernel) rfl (by decide) (v := n1) (ty := .int) tyX8 tyX8_ok nmX8 rfl (by decide +kernel) rfl rfl dX8_refuse_2 (fun q_1 eq_1 => ?_)
  have hV_q_1 : sx_V h L q_1 := by rw [eq_1]; exact hV.pI ka0 trivial
  have hF_q_1 : sx_fr h L (fun a => a = a0 ∧ h.1 a = 8) q q_1 := hF.tr (by rw [eq_1]; exact sx_fr.pI (show a0 = a0 ∧ h.1 a0 = 8 from by omega))
  have z_2 : q_1.1 a0 5 = n1 := by rw [eq_1]; exact sg_pI_e
  refine wa_aload_n B dX8_refuse_5 rfl 0 rfl ?_
  refine wa_iload_n B dX8_refuse_6 rfl 2 rfl ?_
  refine wa_putI B (C := RX8) (T := TX8) (N := 11) iq_X8_refuse_X8 ha0 ka0 (by decide) rfl 6 (by decide) (by decide) (by decide +kernel) rfl (by decide) (v := n2) (ty := .int) tyX8 tyX8_ok nmX8 rfl (by decide +kernel) rfl rfl dX8_refuse_7 (fun q_3 eq_3 => ?_)
  have hV_q_3 : sx_V h L q_3 := by rw [eq_3]; exact hV_q_1.pI ka0 trivial
  have hF_q_3 : sx_fr h L (fun a => a = a0 ∧ h.1 a = 8) q q_3 := hF_q_1.tr (by rw [eq_3]; exact sx_fr.pI (show a0 = a0 ∧ h.1 a0 = 8 from by omega))
  have z_4 : q_3.1 a0 6 = n2 := by rw [eq_3]; exact sg_pI_e
  refine wa_iconst B 0 dX8_refuse_10 (by decide) ?_
  exact hret _ _ _ _ dX8_refuse_11 (Or.inl rfl) ⟨hV_q_3, hF_q_3, (by have h9 : (0 : Int32).toInt = 0 := rfl; first | omega | (refine ⟨?_, ?_⟩ <;> omega) | trivial)⟩
theorem iq_X8_demand_X8 : ∀ w ∈ wsX80, w ∈ wsX8_demand := fun _ h => List.mem_cons_of_mem _ (List.mem_append_right _ h)
set_option maxHeartbeats 4000000 in
set_option maxRecDepth 100000 in
theorem k_X8_demand (l : Launch) (dC : Nat → ClassId) (dI : Nat → Nat → Nat) (h : Sh) (L : List Nat) (hN : sx_nd L) (q : Sg) (hV : sx_V h L q) {a0 : Nat} (ha0 : a0 ∈ L) (ka0 : h.1 a0 = 8) (n1 : Int32)   : CMi l dC dI h L yX8_demand wsX8_demand ({ frames := 0, cells := 0, slots := 0, locals := 0 } : Room) q [.ref a0, .int n1] (fun r q' => sx_V h L q' ∧ sx_fr h L (fun a => a = a0 ∧ h.1 a = 8) q q' ∧ (r.toInt = 0 ∨ r.toInt = 1)) := by
  refine cm_z (cc := cX8_demand) (mL := 2) (own := RX8) hN (by decide) rfl rfl (Nat.le_of_ble_eq_true rfl) (fun Z B hret => ?_)
  have hF : sx_fr h L (fun a => a = a0 ∧ h.1 a = 8) q q := sx_fr.rf
  show WA l dC dI h L ({ frames := 0, cells := 0, slots := 0, locals := 0 } : Room) 2 Z q 0 [(0, .ref a0), (1, .int n1)] []
  refine wa_aload_n B dX8_demand_0 rfl 0 rfl ?_
  refine wa_getI B (C := RX8) (T := TX8) (N := 11) iq_X8_demand_X8 ha0 ka0 (by decide) rfl 0 (by decide) (by decide) (by decide +kernel) rfl (by decide) (v := (q.1 a0 0)) rfl dX8_demand_1 ?_
  refine wa_iload_n B dX8_demand_4 rfl 1 rfl ?_
  refine wa_icmp_eq B 21 dX8_demand_5 (by decide) (fun (t_1 : (q.1 a0 0).toInt = n1.toInt) => ?_) (fun (t_1 : ¬ (q.1 a0 0).toInt = n1.toInt) => ?_)
  · refine wa_aload_n B dX8_demand_21 rfl 0 rfl ?_
    refine wa_getI B (C := RX8) (T := TX8) (N := 11) iq_X8_demand_X8 ha0 ka0 (by decide) rfl 0 (by decide) (by decide) (by decide +kernel) rfl (by decide) (v := (q.1 a0 0)) rfl dX8_demand_22 ?_
    refine wa_iload_n B dX8_demand_25 rfl 1 rfl ?_
    refine wa_icmp_ne B 33 dX8_demand_26 (by decide) (fun (t_2 : ¬ (q.1 a0 0).toInt = n1.toInt) => ?_) (fun (t_2 : (q.1 a0 0).toInt = n1.toInt) => ?_)
    · refine wa_iconst B 0 dX8_demand_33 (by decide) ?_
      exact hret _ _ _ _ dX8_demand_34 (Or.inl rfl) ⟨hV, hF, (by have h9 : (0 : Int32).toInt = 0 := rfl; first | omega | (refine ⟨?_, ?_⟩ <;> omega) | trivial)⟩
    · refine wa_iconst B 1 dX8_demand_29 (by decide) ?_
      refine wa_goto B 34 dX8_demand_30 (by decide) ?_
      exact hret _ _ _ _ dX8_demand_34 (Or.inr rfl) ⟨hV, hF, (by have h9 : (1 : Int32).toInt = 1 := rfl; first | omega | (refine ⟨?_, ?_⟩ <;> omega) | trivial)⟩
  · refine wa_aload_n B dX8_demand_8 rfl 0 rfl ?_
    refine wa_iconst B 1 dX8_demand_9 (by decide) ?_
    refine wa_putI B (C := RX8) (T := TX8) (N := 11) iq_X8_demand_X8 ha0 ka0 (by decide) rfl 5 (by decide) (by decide) (by decide +kernel) rfl (by decide) (v := 1) (ty := .int) tyX8 tyX8_ok nmX8 rfl (by decide +kernel) rfl rfl dX8_demand_10 (fun q_3 eq_3 => ?_)
    have hV_q_3 : sx_V h L q_3 := by rw [eq_3]; exact hV.pI ka0 trivial
    have hF_q_3 : sx_fr h L (fun a => a = a0 ∧ h.1 a = 8) q q_3 := hF.tr (by rw [eq_3]; exact sx_fr.pI (show a0 = a0 ∧ h.1 a0 = 8 from by omega))
    have z_4 : q_3.1 a0 5 = 1 := by rw [eq_3]; exact sg_pI_e
    refine wa_aload_n B dX8_demand_13 rfl 0 rfl ?_
    refine wa_aload_n B dX8_demand_14 rfl 0 rfl ?_
    refine wa_getI B (C := RX8) (T := TX8) (N := 11) iq_X8_demand_X8 ha0 ka0 (by decide) rfl 1 (by decide) (by decide) (by decide +kernel) rfl (by decide) (v := (q_3.1 a0 1)) rfl dX8_demand_15 ?_
    refine wa_putI B (C := RX8) (T := TX8) (N := 11) iq_X8_demand_X8 ha0 ka0 (by decide) rfl 6 (by decide) (by decide) (by decide +kernel) rfl (by decide) (v := (q_3.1 a0 1)) (ty := .int) tyX8 tyX8_ok nmX8 rfl (by decide +kernel) rfl rfl dX8_demand_18 (fun q_5 eq_5 => ?_)
    have hV_q_5 : sx_V h L q_5 := by rw [eq_5]; exact hV_q_3.pI ka0 trivial
    have hF_q_5 : sx_fr h L (fun a => a = a0 ∧ h.1 a = 8) q q_5 := hF_q_3.tr (by rw [eq_5]; exact sx_fr.pI (show a0 = a0 ∧ h.1 a0 = 8 from by omega))
    have z_6 : q_5.1 a0 6 = (q_3.1 a0 1) := by rw [eq_5]; exact sg_pI_e
    refine wa_aload_n B dX8_demand_21 rfl 0 rfl ?_
    have z_7 : q_5.1 a0 0 = q.1 a0 0 := ((show q_5.1 a0 0 = q_3.1 a0 0 from by rw [eq_5]; exact sg_pI_k (by decide))).trans ((show q_3.1 a0 0 = q.1 a0 0 from by rw [eq_3]; exact sg_pI_k (by decide)))
    refine wa_getI B (C := RX8) (T := TX8) (N := 11) iq_X8_demand_X8 ha0 ka0 (by decide) rfl 0 (by decide) (by decide) (by decide +kernel) rfl (by decide) (v := (q.1 a0 0)) z_7 dX8_demand_22 ?_
    refine wa_iload_n B dX8_demand_25 rfl 1 rfl ?_
    refine wa_icmp_ne B 33 dX8_demand_26 (by decide) (fun (t_8 : ¬ (q.1 a0 0).toInt = n1.toInt) => ?_) (fun (t_8 : (q.1 a0 0).toInt = n1.toInt) => ?_)
    · refine wa_iconst B 0 dX8_demand_33 (by decide) ?_
      exact hret _ _ _ _ dX8_demand_34 (Or.inl rfl) ⟨hV_q_5, hF_q_5, (by have h9 : (0 : Int32).toInt = 0 := rfl; first | omega | (refine ⟨?_, ?_⟩ <;> omega) | trivial)⟩
    · refine wa_iconst B 1 dX8_demand_29 (by decide) ?_
      refine wa_goto B 34 dX8_demand_30 (by decide) ?_
      exact hret _ _ _ _ dX8_demand_34 (Or.inr rfl) ⟨hV_q_5, hF_q_5, (by have h9 : (1 : Int32).toInt = 1 := rfl; first | omega | (refine ⟨?_, ?_⟩ <;> omega) | trivial)⟩
theorem iq_X2_begin_X2 : ∀ w ∈ wsX20, w ∈ wsX2_begin := fun _ h => List.mem_cons_of_mem _ (List.mem_append_right _ h)
set_option maxHeartbeats 4000000 in
set_option maxRecDepth 100000 in
theorem k_X2_begin (l : Launch) (dC : Nat → ClassId) (dI : Nat → Nat → Nat) (h : Sh) (L : List Nat) (hN : sx_nd L) (q : Sg) (hV : sx_V h L q) {a0 : Nat} (ha0 : a0 ∈ L) (ka0 : h.1 a0 = 2) (n1 : Int32)   : CMv l dC dI h L yX2_begin wsX2_begin ({ frames := 0, cells := 0, slots := 0, locals := 0 } : Room) q [.ref a0, .int n1] (fun q' => sx_V h L q' ∧ sx_fr h L (fun a => a = a0 ∧ h.1 a = 2) q q') := by
  refine cm_v (cc := cX2_begin) (mL := 2) (own := RX2) hN (by decide) rfl rfl (Nat.le_of_ble_eq_true rfl) (fun Z B hret => ?_)
  have hF : sx_fr h L (fun a => a = a0 ∧ h.1 a = 2) q q := sx_fr.rf
  show WA l dC dI h L ({ frames := 0, cells := 0, slots := 0, locals := 0 } : Room) 2 Z q 0 [(0, .ref a0), (1, .int n1)] []
  refine wa_aload_n B dX2_begin_0 rfl 0 rfl ?_
  refine wa_iload_n B dX2_begin_1 rfl 1 rfl ?_
  refine wa_putI B (C := RX2) (T := TX2) (N := 6) iq_X2_begin_X2 ha0 ka0 (by decide) rfl 0 (by decide) (by decide) (by decide +kernel) rfl (by decide) (v := n1) (ty := .int) tyX2 tyX2_ok nmX2 rfl (by decide +kernel) rfl rfl dX2_begin_2 (fun q_1 eq_1 => ?_)
  have hV_q_1 : sx_V h L q_1 := by rw [eq_1]; exact hV.pI ka0 trivial
  have hF_q_1 : sx_fr h L (fun a => a = a0 ∧ h.1 a = 2) q q_1 := hF.tr (by rw [eq_1]; exact sx_fr.pI (show a0 = a0 ∧ h.1 a0 = 2 from by omega))
  have z_2 : q_1.1 a0 0 = n1 := by rw [eq_1]; exact sg_pI_e
  refine wa_aload_n B dX2_begin_5 rfl 0 rfl ?_
  refine wa_iconst B (-1) dX2_begin_6 (by decide) ?_
  refine wa_putI B (C := RX2) (T := TX2) (N := 6) iq_X2_begin_X2 ha0 ka0 (by decide) rfl 1 (by decide) (by decide) (by decide +kernel) rfl (by decide) (v := (-1)) (ty := .int) tyX2 tyX2_ok nmX2 rfl (by decide +kernel) rfl rfl dX2_begin_7 (fun q_3 eq_3 => ?_)
  have hV_q_3 : sx_V h L q_3 := by rw [eq_3]; exact hV_q_1.pI ka0 trivial
  have hF_q_3 : sx_fr h L (fun a => a = a0 ∧ h.1 a = 2) q q_3 := hF_q_1.tr (by rw [eq_3]; exact sx_fr.pI (show a0 = a0 ∧ h.1 a0 = 2 from by omega))
  have z_4 : q_3.1 a0 1 = (-1) := by rw [eq_3]; exact sg_pI_e
  refine wa_aload_n B dX2_begin_10 rfl 0 rfl ?_
  refine wa_iconst B 0 dX2_begin_11 (by decide) ?_
  refine wa_putI B (C := RX2) (T := TX2) (N := 6) iq_X2_begin_X2 ha0 ka0 (by decide) rfl 2 (by decide) (by decide) (by decide +kernel) rfl (by decide) (v := 0) (ty := .int) tyX2 tyX2_ok nmX2 rfl (by decide +kernel) rfl rfl dX2_begin_12 (fun q_5 eq_5 => ?_)
  have hV_q_5 : sx_V h L q_5 := by rw [eq_5]; exact hV_q_3.pI ka0 trivial
  have hF_q_5 : sx_fr h L (fun a => a = a0 ∧ h.1 a = 2) q q_5 := hF_q_3.tr (by rw [eq_5]; exact sx_fr.pI (show a0 = a0 ∧ h.1 a0 = 2 from by omega))
  have z_6 : q_5.1 a0 2 = 0 := by rw [eq_5]; exact sg_pI_e
  refine wa_aload_n B dX2_begin_15 rfl 0 rfl ?_
  refine wa_iconst B 0 dX2_begin_16 (by decide) ?_
  refine wa_putI B (C := RX2) (T := TX2) (N := 6) iq_X2_begin_X2 ha0 ka0 (by decide) rfl 3 (by decide) (by decide) (by decide +kernel) rfl (by decide) (v := 0) (ty := .int) tyX2 tyX2_ok nmX2 rfl (by decide +kernel) rfl rfl dX2_begin_17 (fun q_7 eq_7 => ?_)
  have hV_q_7 : sx_V h L q_7 := by rw [eq_7]; exact hV_q_5.pI ka0 trivial
  have hF_q_7 : sx_fr h L (fun a => a = a0 ∧ h.1 a = 2) q q_7 := hF_q_5.tr (by rw [eq_7]; exact sx_fr.pI (show a0 = a0 ∧ h.1 a0 = 2 from by omega))
  have z_8 : q_7.1 a0 3 = 0 := by rw [eq_7]; exact sg_pI_e
  refine wa_aload_n B dX2_begin_20 rfl 0 rfl ?_
  refine wa_iconst B (-1) dX2_begin_21 (by decide) ?_
  refine wa_putI B (C := RX2) (T := TX2) (N := 6) iq_X2_begin_X2 ha0 ka0 (by decide) rfl 4 (by decide) (by decide) (by decide +kernel) rfl (by decide) (v := (-1)) (ty := .int) tyX2 tyX2_ok nmX2 rfl (by decide +kernel) rfl rfl dX2_begin_22 (fun q_9 eq_9 => ?_)
  have hV_q_9 : sx_V h L q_9 := by rw [eq_9]; exact hV_q_7.pI ka0 trivial
  have hF_q_9 : sx_fr h L (fun a => a = a0 ∧ h.1 a = 2) q q_9 := hF_q_7.tr (by rw [eq_9]; exact sx_fr.pI (show a0 = a0 ∧ h.1 a0 = 2 from by omega))
  have z_10 : q_9.1 a0 4 = (-1) := by rw [eq_9]; exact sg_pI_e
  refine wa_aload_n B dX2_begin_25 rfl 0 rfl ?_
  refine wa_iconst B (-1) dX2_begin_26 (by decide) ?_
  refine wa_putI B (C := RX2) (T := TX2) (N := 6) iq_X2_begin_X2 ha0 ka0 (by decide) rfl 5 (by decide) (by decide) (by decide +kernel) rfl (by decide) (v := (-1)) (ty := .int) tyX2 tyX2_ok nmX2 rfl (by decide +kernel) rfl rfl dX2_begin_27 (fun q_11 eq_11 => ?_)
  have hV_q_11 : sx_V h L q_11 := by rw [eq_11]; exact hV_q_9.pI ka0 trivial
  have hF_q_11 : sx_fr h L (fun a => a = a0 ∧ h.1 a = 2) q q_11 := hF_q_9.tr (by rw [eq_11]; exact sx_fr.pI (show a0 = a0 ∧ h.1 a0 = 2 from by omega))
  have z_12 : q_11.1 a0 5 = (-1) := by rw [eq_11]; exact sg_pI_e
  exact hret _ _ _ dX2_begin_30 ⟨hV_q_11, hF_q_11⟩
theorem iq_X1_noteDigit_X1 : ∀ w ∈ wsX10, w ∈ wsX1_noteDigit := fun _ h => List.mem_cons_of_mem _ (List.mem_append_right _ h)
set_option maxHeartbeats 4000000 in
set_option maxRecDepth 100000 in
theorem k_X1_noteDigit (l : Launch) (dC : Nat → ClassId) (dI : Nat → Nat → Nat) (h : Sh) (L : List Nat) (hN : sx_nd L) (q : Sg) (hV : sx_V h L q) {a0 : Nat} (ha0 : a0 ∈ L) (ka0 : h.1 a0 = 1) (n1 : Int32)   : CMv l dC dI h L yX1_noteDigit wsX1_noteDigit ({ frames := 0, cells := 0, slots := 0, locals := 0 } : Room) q [.ref a0, .int n1] (fun q' => sx_V h L q' ∧ sx_fr h L (fun a => a = a0 ∧ h.1 a = 1) q q') := by
  refine cm_v (cc := cX1_noteDigit) (mL := 2) (own := RX1) hN (by decide) rfl rfl (Nat.le_of_ble_eq_true rfl) (fun Z B hret => ?_)
  have hF : sx_fr h L (fun a => a = a0 ∧ h.1 a = 1) q q := sx_fr.rf
  show WA l dC dI h L ({ frames := 0, cells := 0, slots := 0, locals := 0 } : Room) 2 Z q 0 [(0, .ref a0), (1, .int n1)] []
  refine wa_aload_n B dX1_noteDigit_0 rfl 0 rfl ?_
  refine wa_getI B (C := RX1) (T := TX1) (N := 7) iq_X1_noteDigit_X1 ha0 ka0 (by decide) rfl 6 (by decide) (by decide) (by decide +kernel) rfl (by decide) (v := (q.1 a0 6)) rfl dX1_noteDigit_1 ?_
  refine wa_bipush B (-2) dX1_noteDigit_4 (by decide) ?_
  refine wa_icmp_ne B 17 dX1_noteDigit_6 (by decide) (fun (t_1 : ¬ (q.1 a0 6).toInt = (-2)) => ?_) (fun (t_1 : (q.1 a0 6).toInt = (-2)) => ?_)
  · refine wa_aload_n B dX1_noteDigit_17 rfl 0 rfl ?_
    refine wa_getI B (C := RX1) (T := TX1) (N := 7) iq_X1_noteDigit_X1 ha0 ka0 (by decide) rfl 6 (by decide) (by decide) (by decide +kernel) rfl (by decide) (v := (q.1 a0 6)) rfl dX1_noteDigit_18 ?_
    refine wa_iload_n B dX1_noteDigit_21 rfl 1 rfl ?_
    refine wa_icmp_eq B 30 dX1_noteDigit_22 (by decide) (fun (t_2 : (q.1 a0 6).toInt = n1.toInt) => ?_) (fun (t_2 : ¬ (q.1 a0 6).toInt = n1.toInt) => ?_)
    · exact hret _ _ _ dX1_noteDigit_30 ⟨hV, hF⟩
    · refine wa_aload_n B dX1_noteDigit_25 rfl 0 rfl ?_
      refine wa_iconst B (-1) dX1_noteDigit_26 (by decide) ?_
      refine wa_putI B (C := RX1) (T := TX1) (N := 7) iq_X1_noteDigit_X1 ha0 ka0 (by decide) rfl 6 (by decide) (by decide) (by decide +kernel) rfl (by decide) (v := (-1)) (ty := .int) tyX1 tyX1_ok nmX1 rfl (by decide +kernel) rfl rfl dX1_noteDigit_27 (fun q_3 eq_3 => ?_)
      have hV_q_3 : sx_V h L q_3 := by rw [eq_3]; exact hV.pI ka0 trivial
      have hF_q_3 : sx_fr h L (fun a => a = a0 ∧ h.1 a = 1) q q_3 := hF.tr (by rw [eq_3]; exact sx_fr.pI (show a0 = a0 ∧ h.1 a0 = 1 from by omega))
      have z_4 : q_3.1 a0 6 = (-1) := by rw [eq_3]; exact sg_pI_e
      exact hret _ _ _ dX1_noteDigit_30 ⟨hV_q_3, hF_q_3⟩
  · refine wa_aload_n B dX1_noteDigit_9 rfl 0 rfl ?_
    refine wa_iload_n B dX1_noteDigit_10 rfl 1 rfl ?_
    refine wa_putI B (C := RX1) (T := TX1) (N := 7) iq_X1_noteDigit_X1 ha0 ka0 (by decide) rfl 6 (by decide) (by decide) (by decide +kernel) rfl (by decide) (v := n1) (ty := .int) tyX1 tyX1_ok nmX1 rfl (by decide +kernel) rfl rfl dX1_noteDigit_11 (fun q_5 eq_5 => ?_)
    have hV_q_5 : sx_V h L q_5 := by rw [eq_5]; exact hV.pI ka0 trivial
    have hF_q_5 : sx_fr h L (fun a => a = a0 ∧ h.1 a = 1) q q_5 := hF.tr (by rw [eq_5]; exact sx_fr.pI (show a0 = a0 ∧ h.1 a0 = 1 from by omega))
    have z_6 : q_5.1 a0 6 = n1 := by rw [eq_5]; exact sg_pI_e
    refine wa_goto B 30 dX1_noteDigit_14 (by decide) ?_
    exact hret _ _ _ dX1_noteDigit_30 ⟨hV_q_5, hF_q_5⟩
theorem iq_X5_isFull_X5 : ∀ w ∈ wsX50, w ∈ wsX5_isFull := fun _ h => List.mem_cons_of_mem _ (List.mem_append_right _ h)
set_option maxHeartbeats 4000000 in
set_option maxRecDepth 100000 in
theorem k_X5_isFull (l : Launch) (dC : Nat → ClassId) (dI : Nat → Nat → Nat) (h : Sh) (L : List Nat) (hN : sx_nd L) (q : Sg) (hV : sx_V h L q) {a0 : Nat} (ha0 : a0 ∈ L) (ka0 : h.1 a0 = 5)   : CMi l dC dI h L yX5_isFull wsX5_isFull ({ frames := 0, cells := 0, slots := 0, locals := 0 } : Room) q [.ref a0] (fun r q' => q = q' ∧ (r.toInt = 1 ∧ 12 ≤ (q.1 a0 2).toInt ∨ r.toInt = 0 ∧ (q.1 a0 2).toInt < 12)) := by
  refine cm_z (cc := cX5_isFull) (mL := 1) (own := RX5) hN (by decide) rfl rfl (Nat.le_of_ble_eq_true rfl) (fun Z B hret => ?_)
  show WA l dC dI h L ({ frames := 0, cells := 0, slots := 0, locals := 0 } : Room) 1 Z q 0 [(0, .ref a0)] []
  refine wa_aload_n B dX5_isFull_0 rfl 0 rfl ?_
  refine wa_getI B (C := RX5) (T := TX5) (N := 7) iq_X5_isFull_X5 ha0 ka0 (by decide) rfl 2 (by decide) (by decide) (by decide +kernel) rfl (by decide) (v := (q.1 a0 2)) rfl dX5_isFull_1 ?_
  have g_1 : (0 : Int) ≤ (q.1 a0 2).toInt ∧ (q.1 a0 2).toInt ≤ 12 := hV.int ha0 ka0 2
  refine wa_bipush B 12 dX5_isFull_4 (by decide) ?_
  refine wa_icmp_lt B 13 dX5_isFull_6 (by decide) (fun (t_2 : (q.1 a0 2).toInt < 12) => ?_) (fun (t_2 : ¬ (q.1 a0 2).toInt < 12) => ?_)
  · refine wa_iconst B 0 dX5_isFull_13 (by decide) ?_
    exact hret _ _ _ _ dX5_isFull_14 (Or.inl rfl) ⟨rfl, (by have h9 : (0 : Int32).toInt = 0 := rfl; first | omega | (refine ⟨?_, ?_⟩ <;> omega) | trivial)⟩
  · refine wa_iconst B 1 dX5_isFull_9 (by decide) ?_
    refine wa_goto B 14 dX5_isFull_10 (by decide) ?_
    exact hret _ _ _ _ dX5_isFull_14 (Or.inr rfl) ⟨rfl, (by have h9 : (1 : Int32).toInt = 1 := rfl; first | omega | (refine ⟨?_, ?_⟩ <;> omega) | trivial)⟩
theorem iq_X5_clear_X5 : ∀ w ∈ wsX50, w ∈ wsX5_clear := fun _ h => List.mem_cons_of_mem _ (List.mem_append_right _ h)
set_option maxHeartbeats 4000000 in
set_option maxRecDepth 100000 in
theorem k_X5_clear (l : Launch) (dC : Nat → ClassId) (dI : Nat → Nat → Nat) (h : Sh) (L : List Nat) (hN : sx_nd L) (q : Sg) (hV : sx_V h L q) {a0 : Nat} (ha0 : a0 ∈ L) (ka0 : h.1 a0 = 5)   : CMv l dC dI h L yX5_clear wsX5_clear ({ frames := 0, cells := 0, slots := 0, locals := 0 } : Room) q [.ref a0] (fun q' => sx_V h L q' ∧ sx_fr h L (fun a => a = a0 ∧ h.1 a = 5) q q') := by
  refine cm_v (cc := cX5_clear) (mL := 1) (own := RX5) hN (by decide) rfl rfl (Nat.le_of_ble_eq_true rfl) (fun Z B hret => ?_)
  have hF : sx_fr h L (fun a => a = a0 ∧ h.1 a = 5) q q := sx_fr.rf
  show WA l dC dI h L ({ frames := 0, cells := 0, slots := 0, locals := 0 } : Room) 1 Z q 0 [(0, .ref a0)] []
  refine wa_aload_n B dX5_clear_0 rfl 0 rfl ?_
  refine wa_iconst B 0 dX5_clear_1 (by decide) ?_
  refine wa_putI B (C := RX5) (T := TX5) (N := 7) iq_X5_clear_X5 ha0 ka0 (by decide) rfl 2 (by decide) (by decide) (by decide +kernel) rfl (by decide) (v := 0) (ty := .int) tyX5 tyX5_ok nmX5 rfl (by decide +kernel) rfl rfl dX5_clear_2 (fun q_1 eq_1 => ?_)
  have hV_q_1 : sx_V h L q_1 := by rw [eq_1]; exact hV.pI ka0 (show sx_in 0 (0) 12 from ⟨by decide, by decide⟩)
  have hF_q_1 : sx_fr h L (fun a => a = a0 ∧ h.1 a = 5) q q_1 := hF.tr (by rw [eq_1]; exact sx_fr.pI (show a0 = a0 ∧ h.1 a0 = 5 from by omega))
  have z_2 : q_1.1 a0 2 = 0 := by rw [eq_1]; exact sg_pI_e
  refine wa_aload_n B dX5_clear_5 rfl 0 rfl ?_
  refine wa_iconst B 0 dX5_clear_6 (by decide) ?_
  refine wa_putI B (C := RX5) (T := TX5) (N := 7) iq_X5_clear_X5 ha0 ka0 (by decide) rfl 3 (by decide) (by decide) (by decide +kernel) rfl (by decide) (v := 0) (ty := .int) tyX5 tyX5_ok nmX5 rfl (by decide +kernel) rfl rfl dX5_clear_7 (fun q_3 eq_3 => ?_)
  have hV_q_3 : sx_V h L q_3 := by rw [eq_3]; exact hV_q_1.pI ka0 (show sx_in 0 (0) 4 from ⟨by decide, by decide⟩)
  have hF_q_3 : sx_fr h L (fun a => a = a0 ∧ h.1 a = 5) q q_3 := hF_q_1.tr (by rw [eq_3]; exact sx_fr.pI (show a0 = a0 ∧ h.1 a0 = 5 from by omega))
  have z_4 : q_3.1 a0 3 = 0 := by rw [eq_3]; exact sg_pI_e
  refine wa_aload_n B dX5_clear_10 rfl 0 rfl ?_
  refine wa_iconst B 0 dX5_clear_11 (by decide) ?_
  refine wa_putI B (C := RX5) (T := TX5) (N := 7) iq_X5_clear_X5 ha0 ka0 (by decide) rfl 4 (by decide) (by decide) (by decide +kernel) rfl (by decide) (v := 0) (ty := .boolean) tyX5 tyX5_ok nmX5 rfl (by decide +kernel) rfl rfl dX5_clear_12 (fun q_5 eq_5 => ?_)
  have hV_q_5 : sx_V h L q_5 := by rw [eq_5]; exact hV_q_3.pI ka0 trivial
  have hF_q_5 : sx_fr h L (fun a => a = a0 ∧ h.1 a = 5) q q_5 := hF_q_3.tr (by rw [eq_5]; exact sx_fr.pI (show a0 = a0 ∧ h.1 a0 = 5 from by omega))
  have z_6 : q_5.1 a0 4 = 0 := by rw [eq_5]; exact sg_pI_e
  refine wa_aload_n B dX5_clear_15 rfl 0 rfl ?_
  refine wa_iconst B 0 dX5_clear_16 (by decide) ?_
  refine wa_putI B (C := RX5) (T := TX5) (N := 7) iq_X5_clear_X5 ha0 ka0 (by decide) rfl 5 (by decide) (by decide) (by decide +kernel) rfl (by decide) (v := 0) (ty := .int) tyX5 tyX5_ok nmX5 rfl (by decide +kernel) rfl rfl dX5_clear_17 (fun q_7 eq_7 => ?_)
  have hV_q_7 : sx_V h L q_7 := by rw [eq_7]; exact hV_q_5.pI ka0 trivial
  have hF_q_7 : sx_fr h L (fun a => a = a0 ∧ h.1 a = 5) q q_7 := hF_q_5.tr (by rw [eq_7]; exact sx_fr.pI (show a0 = a0 ∧ h.1 a0 = 5 from by omega))
  have z_8 : q_7.1 a0 5 = 0 := by rw [eq_7]; exact sg_pI_e
  refine wa_aload_n B dX5_clear_20 rfl 0 rfl ?_
  refine wa_bipush B 13 dX5_clear_21 (by decide) ?_
  refine wa_putI B (C := RX5) (T := TX5) (N := 7) iq_X5_clear_X5 ha0 ka0 (by decide) rfl 6 (by decide) (by decide) (by decide +kernel) rfl (by decide) (v := 13) (ty := .int) tyX5 tyX5_ok nmX5 rfl (by decide +kernel) rfl rfl dX5_clear_23 (fun q_9 eq_9 => ?_)
  have hV_q_9 : sx_V h L q_9 := by rw [eq_9]; exact hV_q_7.pI ka0 trivial
  have hF_q_9 : sx_fr h L (fun a => a = a0 ∧ h.1 a = 5) q q_9 := hF_q_7.tr (by rw [eq_9]; exact sx_fr.pI (show a0 = a0 ∧ h.1 a0 = 5 from by omega))
  have z_10 : q_9.1 a0 6 = 13 := by rw [eq_9]; exact sg_pI_e
  exact hret _ _ _ dX5_clear_26 ⟨hV_q_9, hF_q_9⟩
set_option maxHeartbeats 4000000 in
set_option maxRecDepth 100000 in
theorem k_X9_slot (l : Launch) (dC : Nat → ClassId) (dI : Nat → Nat → Nat) (h : Sh) (L : List Nat) (hN : sx_nd L) (q : Sg) (hV : sx_V h L q) (n1 : Int32) (n2 : Int32)  (hy0 : 0 ≤ n1.toInt) (hy1 : n1.toInt ≤ 1000) (hy2 : 0 ≤ n2.toInt) (hy3 : n2.toInt ≤ 1000) : CMi l dC dI h L yX9_slot wsX9_slot ({ frames := 0, cells := 0, slots := 0, locals := 0 } : Room) q [.int n1, .int n2] (fun r q' => q = q' ∧ r.toInt = n1.toInt * 5 + n2.toInt) := by
  refine cm_i (cc := cX9_slot) (mL := 2) (own := RX9) hN (by decide) rfl rfl (Nat.le_of_ble_eq_true rfl) (fun Z B hret => ?_)
  show WA l dC dI h L ({ frames := 0, cells := 0, slots := 0, locals := 0 } : Room) 2 Z q 0 [(0, .int n1), (1, .int n2)] []
  refine wa_iload_n B dX9_slot_0 rfl 0 rfl ?_
  refine wa_iconst B 5 dX9_slot_1 (by decide) ?_
  refine wa_imul B dX9_slot_2 (fun v_1 ev_1 => ?_)
  refine wa_iload_n B dX9_slot_3 rfl 1 rfl ?_
  refine wa_iadd B dX9_slot_4 (fun v_2 ev_2 => ?_)
  have tv_1 : v_1.toInt = n1.toInt * 5 := by have b0 := zx_bd n1; rw [ev_1]; exact zx_mul (show (-2147483648 : Int) ≤ n1.toInt * 5 by omega) (show n1.toInt * 5 < (2147483648 : Int) by omega)
  have tv_2 : v_2.toInt = v_1.toInt + n2.toInt := by have b0 := zx_bd v_1; have b1 := zx_bd n2; rw [ev_2]; exact zx_add (show (-2147483648 : Int) ≤ v_1.toInt + n2.toInt by omega) (show v_1.toInt + n2.toInt < (2147483648 : Int) by omega)
  exact hret _ _ _ _ dX9_slot_5 ⟨rfl, (by first | omega | (refine ⟨?_, ?_⟩ <;> omega) | trivial)⟩
set_option maxHeartbeats 4000000 in
set_option maxRecDepth 100000 in
theorem k_X9_systemOf (l : Launch) (dC : Nat → ClassId) (dI : Nat → Nat → Nat) (h : Sh) (L : List Nat) (hN : sx_nd L) (q : Sg) (hV : sx_V h L q) (n1 : Int32)   : CMi l dC dI h L yX9_systemOf wsX9_systemOf ({ frames := 0, cells := 0, slots := 0, locals := 0 } : Room) q [.int n1] (fun r q' => q = q') := by
  refine cm_i (cc := cX9_systemOf) (mL := 1) (own := RX9) hN (by decide) rfl rfl (Nat.le_of_ble_eq_true rfl) (fun Z B hret => ?_)
  show WA l dC dI h L ({ frames := 0, cells := 0, slots := 0, locals := 0 } : Room) 1 Z q 0 [(0, .int n1)] []
  refine wa_iload_n B dX9_systemOf_0 rfl 0 rfl ?_
  refine wa_iconst B 5 dX9_systemOf_1 (by decide) ?_
  refine wa_idiv B dX9_systemOf_2 (by decide) (fun v_1 ev_1 => ?_)
  exact hret _ _ _ _ dX9_systemOf_3 rfl
theorem iq_X2_noteValue_X2 : ∀ w ∈ wsX20, w ∈ wsX2_noteValue := fun _ h => List.mem_cons_of_mem _ (List.mem_append_right _ h)
set_option maxHeartbeats 4000000 in
set_option maxRecDepth 100000 in
theorem k_X2_noteValue (l : Launch) (dC : Nat → ClassId) (dI : Nat → Nat → Nat) (h : Sh) (L : List Nat) (hN : sx_nd L) (q : Sg) (hV : sx_V h L q) {a0 : Nat} (ha0 : a0 ∈ L) (ka0 : h.1 a0 = 2) (n1 : Int32)   : CMv l dC dI h L yX2_noteValue wsX2_noteValue ({ frames := 1, cells := 0, slots := 0, locals := 17 } : Room) q [.ref a0, .int n1] (fun q' => sx_V h L q' ∧ sx_fr h L (fun a => a = a0 ∧ h.1 a = 2) q q') := by
  refine cm_v (cc := cX2_noteValue) (mL := 2) (own := RX2) hN (by decide) rfl rfl (Nat.le_of_ble_eq_true rfl) (fun Z B hret => ?_)
  have hF : sx_fr h L (fun a => a = a0 ∧ h.1 a = 2) q q := sx_fr.rf
  show WA l dC dI h L ({ frames := 1, cells := 0, slots := 0, locals := 17 } : Room) 2 Z q 0 [(0, .ref a0), (1, .int n1)] []
  refine wa_aload_n B dX2_noteValue_0 rfl 0 rfl ?_
  refine wa_aload_n B dX2_noteValue_1 rfl 0 rfl ?_
  refine wa_getI B (C := RX2) (T := TX2) (N := 6) iq_X2_noteValue_X2 ha0 ka0 (by decide) rfl 4 (by decide) (by decide) (by decide +kernel) rfl (by decide) (v := (q.1 a0 4)) rfl dX2_noteValue_2 ?_
  refine wa_iconst B (-1) dX2_noteValue_5 (by decide) ?_
  refine wa_icmp_ne B 13 dX2_noteValue_6 (by decide) (fun (t_1 : ¬ (q.1 a0 4).toInt = (-1)) => ?_) (fun (t_1 : (q.1 a0 4).toInt = (-1)) => ?_)
  · refine wa_aload_n B dX2_noteValue_13 rfl 0 rfl ?_
    refine wa_getI B (C := RX2) (T := TX2) (N := 6) iq_X2_noteValue_X2 ha0 ka0 (by decide) rfl 4 (by decide) (by decide) (by decide +kernel) rfl (by decide) (v := (q.1 a0 4)) rfl dX2_noteValue_14 ?_
    refine wa_iload_n B dX2_noteValue_17 rfl 1 rfl ?_
    refine wa_mmin B (by decide +kernel) (by decide +kernel) (by decide +kernel) (by decide +kernel) (Nat.le_of_ble_eq_true rfl) (Nat.le_of_ble_eq_true rfl) dX2_noteValue_18 (fun v_2 ev_2 => ?_)
    have gv_2 : (v_2.toInt = (q.1 a0 4).toInt ∨ v_2.toInt = n1.toInt) ∧ (q.1 a0 4).toInt ≥ v_2.toInt ∧ n1.toInt ≥ v_2.toInt := by rw [ev_2]; exact zx_min
    refine wa_putI B (C := RX2) (T := TX2) (N := 6) iq_X2_noteValue_X2 ha0 ka0 (by decide) rfl 4 (by decide) (by decide) (by decide +kernel) rfl (by decide) (v := v_2) (ty := .int) tyX2 tyX2_ok nmX2 rfl (by decide +kernel) rfl rfl dX2_noteValue_21 (fun q_3 eq_3 => ?_)
    have hV_q_3 : sx_V h L q_3 := by rw [eq_3]; exact hV.pI ka0 trivial
    have hF_q_3 : sx_fr h L (fun a => a = a0 ∧ h.1 a = 2) q q_3 := hF.tr (by rw [eq_3]; exact sx_fr.pI (show a0 = a0 ∧ h.1 a0 = 2 from by omega))
    have z_4 : q_3.1 a0 4 = v_2 := by rw [eq_3]; exact sg_pI_e
    refine wa_aload_n B dX2_noteValue_24 rfl 0 rfl ?_
    refine wa_aload_n B dX2_noteValue_25 rfl 0 rfl ?_
    refine wa_getI B (C := RX2) (T := TX2) (N := 6) iq_X2_noteValue_X2 ha0 ka0 (by decide) rfl 5 (by decide) (by decide) (by decide +kernel) rfl (by decide) (v := (q_3.1 a0 5)) rfl dX2_noteValue_26 ?_
    refine wa_iload_n B dX2_noteValue_29 rfl 1 rfl ?_
    refine wa_mmax B (by decide +kernel) (by decide +kernel) (by decide +kernel) (by decide +kernel) (Nat.le_of_ble_eq_true rfl) (Nat.le_of_ble_eq_true rfl) dX2_noteValue_30 (fun v_5 ev_5 => ?_)
    have gv_5 : (v_5.toInt = (q_3.1 a0 5).toInt ∨ v_5.toInt = n1.toInt) ∧ (q_3.1 a0 5).toInt ≤ v_5.toInt ∧ n1.toInt ≤ v_5.toInt := by rw [ev_5]; exact zx_max
    refine wa_putI B (C := RX2) (T := TX2) (N := 6) iq_X2_noteValue_X2 ha0 ka0 (by decide) rfl 5 (by decide) (by decide) (by decide +kernel) rfl (by decide) (v := v_5) (ty := .int) tyX2 tyX2_ok nmX2 rfl (by decide +kernel) rfl rfl dX2_noteValue_33 (fun q_6 eq_6 => ?_)
    have hV_q_6 : sx_V h L q_6 := by rw [eq_6]; exact hV_q_3.pI ka0 trivial
    have hF_q_6 : sx_fr h L (fun a => a = a0 ∧ h.1 a = 2) q q_6 := hF_q_3.tr (by rw [eq_6]; exact sx_fr.pI (show a0 = a0 ∧ h.1 a0 = 2 from by omega))
    have z_7 : q_6.1 a0 5 = v_5 := by rw [eq_6]; exact sg_pI_e
    exact hret _ _ _ dX2_noteValue_36 ⟨hV_q_6, hF_q_6⟩
  · refine wa_iload_n B dX2_noteValue_9 rfl 1 rfl ?_
    refine wa_goto B 21 dX2_noteValue_10 (by decide) ?_
    refine wa_putI B (C := RX2) (T := TX2) (N := 6) iq_X2_noteValue_X2 ha0 ka0 (by decide) rfl 4 (by decide) (by decide) (by decide +kernel) rfl (by decide) (v := n1) (ty := .int) tyX2 tyX2_ok nmX2 rfl (by decide +kernel) rfl rfl dX2_noteValue_21 (fun q_8 eq_8 => ?_)
    have hV_q_8 : sx_V h L q_8 := by rw [eq_8]; exact hV.pI ka0 trivial
    have hF_q_8 : sx_fr h L (fun a => a = a0 ∧ h.1 a = 2) q q_8 := hF.tr (by rw [eq_8]; exact sx_fr.pI (show a0 = a0 ∧ h.1 a0 = 2 from by omega))
    have z_9 : q_8.1 a0 4 = n1 := by rw [eq_8]; exact sg_pI_e
    refine wa_aload_n B dX2_noteValue_24 rfl 0 rfl ?_
    refine wa_aload_n B dX2_noteValue_25 rfl 0 rfl ?_
    refine wa_getI B (C := RX2) (T := TX2) (N := 6) iq_X2_noteValue_X2 ha0 ka0 (by decide) rfl 5 (by decide) (by decide) (by decide +kernel) rfl (by decide) (v := (q_8.1 a0 5)) rfl dX2_noteValue_26 ?_
    refine wa_iload_n B dX2_noteValue_29 rfl 1 rfl ?_
    refine wa_mmax B (by decide +kernel) (by decide +kernel) (by decide +kernel) (by decide +kernel) (Nat.le_of_ble_eq_true rfl) (Nat.le_of_ble_eq_true rfl) dX2_noteValue_30 (fun v_10 ev_10 => ?_)
    have gv_10 : (v_10.toInt = (q_8.1 a0 5).toInt ∨ v_10.toInt = n1.toInt) ∧ (q_8.1 a0 5).toInt ≤ v_10.toInt ∧ n1.toInt ≤ v_10.toInt := by rw [ev_10]; exact zx_max
    refine wa_putI B (C := RX2) (T := TX2) (N := 6) iq_X2_noteValue_X2 ha0 ka0 (by decide) rfl 5 (by decide) (by decide) (by decide +kernel) rfl (by decide) (v := v_10) (ty := .int) tyX2 tyX2_ok nmX2 rfl (by decide +kernel) rfl rfl dX2_noteValue_33 (fun q_11 eq_11 => ?_)
    have hV_q_11 : sx_V h L q_11 := by rw [eq_11]; exact hV_q_8.pI ka0 trivial
    have hF_q_11 : sx_fr h L (fun a => a = a0 ∧ h.1 a = 2) q q_11 := hF_q_8.tr (by rw [eq_11]; exact sx_fr.pI (show a0 = a0 ∧ h.1 a0 = 2 from by omega))
    have z_12 : q_11.1 a0 5 = v_10 := by rw [eq_11]; exact sg_pI_e
    exact hret _ _ _ dX2_noteValue_36 ⟨hV_q_11, hF_q_11⟩
theorem iq_X2_valueBound_X2 : ∀ w ∈ wsX20, w ∈ wsX2_valueBound := fun _ h => List.mem_cons_of_mem _ (List.mem_append_right _ h)
set_option maxHeartbeats 4000000 in
set_option maxRecDepth 100000 in
theorem k_X2_valueBound (l : Launch) (dC : Nat → ClassId) (dI : Nat → Nat → Nat) (h : Sh) (L : List Nat) (hN : sx_nd L) (q : Sg) (hV : sx_V h L q) {a0 : Nat} (ha0 : a0 ∈ L) (ka0 : h.1 a0 = 2) (n1 : Int32)   : CMi l dC dI h L yX2_valueBound wsX2_valueBound ({ frames := 0, cells := 0, slots := 0, locals := 0 } : Room) q [.ref a0, .int n1] (fun r q' => q = q') := by
  refine cm_i (cc := cX2_valueBound) (mL := 2) (own := RX2) hN (by decide) rfl rfl (Nat.le_of_ble_eq_true rfl) (fun Z B hret => ?_)
  show WA l dC dI h L ({ frames := 0, cells := 0, slots := 0, locals := 0 } : Room) 2 Z q 0 [(0, .ref a0), (1, .int n1)] []
  refine wa_aload_n B dX2_valueBound_0 rfl 0 rfl ?_
  refine wa_getI B (C := RX2) (T := TX2) (N := 6) iq_X2_valueBound_X2 ha0 ka0 (by decide) rfl 2 (by decide) (by decide) (by decide +kernel) rfl (by decide) (v := (q.1 a0 2)) rfl dX2_valueBound_1 ?_
  refine wa_if_ne B 12 dX2_valueBound_4 (by decide) (fun (t_1 : ¬ (q.1 a0 2).toInt = 0) => ?_) (fun (t_1 : (q.1 a0 2).toInt = 0) => ?_)
  · refine wa_iload_n B dX2_valueBound_12 rfl 1 rfl ?_
    refine wa_if_eq B 23 dX2_valueBound_13 (by decide) (fun (t_2 : n1.toInt = 0) => ?_) (fun (t_2 : ¬ n1.toInt = 0) => ?_)
    · refine wa_aload_n B dX2_valueBound_23 rfl 0 rfl ?_
      refine wa_getI B (C := RX2) (T := TX2) (N := 6) iq_X2_valueBound_X2 ha0 ka0 (by decide) rfl 4 (by decide) (by decide) (by decide +kernel) rfl (by decide) (v := (q.1 a0 4)) rfl dX2_valueBound_24 ?_
      exact hret _ _ _ _ dX2_valueBound_27 rfl
    · refine wa_aload_n B dX2_valueBound_16 rfl 0 rfl ?_
      refine wa_getI B (C := RX2) (T := TX2) (N := 6) iq_X2_valueBound_X2 ha0 ka0 (by decide) rfl 5 (by decide) (by decide) (by decide +kernel) rfl (by decide) (v := (q.1 a0 5)) rfl dX2_valueBound_17 ?_
      refine wa_goto B 27 dX2_valueBound_20 (by decide) ?_
      exact hret _ _ _ _ dX2_valueBound_27 rfl
  · refine wa_aload_n B dX2_valueBound_7 rfl 0 rfl ?_
    refine wa_getI B (C := RX2) (T := TX2) (N := 6) iq_X2_valueBound_X2 ha0 ka0 (by decide) rfl 3 (by decide) (by decide) (by decide +kernel) rfl (by decide) (v := (q.1 a0 3)) rfl dX2_valueBound_8 ?_
    exact hret _ _ _ _ dX2_valueBound_11 rfl
theorem iq_X1_limit_X1 : ∀ w ∈ wsX10, w ∈ wsX1_limit := fun _ h => List.mem_cons_of_mem _ (List.mem_append_right _ h)
set_option maxHeartbeats 4000000 in
set_option maxRecDepth 100000 in
theorem k_X1_limit (l : Launch) (dC : Nat → ClassId) (dI : Nat → Nat → Nat) (h : Sh) (L : List Nat) (hN : sx_nd L) (q : Sg) (hV : sx_V h L q) {a0 : Nat} (ha0 : a0 ∈ L) (ka0 : h.1 a0 = 1) (n1 : Int32) (n2 : Int32) (n3 : Int32)  (hy0 : n3.toInt = 0 ∨ n3.toInt = 1) : CMv l dC dI h L yX1_limit wsX1_limit ({ frames := 0, cells := 0, slots := 0, locals := 0 } : Room) q [.ref a0, .int n1, .int n2, .int n3] (fun q' => sx_V h L q' ∧ sx_fr h L (fun a => a = a0 ∧ h.1 a = 1) q q') := by
  refine cm_v (cc := cX1_limit) (mL := 4) (own := RX1) hN (by decide) rfl rfl (Nat.le_of_ble_eq_true rfl) (fun Z B hret => ?_)
  have hF : sx_fr h L (fun a => a = a0 ∧ h.1 a = 1) q q := sx_fr.rf
  show WA l dC dI h L ({ frames := 0, cells := 0, slots := 0, locals := 0 } : Room) 4 Z q 0 [(0, .ref a0), (1, .int n1), (2, .int n2), (3, .int n3)] []
  refine wa_aload_n B dX1_limit_0 rfl 0 rfl ?_
  refine wa_iload_n B dX1_limit_1 rfl 1 rfl ?_
  refine wa_putI B (C := RX1) (T := TX1) (N := 7) iq_X1_limit_X1 ha0 ka0 (by decide) rfl 3 (by decide) (by decide) (by decide +kernel) rfl (by decide) (v := n1) (ty := .int) tyX1 tyX1_ok nmX1 rfl (by decide +kernel) rfl rfl dX1_limit_2 (fun q_1 eq_1 => ?_)
  have hV_q_1 : sx_V h L q_1 := by rw [eq_1]; exact hV.pI ka0 trivial
  have hF_q_1 : sx_fr h L (fun a => a = a0 ∧ h.1 a = 1) q q_1 := hF.tr (by rw [eq_1]; exact sx_fr.pI (show a0 = a0 ∧ h.1 a0 = 1 from by omega))
  have z_2 : q_1.1 a0 3 = n1 := by rw [eq_1]; exact sg_pI_e
  refine wa_aload_n B dX1_limit_5 rfl 0 rfl ?_
  refine wa_iload_n B dX1_limit_6 rfl 2 rfl ?_
  refine wa_putI B (C := RX1) (T := TX1) (N := 7) iq_X1_limit_X1 ha0 ka0 (by decide) rfl 4 (by decide) (by decide) (by decide +kernel) rfl (by decide) (v := n2) (ty := .int) tyX1 tyX1_ok nmX1 rfl (by decide +kernel) rfl rfl dX1_limit_7 (fun q_3 eq_3 => ?_)
  have hV_q_3 : sx_V h L q_3 := by rw [eq_3]; exact hV_q_1.pI ka0 trivial
  have hF_q_3 : sx_fr h L (fun a => a = a0 ∧ h.1 a = 1) q q_3 := hF_q_1.tr (by rw [eq_3]; exact sx_fr.pI (show a0 = a0 ∧ h.1 a0 = 1 from by omega))
  have z_4 : q_3.1 a0 4 = n2 := by rw [eq_3]; exact sg_pI_e
  refine wa_aload_n B dX1_limit_10 rfl 0 rfl ?_
  refine wa_iload_n B dX1_limit_11 rfl 3 rfl ?_
  refine wa_putI B (C := RX1) (T := TX1) (N := 7) iq_X1_limit_X1 ha0 ka0 (by decide) rfl 5 (by decide) (by decide) (by decide +kernel) rfl (by decide) (v := n3) (ty := .boolean) tyX1 tyX1_ok nmX1 rfl (by decide +kernel) (by rcases zx_01 (show n3.toInt = 0 ∨ n3.toInt = 1 by omega) with z | z <;> rw [z] <;> rfl) (by rcases zx_01 (show n3.toInt = 0 ∨ n3.toInt = 1 by omega) with z | z <;> rw [z] <;> rfl) dX1_limit_12 (fun q_5 eq_5 => ?_)
  have hV_q_5 : sx_V h L q_5 := by rw [eq_5]; exact hV_q_3.pI ka0 trivial
  have hF_q_5 : sx_fr h L (fun a => a = a0 ∧ h.1 a = 1) q q_5 := hF_q_3.tr (by rw [eq_5]; exact sx_fr.pI (show a0 = a0 ∧ h.1 a0 = 1 from by omega))
  have z_6 : q_5.1 a0 5 = n3 := by rw [eq_5]; exact sg_pI_e
  exact hret _ _ _ dX1_limit_15 ⟨hV_q_5, hF_q_5⟩
theorem iq_X8_kindOfName_X8 : ∀ w ∈ wsX80, w ∈ wsX8_kindOfName := fun _ h => List.mem_cons_of_mem _ (List.mem_append_right _ h)
set_option maxHeartbeats 4000000 in
set_option maxRecDepth 100000 in
theorem k_X8_kindOfName (l : Launch) (dC : Nat → ClassId) (dI : Nat → Nat → Nat) (h : Sh) (L : List Nat) (hN : sx_nd L) (q : Sg) (hV : sx_V h L q) {a0 : Nat} (ha0 : a0 ∈ L) (ka0 : h.1 a0 = 8)   : CMi l dC dI h L yX8_kindOfName wsX8_kindOfName ({ frames := 0, cells := 0, slots := 0, locals := 0 } : Room) q [.ref a0] (fun r q' => q = q') := by
  refine cm_i (cc := cX8_kindOfName) (mL := 1) (own := RX8) hN (by decide) rfl rfl (Nat.le_of_ble_eq_true rfl) (fun Z B hret => ?_)
  show WA l dC dI h L ({ frames := 0, cells := 0, slots := 0, locals := 0 } : Room) 1 Z q 0 [(0, .ref a0)] []
  refine wa_aload_n B dX8_kindOfName_0 rfl 0 rfl ?_
  refine wa_getJ B (C := RX8) (T := TX8) (N := 11) iq_X8_kindOfName_X8 ha0 ka0 (by decide) rfl 2 (by decide) (by decide) (by decide +kernel) rfl (by decide) (v := (q.2.1 a0 2)) rfl dX8_kindOfName_1 ?_
  refine wa_ldc2 B 126965465245037 (by decide +kernel) dX8_kindOfName_4 ?_
  refine wa_lcmp B dX8_kindOfName_7 (fun v_1 ev_1 => ?_)
  refine wa_if_ne B 14 dX8_kindOfName_8 (by decide) (fun (t_2 : ¬ v_1.toInt = 0) => ?_) (fun (t_2 : v_1.toInt = 0) => ?_)
  · refine wa_aload_n B dX8_kindOfName_14 rfl 0 rfl ?_
    refine wa_getJ B (C := RX8) (T := TX8) (N := 11) iq_X8_kindOfName_X8 ha0 ka0 (by decide) rfl 2 (by decide) (by decide) (by decide +kernel) rfl (by decide) (v := (q.2.1 a0 2)) rfl dX8_kindOfName_15 ?_
    refine wa_ldc2 B 500086104428 (by decide +kernel) dX8_kindOfName_18 ?_
    refine wa_lcmp B dX8_kindOfName_21 (fun v_3 ev_3 => ?_)
    refine wa_if_ne B 28 dX8_kindOfName_22 (by decide) (fun (t_4 : ¬ v_3.toInt = 0) => ?_) (fun (t_4 : v_3.toInt = 0) => ?_)
    · refine wa_aload_n B dX8_kindOfName_28 rfl 0 rfl ?_
      refine wa_getJ B (C := RX8) (T := TX8) (N := 11) iq_X8_kindOfName_X8 ha0 ka0 (by decide) rfl 2 (by decide) (by decide) (by decide +kernel) rfl (by decide) (v := (q.2.1 a0 2)) rfl dX8_kindOfName_29 ?_
      refine wa_ldc2 B 444300619364 (by decide +kernel) dX8_kindOfName_32 ?_
      refine wa_lcmp B dX8_kindOfName_35 (fun v_5 ev_5 => ?_)
      refine wa_if_ne B 44 dX8_kindOfName_36 (by decide) (fun (t_6 : ¬ v_5.toInt = 0) => ?_) (fun (t_6 : v_5.toInt = 0) => ?_)
      · refine wa_iconst B 2 dX8_kindOfName_44 (by decide) ?_
        exact hret _ _ _ _ dX8_kindOfName_45 rfl
      · refine wa_bipush B 8 dX8_kindOfName_39 (by decide) ?_
        refine wa_goto B 45 dX8_kindOfName_41 (by decide) ?_
        exact hret _ _ _ _ dX8_kindOfName_45 rfl
    · refine wa_bipush B 7 dX8_kindOfName_25 (by decide) ?_
      exact hret _ _ _ _ dX8_kindOfName_27 rfl
  · refine wa_bipush B 6 dX8_kindOfName_11 (by decide) ?_
    exact hret _ _ _ _ dX8_kindOfName_13 rfl
theorem iq_X8_number_X8 : ∀ w ∈ wsX80, w ∈ wsX8_number := fun _ h => List.mem_cons_of_mem _ (List.mem_append_right _ h)
set_option maxHeartbeats 4000000 in
set_option maxRecDepth 100000 in
theorem k_X8_number (l : Launch) (dC : Nat → ClassId) (dI : Nat → Nat → Nat) (h : Sh) (L : List Nat) (hN : sx_nd L) (q : Sg) (hV : sx_V h L q) {a0 : Nat} (ha0 : a0 ∈ L) (ka0 : h.1 a0 = 8)   : CMi l dC dI h L yX8_number wsX8_number ({ frames := 0, cells := 0, slots := 0, locals := 0 } : Room) q [.ref a0] (fun r q' => q = q') := by
  refine cm_i (cc := cX8_number) (mL := 1) (own := RX8) hN (by decide) rfl rfl (Nat.le_of_ble_eq_true rfl) (fun Z B hret => ?_)
  show WA l dC dI h L ({ frames := 0, cells := 0, slots := 0, locals := 0 } : Room) 1 Z q 0 [(0, .ref a0)] []
  refine wa_aload_n B dX8_number_0 rfl 0 rfl ?_
  refine wa_getI B (C := RX8) (T := TX8) (N := 11) iq_X8_number_X8 ha0 ka0 (by decide) rfl 3 (by decide) (by decide) (by decide +kernel) rfl (by decide) (v := (q.1 a0 3)) rfl dX8_number_1 ?_
  refine wa_iconst B (-1) dX8_number_4 (by decide) ?_
  refine wa_icmp_ne B 15 dX8_number_5 (by decide) (fun (t_1 : ¬ (q.1 a0 3).toInt = (-1)) => ?_) (fun (t_1 : (q.1 a0 3).toInt = (-1)) => ?_)
  · refine wa_bipush B 10 dX8_number_15 (by decide) ?_
    refine wa_aload_n B dX8_number_17 rfl 0 rfl ?_
    refine wa_getI B (C := RX8) (T := TX8) (N := 11) iq_X8_number_X8 ha0 ka0 (by decide) rfl 3 (by decide) (by decide) (by decide +kernel) rfl (by decide) (v := (q.1 a0 3)) rfl dX8_number_18 ?_
    refine wa_imul B dX8_number_21 (fun v_2 ev_2 => ?_)
    refine wa_aload_n B dX8_number_22 rfl 0 rfl ?_
    refine wa_getI B (C := RX8) (T := TX8) (N := 11) iq_X8_number_X8 ha0 ka0 (by decide) rfl 4 (by decide) (by decide) (by decide +kernel) rfl (by decide) (v := (q.1 a0 4)) rfl dX8_number_23 ?_
    refine wa_iadd B dX8_number_26 (fun v_3 ev_3 => ?_)
    exact hret _ _ _ _ dX8_number_27 rfl
  · refine wa_aload_n B dX8_number_8 rfl 0 rfl ?_
    refine wa_getI B (C := RX8) (T := TX8) (N := 11) iq_X8_number_X8 ha0 ka0 (by decide) rfl 4 (by decide) (by decide) (by decide +kernel) rfl (by decide) (v := (q.1 a0 4)) rfl dX8_number_9 ?_
    refine wa_goto B 27 dX8_number_12 (by decide) ?_
    exact hret _ _ _ _ dX8_number_27 rfl
theorem iq_X6_endLine_X6 : ∀ w ∈ wsX60, w ∈ wsX6_endLine := fun _ h => List.mem_cons_of_mem _ (List.mem_append_left _ (List.mem_append_right _ h))
set_option maxHeartbeats 4000000 in
set_option maxRecDepth 100000 in
theorem k_X6_endLine (l : Launch) (dC : Nat → ClassId) (dI : Nat → Nat → Nat) (h : Sh) (L : List Nat) (hN : sx_nd L) (q : Sg) (hV : sx_V h L q) {a0 : Nat} (ha0 : a0 ∈ L) (ka0 : h.1 a0 = 6)   : CMi l dC dI h L yX6_endLine wsX6_endLine ({ frames := 1, cells := 0, slots := 0, locals := 21 } : Room) q [.ref a0] (fun r q' => sx_V h L q' ∧ sx_fr h L (fun a => a = a0 ∧ h.1 a = 6 ∨ h.1 a = 8) q q' ∧ (r.toInt = 0 ∨ r.toInt = 1)) := by
  refine cm_z (cc := cX6_endLine) (mL := 1) (own := RX6) hN (by decide) rfl rfl (Nat.le_of_ble_eq_true rfl) (fun Z B hret => ?_)
  have hF : sx_fr h L (fun a => a = a0 ∧ h.1 a = 6 ∨ h.1 a = 8) q q := sx_fr.rf
  show WA l dC dI h L ({ frames := 1, cells := 0, slots := 0, locals := 21 } : Room) 1 Z q 0 [(0, .ref a0)] []
  refine wa_aload_n B dX6_endLine_0 rfl 0 rfl ?_
  refine wa_iconst B 0 dX6_endLine_1 (by decide) ?_
  refine wa_putI B (C := RX6) (T := TX6) (N := 8) iq_X6_endLine_X6 ha0 ka0 (by decide) rfl 1 (by decide) (by decide) (by decide +kernel) rfl (by decide) (v := 0) (ty := .int) tyX6 tyX6_ok nmX6 rfl (by decide +kernel) rfl rfl dX6_endLine_2 (fun q_1 eq_1 => ?_)
  have hV_q_1 : sx_V h L q_1 := by rw [eq_1]; exact hV.pI ka0 trivial
  have hF_q_1 : sx_fr h L (fun a => a = a0 ∧ h.1 a = 6 ∨ h.1 a = 8) q q_1 := hF.tr (by rw [eq_1]; exact sx_fr.pI (show a0 = a0 ∧ h.1 a0 = 6 ∨ h.1 a0 = 8 from by omega))
  have z_2 : q_1.1 a0 1 = 0 := by rw [eq_1]; exact sg_pI_e
  refine wa_aload_n B dX6_endLine_5 rfl 0 rfl ?_
  obtain ⟨a_3, ea_3, ha_3, ka_3⟩ := hV_q_1.ref (t := 8) ha0 ka0 0 rfl (by decide)
  refine wa_getR B (C := RX6) (T := TX6) (N := 8) iq_X6_endLine_X6 ha0 ka0 (by decide) rfl 0 (by decide) (by decide) (by decide +kernel) rfl (fun _ _ _ => rfl) (v := a_3) ea_3 dX6_endLine_6 ?_
  refine wa_iconst B 5 dX6_endLine_9 (by decide) ?_
  refine wa_callVi B (x := (RX8, TX8, 11)) (As := [.int 5]) (rest := []) (k_X8_demand l dC dI h L hN q_1 hV_q_1 (a0 := a_3) ha_3 ka_3 5  ) (cwV 1 B.1.2.2.2.2 gX6_endLine_X8_demand rfl rfl rfl (by decide +kernel) ⟨Nat.le_of_ble_eq_true rfl, Nat.le_of_ble_eq_true rfl⟩) ha_3 ka_3 (by decide) rfl rfl rfl (Nat.le_of_ble_eq_true rfl) dX6_endLine_10 (fun r_5 q_4 w_6 => ?_)
  obtain ⟨hV_q_4, h2_q_4, hw_6⟩ := w_6
  have hF_q_4 : sx_fr h L (fun a => a = a0 ∧ h.1 a = 6 ∨ h.1 a = 8) q q_4 := hF_q_1.tr (h2_q_4.mono (fun a (z : a = a_3 ∧ h.1 a = 8) => (show a = a0 ∧ h.1 a = 6 ∨ h.1 a = 8 from by omega)))
  exact hret _ _ _ _ dX6_endLine_13 (zx_01 (by omega)) ⟨hV_q_4, hF_q_4, (by first | omega | (refine ⟨?_, ?_⟩ <;> omega) | trivial)⟩
theorem iq_X6_brokenDigits_X6 : ∀ w ∈ wsX60, w ∈ wsX6_brokenDigits := fun _ h => List.mem_cons_of_mem _ (List.mem_append_right _ h)
set_option maxHeartbeats 4000000 in
set_option maxRecDepth 100000 in
theorem k_X6_brokenDigits (l : Launch) (dC : Nat → ClassId) (dI : Nat → Nat → Nat) (h : Sh) (L : List Nat) (hN : sx_nd L) (q : Sg) (hV : sx_V h L q) {a0 : Nat} (ha0 : a0 ∈ L) (ka0 : h.1 a0 = 6)   : CMi l dC dI h L yX6_brokenDigits wsX6_brokenDigits ({ frames := 0, cells := 0, slots := 0, locals := 0 } : Room) q [.ref a0] (fun r q' => q = q') := by
  refine cm_i (cc := cX6_brokenDigits) (mL := 1) (own := RX6) hN (by decide) rfl rfl (Nat.le_of_ble_eq_true rfl) (fun Z B hret => ?_)
  show WA l dC dI h L ({ frames := 0, cells := 0, slots := 0, locals := 0 } : Room) 1 Z q 0 [(0, .ref a0)] []
  refine wa_aload_n B dX6_brokenDigits_0 rfl 0 rfl ?_
  refine wa_getI B (C := RX6) (T := TX6) (N := 8) iq_X6_brokenDigits_X6 ha0 ka0 (by decide) rfl 6 (by decide) (by decide) (by decide +kernel) rfl (by decide) (v := (q.1 a0 6)) rfl dX6_brokenDigits_1 ?_
  refine wa_bipush B 10 dX6_brokenDigits_4 (by decide) ?_
  refine wa_icmp_ne B 13 dX6_brokenDigits_6 (by decide) (fun (t_1 : ¬ (q.1 a0 6).toInt = 10) => ?_) (fun (t_1 : (q.1 a0 6).toInt = 10) => ?_)
  · refine wa_iconst B 0 dX6_brokenDigits_13 (by decide) ?_
    refine wa_aload_n B dX6_brokenDigits_14 rfl 0 rfl ?_
    refine wa_getI B (C := RX6) (T := TX6) (N := 8) iq_X6_brokenDigits_X6 ha0 ka0 (by decide) rfl 7 (by decide) (by decide) (by decide +kernel) rfl (by decide) (v := (q.1 a0 7)) rfl dX6_brokenDigits_15 ?_
    refine wa_bipush B 10 dX6_brokenDigits_18 (by decide) ?_
    refine wa_icmp_ne B 27 dX6_brokenDigits_20 (by decide) (fun (t_2 : ¬ (q.1 a0 7).toInt = 10) => ?_) (fun (t_2 : (q.1 a0 7).toInt = 10) => ?_)
    · refine wa_iconst B 0 dX6_brokenDigits_27 (by decide) ?_
      refine wa_iadd B dX6_brokenDigits_28 (fun v_3 ev_3 => ?_)
      exact hret _ _ _ _ dX6_brokenDigits_29 rfl
    · refine wa_iconst B 1 dX6_brokenDigits_23 (by decide) ?_
      refine wa_goto B 28 dX6_brokenDigits_24 (by decide) ?_
      refine wa_iadd B dX6_brokenDigits_28 (fun v_4 ev_4 => ?_)
      exact hret _ _ _ _ dX6_brokenDigits_29 rfl
  · refine wa_iconst B 1 dX6_brokenDigits_9 (by decide) ?_
    refine wa_goto B 14 dX6_brokenDigits_10 (by decide) ?_
    refine wa_aload_n B dX6_brokenDigits_14 rfl 0 rfl ?_
    refine wa_getI B (C := RX6) (T := TX6) (N := 8) iq_X6_brokenDigits_X6 ha0 ka0 (by decide) rfl 7 (by decide) (by decide) (by decide +kernel) rfl (by decide) (v := (q.1 a0 7)) rfl dX6_brokenDigits_15 ?_
    refine wa_bipush B 10 dX6_brokenDigits_18 (by decide) ?_
    refine wa_icmp_ne B 27 dX6_brokenDigits_20 (by decide) (fun (t_5 : ¬ (q.1 a0 7).toInt = 10) => ?_) (fun (t_5 : (q.1 a0 7).toInt = 10) => ?_)
    · refine wa_iconst B 0 dX6_brokenDigits_27 (by decide) ?_
      refine wa_iadd B dX6_brokenDigits_28 (fun v_6 ev_6 => ?_)
      exact hret _ _ _ _ dX6_brokenDigits_29 rfl
    · refine wa_iconst B 1 dX6_brokenDigits_23 (by decide) ?_
      refine wa_goto B 28 dX6_brokenDigits_24 (by decide) ?_
      refine wa_iadd B dX6_brokenDigits_28 (fun v_7 ev_7 => ?_)
      exact hret _ _ _ _ dX6_brokenDigits_29 rfl
set_option maxHeartbeats 4000000 in
set_option maxRecDepth 100000 in
theorem k_X6_isLesser (l : Launch) (dC : Nat → ClassId) (dI : Nat → Nat → Nat) (h : Sh) (L : List Nat) (hN : sx_nd L) (q : Sg) (hV : sx_V h L q) (n1 : Int32) (n2 : Int32)   : CMi l dC dI h L yX6_isLesser wsX6_isLesser ({ frames := 1, cells := 0, slots := 0, locals := 20 } : Room) q [.int n1, .int n2] (fun r q' => q = q' ∧ (r.toInt = 0 ∨ r.toInt = 1)) := by
  refine cm_z (cc := cX6_isLesser) (mL := 2) (own := RX6) hN (by decide) rfl rfl (Nat.le_of_ble_eq_true rfl) (fun Z B hret => ?_)
  show WA l dC dI h L ({ frames := 1, cells := 0, slots := 0, locals := 20 } : Room) 2 Z q 0 [(0, .int n1), (1, .int n2)] []
  refine wa_iload_n B dX6_isLesser_0 rfl 0 rfl ?_
  refine wa_iload_n B dX6_isLesser_1 rfl 1 rfl ?_
  refine wa_icmp_ge B 20 dX6_isLesser_2 (by decide) (fun (t_1 : n2.toInt ≤ n1.toInt) => ?_) (fun (t_1 : ¬ n2.toInt ≤ n1.toInt) => ?_)
  · refine wa_iconst B 0 dX6_isLesser_20 (by decide) ?_
    exact hret _ _ _ _ dX6_isLesser_21 (Or.inl rfl) ⟨rfl, (by have h9 : (0 : Int32).toInt = 0 := rfl; first | omega | (refine ⟨?_, ?_⟩ <;> omega) | trivial)⟩
  · refine wa_iload_n B dX6_isLesser_5 rfl 0 rfl ?_
    refine wa_callSi B (As := [.int n1]) (rest := []) (k_X9_systemOf l dC dI h L hN q hV n1  ) (va_cwS 1 B.1.2.2.2.2 gX6_isLesser_X9_systemOf rfl rfl rfl (by decide +kernel) ⟨Nat.le_of_ble_eq_true rfl, Nat.le_of_ble_eq_true rfl⟩) rfl rfl (Nat.le_of_ble_eq_true rfl) dX6_isLesser_6 (fun r_3 q_2 w_4 => ?_)
    subst w_4
    refine wa_iload_n B dX6_isLesser_9 rfl 1 rfl ?_
    refine wa_callSi B (As := [.int n2]) (rest := [.int r_3]) (k_X9_systemOf l dC dI h L hN q hV n2  ) (va_cwS 1 B.1.2.2.2.2 gX6_isLesser_X9_systemOf rfl rfl rfl (by decide +kernel) ⟨Nat.le_of_ble_eq_true rfl, Nat.le_of_ble_eq_true rfl⟩) rfl rfl (Nat.le_of_ble_eq_true rfl) dX6_isLesser_10 (fun r_6 q_5 w_7 => ?_)
    subst w_7
    refine wa_icmp_ne B 20 dX6_isLesser_13 (by decide) (fun (t_8 : ¬ r_3.toInt = r_6.toInt) => ?_) (fun (t_8 : r_3.toInt = r_6.toInt) => ?_)
    · refine wa_iconst B 0 dX6_isLesser_20 (by decide) ?_
      exact hret _ _ _ _ dX6_isLesser_21 (Or.inl rfl) ⟨rfl, (by have h9 : (0 : Int32).toInt = 0 := rfl; first | omega | (refine ⟨?_, ?_⟩ <;> omega) | trivial)⟩
    · refine wa_iconst B 1 dX6_isLesser_16 (by decide) ?_
      refine wa_goto B 21 dX6_isLesser_17 (by decide) ?_
      exact hret _ _ _ _ dX6_isLesser_21 (Or.inr rfl) ⟨rfl, (by have h9 : (1 : Int32).toInt = 1 := rfl; first | omega | (refine ⟨?_, ?_⟩ <;> omega) | trivial)⟩
theorem iq_X11_isTablet_X11 : ∀ w ∈ wsX110, w ∈ wsX11_isTablet := fun _ h => List.mem_cons_of_mem _ (List.mem_append_right _ h)
set_option maxHeartbeats 4000000 in
set_option maxRecDepth 100000 in
theorem k_X11_isTablet (l : Launch) (dC : Nat → ClassId) (dI : Nat → Nat → Nat) (h : Sh) (L : List Nat) (hN : sx_nd L) (q : Sg) (hV : sx_V h L q) {a0 : Nat} (ha0 : a0 ∈ L) (ka0 : h.1 a0 = 11) (n1 : Int32)   : CMi l dC dI h L yX11_isTablet wsX11_isTablet ({ frames := 0, cells := 0, slots := 0, locals := 0 } : Room) q [.ref a0, .int n1] (fun r q' => q = q' ∧ (r.toInt = 1 ∧ 0 ≤ n1.toInt ∧ n1.toInt < (q.1 a0 13).toInt ∧ n1.toInt < 8 ∨ r.toInt = 0)) := by
  refine cm_z (cc := cX11_isTablet) (mL := 2) (own := RX11) hN (by decide) rfl rfl (Nat.le_of_ble_eq_true rfl) (fun Z B hret => ?_)
  show WA l dC dI h L ({ frames := 0, cells := 0, slots := 0, locals := 0 } : Room) 2 Z q 0 [(0, .ref a0), (1, .int n1)] []
  refine wa_iload_n B dX11_isTablet_0 rfl 1 rfl ?_
  refine wa_if_lt B 16 dX11_isTablet_1 (by decide) (fun (t_1 : n1.toInt < 0) => ?_) (fun (t_1 : ¬ n1.toInt < 0) => ?_)
  · refine wa_iconst B 0 dX11_isTablet_16 (by decide) ?_
    exact hret _ _ _ _ dX11_isTablet_17 (Or.inl rfl) ⟨rfl, (by have h9 : (0 : Int32).toInt = 0 := rfl; first | omega | (refine ⟨?_, ?_⟩ <;> omega) | trivial)⟩
  · refine wa_iload_n B dX11_isTablet_4 rfl 1 rfl ?_
    refine wa_aload_n B dX11_isTablet_5 rfl 0 rfl ?_
    refine wa_getI B (C := RX11) (T := TX11) (N := 16) iq_X11_isTablet_X11 ha0 ka0 (by decide) rfl 13 (by decide) (by decide) (by decide +kernel) rfl (by decide) (v := (q.1 a0 13)) rfl dX11_isTablet_6 ?_
    have g_2 : (0 : Int) ≤ (q.1 a0 13).toInt ∧ (q.1 a0 13).toInt ≤ 8 := hV.int ha0 ka0 13
    refine wa_icmp_ge B 16 dX11_isTablet_9 (by decide) (fun (t_3 : (q.1 a0 13).toInt ≤ n1.toInt) => ?_) (fun (t_3 : ¬ (q.1 a0 13).toInt ≤ n1.toInt) => ?_)
    · refine wa_iconst B 0 dX11_isTablet_16 (by decide) ?_
      exact hret _ _ _ _ dX11_isTablet_17 (Or.inl rfl) ⟨rfl, (by have h9 : (0 : Int32).toInt = 0 := rfl; first | omega | (refine ⟨?_, ?_⟩ <;> omega) | trivial)⟩
    · refine wa_iconst B 1 dX11_isTablet_12 (by decide) ?_
      refine wa_goto B 17 dX11_isTablet_13 (by decide) ?_
      exact hret _ _ _ _ dX11_isTablet_17 (Or.inr rfl) ⟨rfl, (by have h9 : (1 : Int32).toInt = 1 := rfl; first | omega | (refine ⟨?_, ?_⟩ <;> omega) | trivial)⟩
theorem iq_X11_isSystem_X11 : ∀ w ∈ wsX110, w ∈ wsX11_isSystem := fun _ h => List.mem_cons_of_mem _ (List.mem_append_left _ (List.mem_append_right _ h))
theorem iq_X11_isSystem_X9 : ∀ w ∈ wsX90, w ∈ wsX11_isSystem := fun _ h => List.mem_cons_of_mem _ (List.mem_append_right _ h)
set_option maxHeartbeats 4000000 in
set_option maxRecDepth 100000 in
theorem k_X11_isSystem (l : Launch) (dC : Nat → ClassId) (dI : Nat → Nat → Nat) (h : Sh) (L : List Nat) (hN : sx_nd L) (q : Sg) (hV : sx_V h L q) {a0 : Nat} (ha0 : a0 ∈ L) (ka0 : h.1 a0 = 11) (n1 : Int32)   : CMi l dC dI h L yX11_isSystem wsX11_isSystem ({ frames := 0, cells := 0, slots := 0, locals := 0 } : Room) q [.ref a0, .int n1] (fun r q' => q = q' ∧ (r.toInt = 1 ∧ 0 ≤ n1.toInt ∧ n1.toInt < 3 ∨ r.toInt = 0)) := by
  refine cm_z (cc := cX11_isSystem) (mL := 2) (own := RX11) hN (by decide) rfl rfl (Nat.le_of_ble_eq_true rfl) (fun Z B hret => ?_)
  show WA l dC dI h L ({ frames := 0, cells := 0, slots := 0, locals := 0 } : Room) 2 Z q 0 [(0, .ref a0), (1, .int n1)] []
  refine wa_iload_n B dX11_isSystem_0 rfl 1 rfl ?_
  refine wa_if_lt B 19 dX11_isSystem_1 (by decide) (fun (t_1 : n1.toInt < 0) => ?_) (fun (t_1 : ¬ n1.toInt < 0) => ?_)
  · refine wa_iconst B 0 dX11_isSystem_19 (by decide) ?_
    exact hret _ _ _ _ dX11_isSystem_20 (Or.inl rfl) ⟨rfl, (by have h9 : (0 : Int32).toInt = 0 := rfl; first | omega | (refine ⟨?_, ?_⟩ <;> omega) | trivial)⟩
  · refine wa_iload_n B dX11_isSystem_4 rfl 1 rfl ?_
    refine wa_aload_n B dX11_isSystem_5 rfl 0 rfl ?_
    obtain ⟨a_2, ea_2, ha_2, ka_2⟩ := hV.ref (t := 9) ha0 ka0 11 rfl (by decide)
    refine wa_getR B (C := RX11) (T := TX11) (N := 16) iq_X11_isSystem_X11 ha0 ka0 (by decide) rfl 11 (by decide) (by decide) (by decide +kernel) rfl (fun _ _ _ => rfl) (v := a_2) ea_2 dX11_isSystem_6 ?_
    refine wa_getI B (C := RX9) (T := TX9) (N := 7) iq_X11_isSystem_X9 ha_2 ka_2 (by decide) rfl 6 (by decide) (by decide) (by decide +kernel) rfl (by decide) (v := (q.1 a_2 6)) rfl dX11_isSystem_9 ?_
    have g_3 : (0 : Int) ≤ (q.1 a_2 6).toInt ∧ (q.1 a_2 6).toInt ≤ 3 := hV.int ha_2 ka_2 6
    refine wa_icmp_ge B 19 dX11_isSystem_12 (by decide) (fun (t_4 : (q.1 a_2 6).toInt ≤ n1.toInt) => ?_) (fun (t_4 : ¬ (q.1 a_2 6).toInt ≤ n1.toInt) => ?_)
    · refine wa_iconst B 0 dX11_isSystem_19 (by decide) ?_
      exact hret _ _ _ _ dX11_isSystem_20 (Or.inl rfl) ⟨rfl, (by have h9 : (0 : Int32).toInt = 0 := rfl; first | omega | (refine ⟨?_, ?_⟩ <;> omega) | trivial)⟩
    · refine wa_iconst B 1 dX11_isSystem_15 (by decide) ?_
      refine wa_goto B 20 dX11_isSystem_16 (by decide) ?_
      exact hret _ _ _ _ dX11_isSystem_20 (Or.inr rfl) ⟨rfl, (by have h9 : (1 : Int32).toInt = 1 := rfl; first | omega | (refine ⟨?_, ?_⟩ <;> omega) | trivial)⟩
theorem iq_X11_isFragment_X11 : ∀ w ∈ wsX110, w ∈ wsX11_isFragment := fun _ h => List.mem_cons_of_mem _ (List.mem_append_right _ h)
set_option maxHeartbeats 4000000 in
set_option maxRecDepth 100000 in
theorem k_X11_isFragment (l : Launch) (dC : Nat → ClassId) (dI : Nat → Nat → Nat) (h : Sh) (L : List Nat) (hN : sx_nd L) (q : Sg) (hV : sx_V h L q) {a0 : Nat} (ha0 : a0 ∈ L) (ka0 : h.1 a0 = 11) (n1 : Int32)   : CMi l dC dI h L yX11_isFragment wsX11_isFragment ({ frames := 0, cells := 0, slots := 0, locals := 0 } : Room) q [.ref a0, .int n1] (fun r q' => q = q' ∧ (r.toInt = 1 ∧ 0 ≤ n1.toInt ∧ n1.toInt < (q.1 a0 14).toInt ∧ n1.toInt < 12 ∨ r.toInt = 0)) := by
  refine cm_z (cc := cX11_isFragment) (mL := 2) (own := RX11) hN (by decide) rfl rfl (Nat.le_of_ble_eq_true rfl) (fun Z B hret => ?_)
  show WA l dC dI h L ({ frames := 0, cells := 0, slots := 0, locals := 0 } : Room) 2 Z q 0 [(0, .ref a0), (1, .int n1)] []
  refine wa_iload_n B dX11_isFragment_0 rfl 1 rfl ?_
  refine wa_if_lt B 16 dX11_isFragment_1 (by decide) (fun (t_1 : n1.toInt < 0) => ?_) (fun (t_1 : ¬ n1.toInt < 0) => ?_)
  · refine wa_iconst B 0 dX11_isFragment_16 (by decide) ?_
    exact hret _ _ _ _ dX11_isFragment_17 (Or.inl rfl) ⟨rfl, (by have h9 : (0 : Int32).toInt = 0 := rfl; first | omega | (refine ⟨?_, ?_⟩ <;> omega) | trivial)⟩
  · refine wa_iload_n B dX11_isFragment_4 rfl 1 rfl ?_
    refine wa_aload_n B dX11_isFragment_5 rfl 0 rfl ?_
    refine wa_getI B (C := RX11) (T := TX11) (N := 16) iq_X11_isFragment_X11 ha0 ka0 (by decide) rfl 14 (by decide) (by decide) (by decide +kernel) rfl (by decide) (v := (q.1 a0 14)) rfl dX11_isFragment_6 ?_
    have g_2 : (0 : Int) ≤ (q.1 a0 14).toInt ∧ (q.1 a0 14).toInt ≤ 12 := hV.int ha0 ka0 14
    refine wa_icmp_ge B 16 dX11_isFragment_9 (by decide) (fun (t_3 : (q.1 a0 14).toInt ≤ n1.toInt) => ?_) (fun (t_3 : ¬ (q.1 a0 14).toInt ≤ n1.toInt) => ?_)
    · refine wa_iconst B 0 dX11_isFragment_16 (by decide) ?_
      exact hret _ _ _ _ dX11_isFragment_17 (Or.inl rfl) ⟨rfl, (by have h9 : (0 : Int32).toInt = 0 := rfl; first | omega | (refine ⟨?_, ?_⟩ <;> omega) | trivial)⟩
    · refine wa_iconst B 1 dX11_isFragment_12 (by decide) ?_
      refine wa_goto B 17 dX11_isFragment_13 (by decide) ?_
      exact hret _ _ _ _ dX11_isFragment_17 (Or.inr rfl) ⟨rfl, (by have h9 : (1 : Int32).toInt = 1 := rfl; first | omega | (refine ⟨?_, ?_⟩ <;> omega) | trivial)⟩
set_option maxHeartbeats 4000000 in
set_option maxRecDepth 100000 in
theorem k_X11_isEdge (l : Launch) (dC : Nat → ClassId) (dI : Nat → Nat → Nat) (h : Sh) (L : List Nat) (hN : sx_nd L) (q : Sg) (hV : sx_V h L q) (n1 : Int32)   : CMi l dC dI h L yX11_isEdge wsX11_isEdge ({ frames := 0, cells := 0, slots := 0, locals := 0 } : Room) q [.int n1] (fun r q' => q = q' ∧ (r.toInt = 1 ∧ 0 ≤ n1.toInt ∧ n1.toInt ≤ 99999999 ∨ r.toInt = 0 ∧ ¬ (0 ≤ n1.toInt ∧ n1.toInt ≤ 99999999))) := by
  refine cm_z (cc := cX11_isEdge) (mL := 1) (own := RX11) hN (by decide) rfl rfl (Nat.le_of_ble_eq_true rfl) (fun Z B hret => ?_)
  show WA l dC dI h L ({ frames := 0, cells := 0, slots := 0, locals := 0 } : Room) 1 Z q 0 [(0, .int n1)] []
  refine wa_iload_n B dX11_isEdge_0 rfl 0 rfl ?_
  refine wa_if_lt B 15 dX11_isEdge_1 (by decide) (fun (t_1 : n1.toInt < 0) => ?_) (fun (t_1 : ¬ n1.toInt < 0) => ?_)
  · refine wa_iconst B 0 dX11_isEdge_15 (by decide) ?_
    exact hret _ _ _ _ dX11_isEdge_16 (Or.inl rfl) ⟨rfl, (by have h9 : (0 : Int32).toInt = 0 := rfl; first | omega | (refine ⟨?_, ?_⟩ <;> omega) | trivial)⟩
  · refine wa_iload_n B dX11_isEdge_4 rfl 0 rfl ?_
    refine wa_ldcw B 99999999 (by decide +kernel) dX11_isEdge_5 ?_
    refine wa_icmp_gt B 15 dX11_isEdge_8 (by decide) (fun (t_2 : 99999999 < n1.toInt) => ?_) (fun (t_2 : ¬ 99999999 < n1.toInt) => ?_)
    · refine wa_iconst B 0 dX11_isEdge_15 (by decide) ?_
      exact hret _ _ _ _ dX11_isEdge_16 (Or.inl rfl) ⟨rfl, (by have h9 : (0 : Int32).toInt = 0 := rfl; first | omega | (refine ⟨?_, ?_⟩ <;> omega) | trivial)⟩
    · refine wa_iconst B 1 dX11_isEdge_11 (by decide) ?_
      refine wa_goto B 16 dX11_isEdge_12 (by decide) ?_
      exact hret _ _ _ _ dX11_isEdge_16 (Or.inr rfl) ⟨rfl, (by have h9 : (1 : Int32).toInt = 1 := rfl; first | omega | (refine ⟨?_, ?_⟩ <;> omega) | trivial)⟩
