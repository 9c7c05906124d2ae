set_option maxHeartbeats 4000000 in
set_option maxRecDepth 100000 in
theorem k_X8_isBlank_c (l : Launch) (dC : Nat → ClassId) (dI : Nat → Nat → Nat) (h : Sh) (L : List Nat) (hN : sx_nd L) (q : Sg) (hV : sx_V h L q) (n1 : Int32)    : CMi l dC dI h L yX8_isBlank wsX8_isBlank ({ frames := 0, cells := 0, slots := 0, locals := 0 } : Room) q [.int n1] (fun r q' => q = q' ∧ (r.toInt = 1 ∧ (n1.toInt = 32 ∨ n1.toInt = 10) ∨ r.toInt = 0 ∧ ¬ (n1.toInt = 32 ∨ n1.toInt = 10))) := by
  refine cm_z (cc := cX8_isBlank) (mL := 1) (own := RX8) hN (by decide) rfl rfl (Nat.le_of_ble_eq_true rfl) (fun Z B hret => ?_)
  show WA l dC dI h L ({ frames := 0, cells := 0, slots := 0, locals := 0 } : Room) 1 Z q 0 [(0, .int n1)] []
  refine wa_iload_n B dX8_isBlank_0 rfl 0 rfl ?_
  refine wa_bipush B 32 dX8_isBlank_1 (by decide) ?_
  refine wa_icmp_eq B 12 dX8_isBlank_3 (by decide) (fun (t_1 : n1.toInt = 32) => ?_) (fun (t_1 : ¬ n1.toInt = 32) => ?_)
  · refine wa_iconst B 1 dX8_isBlank_12 (by decide) ?_
    refine wa_goto B 17 dX8_isBlank_13 (by decide) ?_
    exact hret _ _ _ _ dX8_isBlank_17 (Or.inr rfl) ⟨rfl, (by have h9 : (1 : Int32).toInt = 1 := rfl; first | omega | (refine ⟨?_, ?_⟩ <;> omega) | trivial)⟩
  · refine wa_iload_n B dX8_isBlank_6 rfl 0 rfl ?_
    refine wa_bipush B 10 dX8_isBlank_7 (by decide) ?_
    refine wa_icmp_ne B 16 dX8_isBlank_9 (by decide) (fun (t_2 : ¬ n1.toInt = 10) => ?_) (fun (t_2 : n1.toInt = 10) => ?_)
    · refine wa_iconst B 0 dX8_isBlank_16 (by decide) ?_
      exact hret _ _ _ _ dX8_isBlank_17 (Or.inl rfl) ⟨rfl, (by have h9 : (0 : Int32).toInt = 0 := rfl; first | omega | (refine ⟨?_, ?_⟩ <;> omega) | trivial)⟩
    · refine wa_iconst B 1 dX8_isBlank_12 (by decide) ?_
      refine wa_goto B 17 dX8_isBlank_13 (by decide) ?_
      exact hret _ _ _ _ dX8_isBlank_17 (Or.inr rfl) ⟨rfl, (by have h9 : (1 : Int32).toInt = 1 := rfl; first | omega | (refine ⟨?_, ?_⟩ <;> omega) | trivial)⟩
set_option maxHeartbeats 4000000 in
set_option maxRecDepth 100000 in
theorem k_X8_isSmallLetter_c (l : Launch) (dC : Nat → ClassId) (dI : Nat → Nat → Nat) (h : Sh) (L : List Nat) (hN : sx_nd L) (q : Sg) (hV : sx_V h L q) (n1 : Int32)    : CMi l dC dI h L yX8_isSmallLetter wsX8_isSmallLetter ({ frames := 0, cells := 0, slots := 0, locals := 0 } : Room) q [.int n1] (fun r q' => q = q' ∧ (r.toInt = 1 ∧ (97 ≤ n1.toInt ∧ n1.toInt ≤ 122) ∨ r.toInt = 0 ∧ ¬ (97 ≤ n1.toInt ∧ n1.toInt ≤ 122))) := by
  refine cm_z (cc := cX8_isSmallLetter) (mL := 1) (own := RX8) hN (by decide) rfl rfl (Nat.le_of_ble_eq_true rfl) (fun Z B hret => ?_)
  show WA l dC dI h L ({ frames := 0, cells := 0, slots := 0, locals := 0 } : Room) 1 Z q 0 [(0, .int n1)] []
  refine wa_iload_n B dX8_isSmallLetter_0 rfl 0 rfl ?_
  refine wa_bipush B 97 dX8_isSmallLetter_1 (by decide) ?_
  refine wa_icmp_lt B 16 dX8_isSmallLetter_3 (by decide) (fun (t_1 : n1.toInt < 97) => ?_) (fun (t_1 : ¬ n1.toInt < 97) => ?_)
  · refine wa_iconst B 0 dX8_isSmallLetter_16 (by decide) ?_
    exact hret _ _ _ _ dX8_isSmallLetter_17 (Or.inl rfl) ⟨rfl, (by have h9 : (0 : Int32).toInt = 0 := rfl; first | omega | (refine ⟨?_, ?_⟩ <;> omega) | trivial)⟩
  · refine wa_iload_n B dX8_isSmallLetter_6 rfl 0 rfl ?_
    refine wa_bipush B 122 dX8_isSmallLetter_7 (by decide) ?_
    refine wa_icmp_gt B 16 dX8_isSmallLetter_9 (by decide) (fun (t_2 : 122 < n1.toInt) => ?_) (fun (t_2 : ¬ 122 < n1.toInt) => ?_)
    · refine wa_iconst B 0 dX8_isSmallLetter_16 (by decide) ?_
      exact hret _ _ _ _ dX8_isSmallLetter_17 (Or.inl rfl) ⟨rfl, (by have h9 : (0 : Int32).toInt = 0 := rfl; first | omega | (refine ⟨?_, ?_⟩ <;> omega) | trivial)⟩
    · refine wa_iconst B 1 dX8_isSmallLetter_12 (by decide) ?_
      refine wa_goto B 17 dX8_isSmallLetter_13 (by decide) ?_
      exact hret _ _ _ _ dX8_isSmallLetter_17 (Or.inr rfl) ⟨rfl, (by have h9 : (1 : Int32).toInt = 1 := rfl; first | omega | (refine ⟨?_, ?_⟩ <;> omega) | trivial)⟩
set_option maxHeartbeats 4000000 in
set_option maxRecDepth 100000 in
theorem k_X8_isDigit_c (l : Launch) (dC : Nat → ClassId) (dI : Nat → Nat → Nat) (h : Sh) (L : List Nat) (hN : sx_nd L) (q : Sg) (hV : sx_V h L q) {a0 : Nat} (ha0 : a0 ∈ L) (ka0 : h.1 a0 = 8) (n1 : Int32)   (hy0 : (q.1 a0 9).toInt = 0) : CMi l dC dI h L yX8_isDigit wsX8_isDigit ({ frames := 0, cells := 0, slots := 0, locals := 0 } : Room) q [.ref a0, .int n1] (fun r q' => q = q' ∧ (r.toInt = 1 ∧ (48 ≤ n1.toInt ∧ n1.toInt ≤ 57) ∨ r.toInt = 0 ∧ ¬ (48 ≤ n1.toInt ∧ n1.toInt ≤ 57))) := by
  refine cm_z (cc := cX8_isDigit) (mL := 2) (own := RX8) hN (by decide) rfl rfl (Nat.le_of_ble_eq_true rfl) (fun Z B hret => ?_)
  show WA l dC dI h L ({ frames := 0, cells := 0, slots := 0, locals := 0 } : Room) 2 Z q 0 [(0, .ref a0), (1, .int n1)] []
  refine wa_iload_n B dX8_isDigit_0 rfl 1 rfl ?_
  refine wa_bipush B 48 dX8_isDigit_1 (by decide) ?_
  refine wa_icmp_lt B 12 dX8_isDigit_3 (by decide) (fun (t_1 : n1.toInt < 48) => ?_) (fun (t_1 : ¬ n1.toInt < 48) => ?_)
  · refine wa_aload_n B dX8_isDigit_12 rfl 0 rfl ?_
    refine wa_getI B (C := RX8) (T := TX8) (N := 11) iq_X8_isDigit_X8 ha0 ka0 (by decide) rfl 9 (by decide) (by decide) (by decide +kernel) rfl (by decide) (v := (q.1 a0 9)) rfl dX8_isDigit_13 ?_
    refine wa_if_eq B 29 dX8_isDigit_16 (by decide) (fun (t_2 : (q.1 a0 9).toInt = 0) => ?_) (fun (t_2 : ¬ (q.1 a0 9).toInt = 0) => ?_)
    · refine wa_iconst B 0 dX8_isDigit_29 (by decide) ?_
      exact hret _ _ _ _ dX8_isDigit_30 (Or.inl rfl) ⟨rfl, (by have h9 : (0 : Int32).toInt = 0 := rfl; first | omega | (refine ⟨?_, ?_⟩ <;> omega) | trivial)⟩
    · refine wa_iload_n B dX8_isDigit_19 rfl 1 rfl ?_
      refine wa_bipush B 63 dX8_isDigit_20 (by decide) ?_
      refine wa_icmp_ne B 29 dX8_isDigit_22 (by decide) (fun (t_3 : ¬ n1.toInt = 63) => ?_) (fun (t_3 : n1.toInt = 63) => ?_)
      · refine wa_iconst B 0 dX8_isDigit_29 (by decide) ?_
        exact hret _ _ _ _ dX8_isDigit_30 (Or.inl rfl) ⟨rfl, (by have h9 : (0 : Int32).toInt = 0 := rfl; first | omega | (refine ⟨?_, ?_⟩ <;> omega) | trivial)⟩
      · refine wa_iconst B 1 dX8_isDigit_25 (by decide) ?_
        refine wa_goto B 30 dX8_isDigit_26 (by decide) ?_
        exact hret _ _ _ _ dX8_isDigit_30 (Or.inr rfl) ⟨rfl, (by have h9 : (1 : Int32).toInt = 1 := rfl; first | omega | (refine ⟨?_, ?_⟩ <;> omega) | trivial)⟩
  · refine wa_iload_n B dX8_isDigit_6 rfl 1 rfl ?_
    refine wa_bipush B 57 dX8_isDigit_7 (by decide) ?_
    refine wa_icmp_le B 25 dX8_isDigit_9 (by decide) (fun (t_4 : n1.toInt ≤ 57) => ?_) (fun (t_4 : ¬ n1.toInt ≤ 57) => ?_)
    · refine wa_iconst B 1 dX8_isDigit_25 (by decide) ?_
      refine wa_goto B 30 dX8_isDigit_26 (by decide) ?_
      exact hret _ _ _ _ dX8_isDigit_30 (Or.inr rfl) ⟨rfl, (by have h9 : (1 : Int32).toInt = 1 := rfl; first | omega | (refine ⟨?_, ?_⟩ <;> omega) | trivial)⟩
    · refine wa_aload_n B dX8_isDigit_12 rfl 0 rfl ?_
      refine wa_getI B (C := RX8) (T := TX8) (N := 11) iq_X8_isDigit_X8 ha0 ka0 (by decide) rfl 9 (by decide) (by decide) (by decide +kernel) rfl (by decide) (v := (q.1 a0 9)) rfl dX8_isDigit_13 ?_
      refine wa_if_eq B 29 dX8_isDigit_16 (by decide) (fun (t_5 : (q.1 a0 9).toInt = 0) => ?_) (fun (t_5 : ¬ (q.1 a0 9).toInt = 0) => ?_)
      · refine wa_iconst B 0 dX8_isDigit_29 (by decide) ?_
        exact hret _ _ _ _ dX8_isDigit_30 (Or.inl rfl) ⟨rfl, (by have h9 : (0 : Int32).toInt = 0 := rfl; first | omega | (refine ⟨?_, ?_⟩ <;> omega) | trivial)⟩
      · refine wa_iload_n B dX8_isDigit_19 rfl 1 rfl ?_
        refine wa_bipush B 63 dX8_isDigit_20 (by decide) ?_
        refine wa_icmp_ne B 29 dX8_isDigit_22 (by decide) (fun (t_6 : ¬ n1.toInt = 63) => ?_) (fun (t_6 : n1.toInt = 63) => ?_)
        · refine wa_iconst B 0 dX8_isDigit_29 (by decide) ?_
          exact hret _ _ _ _ dX8_isDigit_30 (Or.inl rfl) ⟨rfl, (by have h9 : (0 : Int32).toInt = 0 := rfl; first | omega | (refine ⟨?_, ?_⟩ <;> omega) | trivial)⟩
        · refine wa_iconst B 1 dX8_isDigit_25 (by decide) ?_
          refine wa_goto B 30 dX8_isDigit_26 (by decide) ?_
          exact hret _ _ _ _ dX8_isDigit_30 (Or.inr rfl) ⟨rfl, (by have h9 : (1 : Int32).toInt = 1 := rfl; first | omega | (refine ⟨?_, ?_⟩ <;> omega) | trivial)⟩
set_option maxHeartbeats 4000000 in
set_option maxRecDepth 100000 in
theorem k_X8_kindOfName_c (l : Launch) (dC : Nat → ClassId) (dI : Nat → Nat → Nat) (h : Sh) (L : List Nat) (hN : sx_nd L) (q : Sg) (hV : sx_V h L q) {a0 : Nat} (ha0 : a0 ∈ L) (ka0 : h.1 a0 = 8)    : CMi l dC dI h L yX8_kindOfName wsX8_kindOfName ({ frames := 0, cells := 0, slots := 0, locals := 0 } : Room) q [.ref a0] (fun r q' => q = q' ∧ r.toInt = ((pz_kn (q.2.1 a0 2) : Nat) : Int)) := by
  refine cm_i (cc := cX8_kindOfName) (mL := 1) (own := RX8) hN (by decide) rfl rfl (Nat.le_of_ble_eq_true rfl) (fun Z B hret => ?_)
  show WA l dC dI h L ({ frames := 0, cells := 0, slots := 0, locals := 0 } : Room) 1 Z q 0 [(0, .ref a0)] []
  refine wa_aload_n B dX8_kindOfName_0 rfl 0 rfl ?_
  refine wa_getJ B (C := RX8) (T := TX8) (N := 11) iq_X8_kindOfName_X8 ha0 ka0 (by decide) rfl 2 (by decide) (by decide) (by decide +kernel) rfl (by decide) (v := (q.2.1 a0 2)) rfl dX8_kindOfName_1 ?_
  refine wa_ldc2 B 126965465245037 (by decide +kernel) dX8_kindOfName_4 ?_
  refine wa_lcmp B dX8_kindOfName_7 (fun v_1 ev_1 => ?_)
  refine wa_if_ne B 14 dX8_kindOfName_8 (by decide) (fun (t_2 : ¬ v_1.toInt = 0) => ?_) (fun (t_2 : v_1.toInt = 0) => ?_)
  · refine wa_aload_n B dX8_kindOfName_14 rfl 0 rfl ?_
    refine wa_getJ B (C := RX8) (T := TX8) (N := 11) iq_X8_kindOfName_X8 ha0 ka0 (by decide) rfl 2 (by decide) (by decide) (by decide +kernel) rfl (by decide) (v := (q.2.1 a0 2)) rfl dX8_kindOfName_15 ?_
    refine wa_ldc2 B 500086104428 (by decide +kernel) dX8_kindOfName_18 ?_
    refine wa_lcmp B dX8_kindOfName_21 (fun v_3 ev_3 => ?_)
    refine wa_if_ne B 28 dX8_kindOfName_22 (by decide) (fun (t_4 : ¬ v_3.toInt = 0) => ?_) (fun (t_4 : v_3.toInt = 0) => ?_)
    · refine wa_aload_n B dX8_kindOfName_28 rfl 0 rfl ?_
      refine wa_getJ B (C := RX8) (T := TX8) (N := 11) iq_X8_kindOfName_X8 ha0 ka0 (by decide) rfl 2 (by decide) (by decide) (by decide +kernel) rfl (by decide) (v := (q.2.1 a0 2)) rfl dX8_kindOfName_29 ?_
      refine wa_ldc2 B 444300619364 (by decide +kernel) dX8_kindOfName_32 ?_
      refine wa_lcmp B dX8_kindOfName_35 (fun v_5 ev_5 => ?_)
      refine wa_if_ne B 44 dX8_kindOfName_36 (by decide) (fun (t_6 : ¬ v_5.toInt = 0) => ?_) (fun (t_6 : v_5.toInt = 0) => ?_)
      · refine wa_iconst B 2 dX8_kindOfName_44 (by decide) ?_
        exact hret _ _ _ _ dX8_kindOfName_45 ⟨rfl, (by rw [show pz_kn (q.2.1 a0 2) = 2 from (pz_if0 (pz_cne ev_1 (by omega))).trans ((pz_if0 (pz_cne ev_3 (by omega))).trans (pz_if0 (pz_cne ev_5 (by omega))))]; rfl)⟩
      · refine wa_bipush B 8 dX8_kindOfName_39 (by decide) ?_
        refine wa_goto B 45 dX8_kindOfName_41 (by decide) ?_
        exact hret _ _ _ _ dX8_kindOfName_45 ⟨rfl, (by rw [show pz_kn (q.2.1 a0 2) = 8 from (pz_if0 (pz_cne ev_1 (by omega))).trans ((pz_if0 (pz_cne ev_3 (by omega))).trans (pz_if1 (pz_ceq ev_5 (by omega))))]; rfl)⟩
    · refine wa_bipush B 7 dX8_kindOfName_25 (by decide) ?_
      exact hret _ _ _ _ dX8_kindOfName_27 ⟨rfl, (by rw [show pz_kn (q.2.1 a0 2) = 7 from (pz_if0 (pz_cne ev_1 (by omega))).trans (pz_if1 (pz_ceq ev_3 (by omega)))]; rfl)⟩
  · refine wa_bipush B 6 dX8_kindOfName_11 (by decide) ?_
    exact hret _ _ _ _ dX8_kindOfName_13 ⟨rfl, (by rw [show pz_kn (q.2.1 a0 2) = 6 from pz_if1 (pz_ceq ev_1 (by omega))]; rfl)⟩
set_option maxHeartbeats 4000000 in
set_option maxRecDepth 100000 in
theorem k_X8_takeSign_c (l : Launch) (dC : Nat → ClassId) (dI : Nat → Nat → Nat) (h : Sh) (L : List Nat) (hN : sx_nd L) (q : Sg) (hV : sx_V h L q) {a0 : Nat} (ha0 : a0 ∈ L) (ka0 : h.1 a0 = 8) (n1 : Int32)   (hy0 : 0 ≤ (q.1 a0 10).toInt) (hy1 : (q.1 a0 10).toInt ≤ 5000) : CMv l dC dI h L yX8_takeSign wsX8_takeSign ({ frames := 0, cells := 0, slots := 0, locals := 0 } : Room) q [.ref a0, .int n1] (fun q' => sx_V h L q' ∧ sx_fr h L (fun a => a = a0 ∧ h.1 a = 8) q q' ∧ sx_kg a0 [0, 10] q q' ∧ ((q'.1 a0 0).toInt = ((pz_kY n1 : Nat) : Int) ∧ (q'.1 a0 10).toInt = (q.1 a0 10).toInt + 1)) := by
  refine cm_v (cc := cX8_takeSign) (mL := 2) (own := RX8) hN (by decide) rfl rfl (Nat.le_of_ble_eq_true rfl) (fun Z B hret => ?_)
  have hF : sx_fr h L (fun a => a = a0 ∧ h.1 a = 8) q q := sx_fr.rf
  have hK : sx_kg a0 [0, 10] q q := sx_kg.rf
  show WA l dC dI h L ({ frames := 0, cells := 0, slots := 0, locals := 0 } : Room) 2 Z q 0 [(0, .ref a0), (1, .int n1)] []
  refine wa_aload_n B dX8_takeSign_0 rfl 0 rfl ?_
  refine wa_dup B dX8_takeSign_1 rfl ?_
  refine wa_getI B (C := RX8) (T := TX8) (N := 11) iq_X8_takeSign_X8 ha0 ka0 (by decide) rfl 10 (by decide) (by decide) (by decide +kernel) rfl (by decide) (v := (q.1 a0 10)) rfl dX8_takeSign_2 ?_
  refine wa_iconst B 1 dX8_takeSign_5 (by decide) ?_
  refine wa_iadd B dX8_takeSign_6 (fun v_1 ev_1 => ?_)
  refine wa_putI B (C := RX8) (T := TX8) (N := 11) iq_X8_takeSign_X8 ha0 ka0 (by decide) rfl 10 (by decide) (by decide) (by decide +kernel) rfl (by decide) (v := v_1) (ty := .int) tyX8 tyX8_ok nmX8 rfl (by decide +kernel) rfl rfl dX8_takeSign_7 (fun q_2 eq_2 => ?_)
  have hV_q_2 : sx_V h L q_2 := by rw [eq_2]; exact hV.pI ka0 trivial
  have hF_q_2 : sx_fr h L (fun a => a = a0 ∧ h.1 a = 8) q q_2 := hF.tr (by rw [eq_2]; exact sx_fr.pI (show a0 = a0 ∧ h.1 a0 = 8 from by omega))
  have z_3 : q_2.1 a0 10 = v_1 := by rw [eq_2]; exact sg_pI_e
  have hK_q_2 : sx_kg a0 [0, 10] q q_2 := hK.tr (by rw [eq_2]; exact sx_kg.pI (by decide))
  refine wa_iload_n B dX8_takeSign_10 rfl 1 rfl ?_
  refine wa_bipush B 58 dX8_takeSign_11 (by decide) ?_
  refine wa_icmp_ne B 24 dX8_takeSign_13 (by decide) (fun (t_4 : ¬ n1.toInt = 58) => ?_) (fun (t_4 : n1.toInt = 58) => ?_)
  · refine wa_aload_n B dX8_takeSign_24 rfl 0 rfl ?_
    refine wa_iload_n B dX8_takeSign_25 rfl 1 rfl ?_
    refine wa_bipush B 59 dX8_takeSign_26 (by decide) ?_
    refine wa_icmp_ne B 35 dX8_takeSign_28 (by decide) (fun (t_5 : ¬ n1.toInt = 59) => ?_) (fun (t_5 : n1.toInt = 59) => ?_)
    · refine wa_iconst B 1 dX8_takeSign_35 (by decide) ?_
      refine wa_putI B (C := RX8) (T := TX8) (N := 11) iq_X8_takeSign_X8 ha0 ka0 (by decide) rfl 0 (by decide) (by decide) (by decide +kernel) rfl (by decide) (v := 1) (ty := .int) tyX8 tyX8_ok nmX8 rfl (by decide +kernel) rfl rfl dX8_takeSign_36 (fun q_6 eq_6 => ?_)
      have hV_q_6 : sx_V h L q_6 := by rw [eq_6]; exact hV_q_2.pI ka0 trivial
      have hF_q_6 : sx_fr h L (fun a => a = a0 ∧ h.1 a = 8) q q_6 := hF_q_2.tr (by rw [eq_6]; exact sx_fr.pI (show a0 = a0 ∧ h.1 a0 = 8 from by omega))
      have z_7 : q_6.1 a0 0 = 1 := by rw [eq_6]; exact sg_pI_e
      have hK_q_6 : sx_kg a0 [0, 10] q q_6 := hK_q_2.tr (by rw [eq_6]; exact sx_kg.pI (by decide))
      have y_8 : (q_6.1 a0 0).toInt = 1 := by rw [z_7]; rfl
      have z_9 : q_6.1 a0 10 = v_1 := ((show q_6.1 a0 10 = q_2.1 a0 10 from by rw [eq_6]; exact sg_pI_k (by decide))).trans (z_3)
      have y_10 : (q_6.1 a0 10).toInt = v_1.toInt := by rw [z_9]
      have tv_1 : v_1.toInt = (q.1 a0 10).toInt + 1 := by have b0 := zx_bd (q.1 a0 10); rw [ev_1]; exact zx_add (show (-2147483648 : Int) ≤ (q.1 a0 10).toInt + 1 by omega) (show (q.1 a0 10).toInt + 1 < (2147483648 : Int) by omega)
      exact hret _ _ _ dX8_takeSign_39 ⟨hV_q_6, hF_q_6, hK_q_6, ⟨by rw [z_7, show pz_kY n1 = 1 from (pz_if0 (by omega)).trans (pz_if0 (by omega))]; rfl, by omega⟩⟩
    · refine wa_iconst B 5 dX8_takeSign_31 (by decide) ?_
      refine wa_goto B 36 dX8_takeSign_32 (by decide) ?_
      refine wa_putI B (C := RX8) (T := TX8) (N := 11) iq_X8_takeSign_X8 ha0 ka0 (by decide) rfl 0 (by decide) (by decide) (by decide +kernel) rfl (by decide) (v := 5) (ty := .int) tyX8 tyX8_ok nmX8 rfl (by decide +kernel) rfl rfl dX8_takeSign_36 (fun q_11 eq_11 => ?_)
      have hV_q_11 : sx_V h L q_11 := by rw [eq_11]; exact hV_q_2.pI ka0 trivial
      have hF_q_11 : sx_fr h L (fun a => a = a0 ∧ h.1 a = 8) q q_11 := hF_q_2.tr (by rw [eq_11]; exact sx_fr.pI (show a0 = a0 ∧ h.1 a0 = 8 from by omega))
      have z_12 : q_11.1 a0 0 = 5 := by rw [eq_11]; exact sg_pI_e
      have hK_q_11 : sx_kg a0 [0, 10] q q_11 := hK_q_2.tr (by rw [eq_11]; exact sx_kg.pI (by decide))
      have y_13 : (q_11.1 a0 0).toInt = 5 := by rw [z_12]; rfl
      have z_14 : q_11.1 a0 10 = v_1 := ((show q_11.1 a0 10 = q_2.1 a0 10 from by rw [eq_11]; exact sg_pI_k (by decide))).trans (z_3)
      have y_15 : (q_11.1 a0 10).toInt = v_1.toInt := by rw [z_14]
      have tv_1 : v_1.toInt = (q.1 a0 10).toInt + 1 := by have b0 := zx_bd (q.1 a0 10); rw [ev_1]; exact zx_add (show (-2147483648 : Int) ≤ (q.1 a0 10).toInt + 1 by omega) (show (q.1 a0 10).toInt + 1 < (2147483648 : Int) by omega)
      exact hret _ _ _ dX8_takeSign_39 ⟨hV_q_11, hF_q_11, hK_q_11, ⟨by rw [z_12, show pz_kY n1 = 5 from (pz_if0 (by omega)).trans (pz_if1 (by omega))]; rfl, by omega⟩⟩
  · refine wa_aload_n B dX8_takeSign_16 rfl 0 rfl ?_
    refine wa_iconst B 4 dX8_takeSign_17 (by decide) ?_
    refine wa_putI B (C := RX8) (T := TX8) (N := 11) iq_X8_takeSign_X8 ha0 ka0 (by decide) rfl 0 (by decide) (by decide) (by decide +kernel) rfl (by decide) (v := 4) (ty := .int) tyX8 tyX8_ok nmX8 rfl (by decide +kernel) rfl rfl dX8_takeSign_18 (fun q_16 eq_16 => ?_)
    have hV_q_16 : sx_V h L q_16 := by rw [eq_16]; exact hV_q_2.pI ka0 trivial
    have hF_q_16 : sx_fr h L (fun a => a = a0 ∧ h.1 a = 8) q q_16 := hF_q_2.tr (by rw [eq_16]; exact sx_fr.pI (show a0 = a0 ∧ h.1 a0 = 8 from by omega))
    have z_17 : q_16.1 a0 0 = 4 := by rw [eq_16]; exact sg_pI_e
    have hK_q_16 : sx_kg a0 [0, 10] q q_16 := hK_q_2.tr (by rw [eq_16]; exact sx_kg.pI (by decide))
    refine wa_goto B 39 dX8_takeSign_21 (by decide) ?_
    have y_18 : (q_16.1 a0 0).toInt = 4 := by rw [z_17]; rfl
    have z_19 : q_16.1 a0 10 = v_1 := ((show q_16.1 a0 10 = q_2.1 a0 10 from by rw [eq_16]; exact sg_pI_k (by decide))).trans (z_3)
    have y_20 : (q_16.1 a0 10).toInt = v_1.toInt := by rw [z_19]
    have tv_1 : v_1.toInt = (q.1 a0 10).toInt + 1 := by have b0 := zx_bd (q.1 a0 10); rw [ev_1]; exact zx_add (show (-2147483648 : Int) ≤ (q.1 a0 10).toInt + 1 by omega) (show (q.1 a0 10).toInt + 1 < (2147483648 : Int) by omega)
    exact hret _ _ _ dX8_takeSign_39 ⟨hV_q_16, hF_q_16, hK_q_16, ⟨by rw [z_17, show pz_kY n1 = 4 from pz_if1 (by omega)]; rfl, by omega⟩⟩
set_option maxHeartbeats 4000000 in
set_option maxRecDepth 100000 in
theorem k_X8_takeName_c (l : Launch) (dC : Nat → ClassId) (dI : Nat → Nat → Nat) (h : Sh) (L : List Nat) (hN : sx_nd L) (q : Sg) (hV : sx_V h L q) {a0 : Nat} (ha0 : a0 ∈ L) (ka0 : h.1 a0 = 8) {t0 : Nat} (et0 : q.2.2.1 a0 7 = t0) {b0 : Nat} (eb0 : q.2.2.1 t0 0 = b0)  (F : Nat → Int32) (n9 : Nat) (hy0 : 0 ≤ (q.1 a0 10).toInt) (hy1 : (q.1 a0 10).toInt = (q.1 a0 1).toInt) (hy2 : (q.1 a0 10).toInt < (n9 : Int)) (hn9 : (n9 : Int) = (q.1 t0 1).toInt) (hFF : ∀ j : Nat, j < n9 → q.2.2.2.1 b0 j &&& 255 = F j) : CMv l dC dI h L yX8_takeName wsX8_takeName ({ frames := 1, cells := 0, slots := 0, locals := 21 } : Room) q [.ref a0] (fun q' => sx_V h L q' ∧ sx_fr h L (fun a => a = a0 ∧ h.1 a = 8) q q' ∧ sx_kg a0 [0, 2, 10] q q' ∧ ((q'.1 a0 0).toInt = ((pz_kN F n9 (q.1 a0 1).toInt.toNat : Nat) : Int) ∧ (q'.1 a0 10).toInt = ((pz_end F n9 (q.1 a0 1).toInt.toNat : Nat) : Int) ∧ q'.2.1 a0 2 = pz_n8 F (q.1 a0 1).toInt.toNat (pz_end F n9 (q.1 a0 1).toInt.toNat - (q.1 a0 1).toInt.toNat))) := by
  refine cm_v (cc := cX8_takeName) (mL := 3) (own := RX8) hN (by decide) rfl rfl (Nat.le_of_ble_eq_true rfl) (fun Z B hret => ?_)
  have hF : sx_fr h L (fun a => a = a0 ∧ h.1 a = 8) q q := sx_fr.rf
  have hK : sx_kg a0 [0, 2, 10] q q := sx_kg.rf
  obtain ⟨ht0, kt0⟩ : t0 ∈ L ∧ h.1 t0 = 7 := by obtain ⟨r9, e9, z1, z2⟩ := hV.ref (t := 7) ha0 ka0 7 rfl (by decide); rw [← et0, e9]; exact ⟨z1, z2⟩
  obtain ⟨hb0, kb0⟩ : b0 ∈ L ∧ h.1 b0 = 300 := by obtain ⟨r9, e9, z1, z2⟩ := hV.ref (t := 300) ht0 kt0 0 rfl (by decide); rw [← eb0, e9]; exact ⟨z1, z2⟩
  show WA l dC dI h L ({ frames := 1, cells := 0, slots := 0, locals := 21 } : Room) 3 Z q 0 [(0, .ref a0)] []
  have g_1 : (0 : Int) ≤ (q.1 t0 1).toInt ∧ (q.1 t0 1).toInt ≤ (h.2.1 b0 : Int) := by have z9 := hV.int ht0 kt0 1; rw [eb0] at z9; exact z9
  have l_2 : h.2.1 b0 ≤ 5000 := hV.len hb0
  refine wa_iconst B 1 dX8_takeName_0 (by decide) ?_
  refine wa_istore_n B [(1, .int 1), (0, .ref a0)] dX8_takeName_1 rfl (by decide) rfl ?_
  refine wa_aload_n B dX8_takeName_2 rfl 1 rfl ?_
  refine wa_lconst B 0 dX8_takeName_3 (by decide) ?_
  refine wa_putJ B (C := RX8) (T := TX8) (N := 11) iq_X8_takeName_X8 ha0 ka0 (by decide) rfl 2 (by decide) (by decide) (by decide +kernel) rfl (by decide) (v := 0) (ty := .long) tyX8 tyX8_ok nmX8 rfl (by decide +kernel) rfl rfl dX8_takeName_4 (fun q_3 eq_3 => ?_)
  have hV_q_3 : sx_V h L q_3 := by rw [eq_3]; exact hV.pJ
  have hF_q_3 : sx_fr h L (fun a => a = a0 ∧ h.1 a = 8) q q_3 := hF.tr (by rw [eq_3]; exact sx_fr.pJ (show a0 = a0 ∧ h.1 a0 = 8 from by omega))
  have z_4 : q_3.2.1 a0 2 = 0 := by rw [eq_3]; exact sg_pJ_e
  have hK_q_3 : sx_kg a0 [0, 2, 10] q q_3 := hK.tr (by rw [eq_3]; exact sx_kg.pJ (by decide))
  refine wa_aload_n B dX8_takeName_7 rfl 1 rfl ?_
  have z_5 : q_3.2.2.1 a0 7 = t0 := ((show q_3.2.2.1 a0 7 = q.2.2.1 a0 7 from by rw [eq_3]; rfl)).trans (et0)
  refine wa_getR B (C := RX8) (T := TX8) (N := 11) iq_X8_takeName_X8 ha0 ka0 (by decide) rfl 7 (by decide) (by decide) (by decide +kernel) rfl (fun _ _ _ => rfl) (v := t0) z_5 dX8_takeName_8 ?_
  refine wa_aload_n B dX8_takeName_11 rfl 1 rfl ?_
  have z_6 : q_3.1 a0 10 = q.1 a0 10 := (show q_3.1 a0 10 = q.1 a0 10 from by rw [eq_3]; rfl)
  refine wa_getI B (C := RX8) (T := TX8) (N := 11) iq_X8_takeName_X8 ha0 ka0 (by decide) rfl 10 (by decide) (by decide) (by decide +kernel) rfl (by decide) (v := (q.1 a0 10)) z_6 dX8_takeName_12 ?_
  have z_7 : q_3.2.2.1 t0 0 = b0 := ((show q_3.2.2.1 t0 0 = q.2.2.1 t0 0 from by rw [eq_3]; rfl)).trans (eb0)
  have z_8 : q_3.1 t0 1 = q.1 t0 1 := (show q_3.1 t0 1 = q.1 t0 1 from by rw [eq_3]; rfl)
  have y_9 : (q_3.1 t0 1).toInt = (q.1 t0 1).toInt := by rw [z_8]
  refine wa_callVi B (x := (RX7, TX7, 2)) (As := [.int (q.1 a0 10)]) (rest := []) (k_X7_byteAt_c l dC dI h L hN q_3 hV_q_3 (a0 := t0) ht0 kt0 (q.1 a0 10) (b0 := b0) z_7  ) (cwV 1 B.1.2.2.2.2 gX8_takeName_X7_byteAt rfl rfl rfl (by decide +kernel) ⟨Nat.le_of_ble_eq_true rfl, Nat.le_of_ble_eq_true rfl⟩) ht0 kt0 (by decide) rfl rfl rfl (Nat.le_of_ble_eq_true rfl) dX8_takeName_15 (fun r_11 q_10 w_12 => ?_)
  obtain ⟨ew_12, hw_12⟩ := w_12
  subst ew_12
  have z_13 : q_3.2.2.2.1 b0 = q.2.2.2.1 b0 := (show q_3.2.2.2.1 b0 = q.2.2.2.1 b0 from by rw [eq_3]; rfl)
  have y_15 : (q_3.1 t0 1).toInt = (q.1 t0 1).toInt := by rw [z_8]
  have u_14 : (q.1 a0 10).toInt < (n9 : Int) → r_11 = F (q.1 a0 10).toInt.toNat := fun z9 => by rw [hw_12.2.2 ⟨by omega, by omega⟩, zx_nc, z_13]; exact hFF _ (by omega)
  refine wa_istore_n B [(2, .int r_11), (1, .int 1), (0, .ref a0)] dX8_takeName_18 rfl (by decide) rfl ?_
  have z_19 : q_3.1 a0 1 = q.1 a0 1 := (show q_3.1 a0 1 = q.1 a0 1 from by rw [eq_3]; rfl)
  have Lp_19_24 : ∀ (n : Nat) (v_16 : Int32) (v_17 : Int32) (q_18 : Sg), sx_V h L q_18 → sx_fr h L (fun a => a = a0 ∧ h.1 a = 8) q q_18 → sx_kg a0 [0, 2, 10] q q_18 → q_18.1 a0 1 = (q.1 a0 1) → q_18.1 t0 1 = (q.1 t0 1) → q_18.2.2.1 a0 7 = t0 → q_18.2.2.1 t0 0 = b0 → q_18.2.2.2.1 b0 = (q.2.2.2.1 b0) → 0 ≤ (q_18.1 a0 10).toInt → (q_18.1 a0 10).toInt ≤ (q_18.1 t0 1).toInt → v_17.toInt = 0 ∨ v_17.toInt = 1 → tn_I F n9 (q.1 a0 1).toInt.toNat (q_18.1 a0 10) v_16 v_17 (q_18.2.1 a0 2) → ((q_18.1 t0 1).toInt - (q_18.1 a0 10).toInt : Int).toNat < n → WA l dC dI h L ({ frames := 1, cells := 0, slots := 0, locals := 21 } : Room) 3 Z q_18 19 [(2, .int v_16), (1, .int v_17), (0, .ref a0)] [] := by
    intro n
    induction n with
    | zero =>
      intro v_16 v_17 q_18 hV_q_18 hF_q_18 hK_q_18 p0_q_18 p1_q_18 p2_q_18 p3_q_18 p4_q_18 x_20 x_21 x_22 x_23 hn
      exact absurd hn (Nat.not_lt_zero _)
    | succ n ih_26 =>
      intro v_16 v_17 q_18 hV_q_18 hF_q_18 hK_q_18 p0_q_18 p1_q_18 p2_q_18 p3_q_18 p4_q_18 x_20 x_21 x_22 x_23 hn
      have y_25 : (q_18.1 t0 1).toInt = (q.1 t0 1).toInt := by rw [p1_q_18]
      refine wa_aload_n B dX8_takeName_19 rfl 2 rfl ?_
      refine wa_getI B (C := RX8) (T := TX8) (N := 11) iq_X8_takeName_X8 ha0 ka0 (by decide) rfl 10 (by decide) (by decide) (by decide +kernel) rfl (by decide) (v := (q_18.1 a0 10)) rfl dX8_takeName_20 ?_
      refine wa_aload_n B dX8_takeName_23 rfl 2 rfl ?_
      refine wa_getR B (C := RX8) (T := TX8) (N := 11) iq_X8_takeName_X8 ha0 ka0 (by decide) rfl 7 (by decide) (by decide) (by decide +kernel) rfl (fun _ _ _ => rfl) (v := t0) p2_q_18 dX8_takeName_24 ?_
      refine wa_getI B (C := RX7) (T := TX7) (N := 2) iq_X8_takeName_X7 ht0 kt0 (by decide) rfl 1 (by decide) (by decide) (by decide +kernel) rfl (by decide) (v := (q.1 t0 1)) p1_q_18 dX8_takeName_27 ?_
      have g_27 : (0 : Int) ≤ (q.1 t0 1).toInt ∧ (q.1 t0 1).toInt ≤ (h.2.1 b0 : Int) := by have z9 := hV_q_18.int ht0 kt0 1; rw [p3_q_18] at z9; rw [p1_q_18] at z9; exact z9
      refine wa_icmp_ge B 108 dX8_takeName_30 (by decide) (fun (t_28 : (q.1 t0 1).toInt ≤ (q_18.1 a0 10).toInt) => ?_) (fun (t_28 : ¬ (q.1 t0 1).toInt ≤ (q_18.1 a0 10).toInt) => ?_)
      · refine wa_aload_n B dX8_takeName_108 rfl 2 rfl ?_
        refine wa_iload_n B dX8_takeName_109 rfl 1 rfl ?_
        have Jn_135_31 : ∀  (v_29 : Int32), v_29.toInt = ((pz_kN F n9 (q.1 a0 1).toInt.toNat : Nat) : Int) → WA l dC dI h L ({ frames := 1, cells := 0, slots := 0, locals := 21 } : Room) 3 Z q_18 135 [(2, .int v_16), (1, .int v_17), (0, .ref a0)] [.int v_29, .ref a0] := by
          intro v_29 x_30
          refine wa_putI B (C := RX8) (T := TX8) (N := 11) iq_X8_takeName_X8 ha0 ka0 (by decide) rfl 0 (by decide) (by decide) (by decide +kernel) rfl (by decide) (v := v_29) (ty := .int) tyX8 tyX8_ok nmX8 rfl (by decide +kernel) rfl rfl dX8_takeName_135 (fun q_32 eq_32 => ?_)
          have hV_q_32 : sx_V h L q_32 := by rw [eq_32]; exact hV_q_18.pI ka0 trivial
          have hF_q_32 : sx_fr h L (fun a => a = a0 ∧ h.1 a = 8) q q_32 := hF_q_18.tr (by rw [eq_32]; exact sx_fr.pI (show a0 = a0 ∧ h.1 a0 = 8 from by omega))
          have z_33 : q_32.1 a0 0 = v_29 := by rw [eq_32]; exact sg_pI_e
          have hK_q_32 : sx_kg a0 [0, 2, 10] q q_32 := hK_q_18.tr (by rw [eq_32]; exact sx_kg.pI (by decide))
          have y_34 : (q_32.1 a0 0).toInt = v_29.toInt := by rw [z_33]
          have z_35 : q_32.1 a0 10 = q_18.1 a0 10 := (show q_32.1 a0 10 = q_18.1 a0 10 from by rw [eq_32]; exact sg_pI_k (by decide))
          have y_36 : (q_32.1 a0 10).toInt = (q_18.1 a0 10).toInt := by rw [z_35]
          have z_37 : q_32.2.1 a0 2 = q_18.2.1 a0 2 := (show q_32.2.1 a0 2 = q_18.2.1 a0 2 from by rw [eq_32]; rfl)
          exact hret _ _ _ dX8_takeName_138 ⟨hV_q_32, hF_q_32, hK_q_32, ⟨by rw [z_33]; exact x_30, by rw [z_35]; rw [tn_e x_23 (by omega)]; omega, by rw [z_37]; exact tn_x x_23 (by omega)⟩⟩
        refine wa_if_eq B 134 dX8_takeName_110 (by decide) (fun (t_38 : v_17.toInt = 0) => ?_) (fun (t_38 : ¬ v_17.toInt = 0) => ?_)
        · refine wa_iconst B 1 dX8_takeName_134 (by decide) ?_
          exact Jn_135_31 1 (show 1 = ((pz_kN F n9 (q.1 a0 1).toInt.toNat : Nat) : Int) from by rw [tn_bad x_23 (by omega) (by omega)]; rfl)
        · refine wa_aload_n B dX8_takeName_113 rfl 2 rfl ?_
          refine wa_getI B (C := RX8) (T := TX8) (N := 11) iq_X8_takeName_X8 ha0 ka0 (by decide) rfl 10 (by decide) (by decide) (by decide +kernel) rfl (by decide) (v := (q_18.1 a0 10)) rfl dX8_takeName_114 ?_
          refine wa_aload_n B dX8_takeName_117 rfl 2 rfl ?_
          refine wa_getI B (C := RX8) (T := TX8) (N := 11) iq_X8_takeName_X8 ha0 ka0 (by decide) rfl 1 (by decide) (by decide) (by decide +kernel) rfl (by decide) (v := (q.1 a0 1)) p0_q_18 dX8_takeName_118 ?_
          refine wa_isub B dX8_takeName_121 (fun v_39 ev_39 => ?_)
          refine wa_bipush B 8 dX8_takeName_122 (by decide) ?_
          have tv_39 : v_39.toInt = (q_18.1 a0 10).toInt - (q.1 a0 1).toInt := by have b0 := zx_bd (q_18.1 a0 10); have b1 := zx_bd (q.1 a0 1); rw [ev_39]; exact zx_sub (show (-2147483648 : Int) ≤ (q_18.1 a0 10).toInt - (q.1 a0 1).toInt by omega) (show (q_18.1 a0 10).toInt - (q.1 a0 1).toInt < (2147483648 : Int) by omega)
          refine wa_icmp_gt B 134 dX8_takeName_124 (by decide) (fun (t_40 : 8 < v_39.toInt) => ?_) (fun (t_40 : ¬ 8 < v_39.toInt) => ?_)
          · refine wa_iconst B 1 dX8_takeName_134 (by decide) ?_
            exact Jn_135_31 1 (show 1 = ((pz_kN F n9 (q.1 a0 1).toInt.toNat : Nat) : Int) from by rw [tn_bad x_23 (by omega) (by omega)]; rfl)
          · refine wa_aload_n B dX8_takeName_127 rfl 2 rfl ?_
            refine wa_callVi B (x := (RX8, TX8, 11)) (As := []) (rest := [.ref a0]) (k_X8_kindOfName_c l dC dI h L hN q_18 hV_q_18 (a0 := a0) ha0 ka0  ) (cwV 0 B.1.2.2.2.2 gX8_takeName_X8_kindOfName rfl rfl rfl (by decide +kernel) ⟨Nat.le_of_ble_eq_true rfl, Nat.le_of_ble_eq_true rfl⟩) ha0 ka0 (by decide) rfl rfl rfl (Nat.le_of_ble_eq_true rfl) dX8_takeName_128 (fun r_42 q_41 w_43 => ?_)
            obtain ⟨ew_43, hw_43⟩ := w_43
            subst ew_43
            refine wa_goto B 135 dX8_takeName_131 (by decide) ?_
            exact Jn_135_31 r_42 (show r_42.toInt = ((pz_kN F n9 (q.1 a0 1).toInt.toNat : Nat) : Int) from by rw [tn_good x_23 (by omega) (by omega) (by omega)]; exact hw_43)
      · refine wa_iload_n B dX8_takeName_33 rfl 0 rfl ?_
        refine wa_callSi B (As := [.int v_16]) (rest := []) (k_X8_isSmallLetter_c l dC dI h L hN q_18 hV_q_18 v_16  ) (va_cwS 1 B.1.2.2.2.2 gX8_takeName_X8_isSmallLetter rfl rfl rfl (by decide +kernel) ⟨Nat.le_of_ble_eq_true rfl, Nat.le_of_ble_eq_true rfl⟩) rfl rfl (Nat.le_of_ble_eq_true rfl) dX8_takeName_34 (fun r_45 q_44 w_46 => ?_)
        obtain ⟨ew_46, hw_46⟩ := w_46
        subst ew_46
        have Jn_52_48 : ∀ (_ : Unit), 97 ≤ v_16.toInt ∧ v_16.toInt ≤ 122 ∨ 48 ≤ v_16.toInt ∧ v_16.toInt ≤ 57 → WA l dC dI h L ({ frames := 1, cells := 0, slots := 0, locals := 21 } : Room) 3 Z q_18 52 [(2, .int v_16), (1, .int v_17), (0, .ref a0)] [] := by
          intro _ x_47
          refine wa_iload_n B dX8_takeName_52 rfl 1 rfl ?_
          have Jn_68_51 : ∀  (v_49 : Int32), v_49.toInt = 1 ∧ v_17.toInt = 1 ∧ (97 ≤ v_16.toInt ∧ v_16.toInt ≤ 122) ∨ v_49.toInt = 0 ∧ ¬ (v_17.toInt = 1 ∧ 97 ≤ v_16.toInt ∧ v_16.toInt ≤ 122) → WA l dC dI h L ({ frames := 1, cells := 0, slots := 0, locals := 21 } : Room) 3 Z q_18 68 [(2, .int v_16), (1, .int v_17), (0, .ref a0)] [.int v_49] := by
            intro v_49 x_50
            refine wa_istore_n B [(1, .int v_49), (2, .int v_16), (0, .ref a0)] dX8_takeName_68 rfl (by decide) rfl ?_
            refine wa_aload_n B dX8_takeName_69 rfl 2 rfl ?_
            refine wa_aload_n B dX8_takeName_70 rfl 2 rfl ?_
            refine wa_getJ B (C := RX8) (T := TX8) (N := 11) iq_X8_takeName_X8 ha0 ka0 (by decide) rfl 2 (by decide) (by decide) (by decide +kernel) rfl (by decide) (v := (q_18.2.1 a0 2)) rfl dX8_takeName_71 ?_
            refine wa_bipush B 8 dX8_takeName_74 (by decide) ?_
            refine wa_lshl B dX8_takeName_76 (fun v_52 ev_52 => ?_)
            refine wa_iload_n B dX8_takeName_77 rfl 1 rfl ?_
            refine wa_i2l B dX8_takeName_78 (fun v_53 ev_53 => ?_)
            refine wa_lor B dX8_takeName_79 (fun v_54 ev_54 => ?_)
            refine wa_putJ B (C := RX8) (T := TX8) (N := 11) iq_X8_takeName_X8 ha0 ka0 (by decide) rfl 2 (by decide) (by decide) (by decide +kernel) rfl (by decide) (v := v_54) (ty := .long) tyX8 tyX8_ok nmX8 rfl (by decide +kernel) rfl rfl dX8_takeName_80 (fun q_55 eq_55 => ?_)
            have hV_q_55 : sx_V h L q_55 := by rw [eq_55]; exact hV_q_18.pJ
            have hF_q_55 : sx_fr h L (fun a => a = a0 ∧ h.1 a = 8) q q_55 := hF_q_18.tr (by rw [eq_55]; exact sx_fr.pJ (show a0 = a0 ∧ h.1 a0 = 8 from by omega))
            have z_56 : q_55.2.1 a0 2 = v_54 := by rw [eq_55]; exact sg_pJ_e
            have hK_q_55 : sx_kg a0 [0, 2, 10] q q_55 := hK_q_18.tr (by rw [eq_55]; exact sx_kg.pJ (by decide))
            refine wa_aload_n B dX8_takeName_83 rfl 2 rfl ?_
            refine wa_dup B dX8_takeName_84 rfl ?_
            have z_57 : q_55.1 a0 10 = q_18.1 a0 10 := (show q_55.1 a0 10 = q_18.1 a0 10 from by rw [eq_55]; rfl)
            refine wa_getI B (C := RX8) (T := TX8) (N := 11) iq_X8_takeName_X8 ha0 ka0 (by decide) rfl 10 (by decide) (by decide) (by decide +kernel) rfl (by decide) (v := (q_18.1 a0 10)) z_57 dX8_takeName_85 ?_
            refine wa_iconst B 1 dX8_takeName_88 (by decide) ?_
            refine wa_iadd B dX8_takeName_89 (fun v_58 ev_58 => ?_)
            refine wa_putI B (C := RX8) (T := TX8) (N := 11) iq_X8_takeName_X8 ha0 ka0 (by decide) rfl 10 (by decide) (by decide) (by decide +kernel) rfl (by decide) (v := v_58) (ty := .int) tyX8 tyX8_ok nmX8 rfl (by decide +kernel) rfl rfl dX8_takeName_90 (fun q_59 eq_59 => ?_)
            have hV_q_59 : sx_V h L q_59 := by rw [eq_59]; exact hV_q_55.pI ka0 trivial
            have hF_q_59 : sx_fr h L (fun a => a = a0 ∧ h.1 a = 8) q q_59 := hF_q_55.tr (by rw [eq_59]; exact sx_fr.pI (show a0 = a0 ∧ h.1 a0 = 8 from by omega))
            have z_60 : q_59.1 a0 10 = v_58 := by rw [eq_59]; exact sg_pI_e
            have hK_q_59 : sx_kg a0 [0, 2, 10] q q_59 := hK_q_55.tr (by rw [eq_59]; exact sx_kg.pI (by decide))
            refine wa_aload_n B dX8_takeName_93 rfl 2 rfl ?_
            have z_61 : q_59.2.2.1 a0 7 = t0 := ((show q_59.2.2.1 a0 7 = q_55.2.2.1 a0 7 from by rw [eq_59]; rfl)).trans (((show q_55.2.2.1 a0 7 = q_18.2.2.1 a0 7 from by rw [eq_55]; rfl)).trans (p2_q_18))
            refine wa_getR B (C := RX8) (T := TX8) (N := 11) iq_X8_takeName_X8 ha0 ka0 (by decide) rfl 7 (by decide) (by decide) (by decide +kernel) rfl (fun _ _ _ => rfl) (v := t0) z_61 dX8_takeName_94 ?_
            refine wa_aload_n B dX8_takeName_97 rfl 2 rfl ?_
            refine wa_getI B (C := RX8) (T := TX8) (N := 11) iq_X8_takeName_X8 ha0 ka0 (by decide) rfl 10 (by decide) (by decide) (by decide +kernel) rfl (by decide) (v := v_58) z_60 dX8_takeName_98 ?_
            have tv_58 : v_58.toInt = (q_18.1 a0 10).toInt + 1 := by have b0 := zx_bd (q_18.1 a0 10); rw [ev_58]; exact zx_add (show (-2147483648 : Int) ≤ (q_18.1 a0 10).toInt + 1 by omega) (show (q_18.1 a0 10).toInt + 1 < (2147483648 : Int) by omega)
            have z_62 : q_59.2.2.1 t0 0 = b0 := ((show q_59.2.2.1 t0 0 = q_55.2.2.1 t0 0 from by rw [eq_59]; rfl)).trans (((show q_55.2.2.1 t0 0 = q_18.2.2.1 t0 0 from by rw [eq_55]; rfl)).trans (p3_q_18))
            have z_63 : q_59.1 t0 1 = (q.1 t0 1) := ((show q_59.1 t0 1 = q_55.1 t0 1 from by rw [eq_59]; exact sg_pI_k (by decide))).trans (((show q_55.1 t0 1 = q_18.1 t0 1 from by rw [eq_55]; rfl)).trans (p1_q_18))
            have y_64 : (q_59.1 t0 1).toInt = (q.1 t0 1).toInt := by rw [z_63]
            refine wa_callVi B (x := (RX7, TX7, 2)) (As := [.int v_58]) (rest := []) (k_X7_byteAt_c l dC dI h L hN q_59 hV_q_59 (a0 := t0) ht0 kt0 v_58 (b0 := b0) z_62  ) (cwV 1 B.1.2.2.2.2 gX8_takeName_X7_byteAt rfl rfl rfl (by decide +kernel) ⟨Nat.le_of_ble_eq_true rfl, Nat.le_of_ble_eq_true rfl⟩) ht0 kt0 (by decide) rfl rfl rfl (Nat.le_of_ble_eq_true rfl) dX8_takeName_101 (fun r_66 q_65 w_67 => ?_)
            obtain ⟨ew_67, hw_67⟩ := w_67
            subst ew_67
            have z_68 : q_59.2.2.2.1 b0 = (q.2.2.2.1 b0) := ((show q_59.2.2.2.1 b0 = q_55.2.2.2.1 b0 from by rw [eq_59]; rfl)).trans (((show q_55.2.2.2.1 b0 = q_18.2.2.2.1 b0 from by rw [eq_55]; rfl)).trans (p4_q_18))
            have y_70 : (q_59.1 t0 1).toInt = (q.1 t0 1).toInt := by rw [z_63]
            have u_69 : v_58.toInt < (n9 : Int) → r_66 = F v_58.toInt.toNat := fun z9 => by rw [hw_67.2.2 ⟨by omega, by omega⟩, zx_nc, z_68]; exact hFF _ (by omega)
            refine wa_istore_n B [(2, .int r_66), (1, .int v_49), (0, .ref a0)] dX8_takeName_104 rfl (by decide) rfl ?_
            refine wa_goto B 19 dX8_takeName_105 (by decide) ?_
            have y_71 : (q_59.1 a0 10).toInt = v_58.toInt := by rw [z_60]
            have y_72 : (q_59.1 t0 1).toInt = (q.1 t0 1).toInt := by rw [z_63]
            have z_73 : q_59.1 a0 1 = (q.1 a0 1) := ((show q_59.1 a0 1 = q_55.1 a0 1 from by rw [eq_59]; exact sg_pI_k (by decide))).trans (((show q_55.1 a0 1 = q_18.1 a0 1 from by rw [eq_55]; rfl)).trans (p0_q_18))
            have z_74 : q_59.2.1 a0 2 = v_54 := ((show q_59.2.1 a0 2 = q_55.2.1 a0 2 from by rw [eq_59]; rfl)).trans (z_56)
            exact ih_26 r_66 v_49 q_59 hV_q_59 hF_q_59 hK_q_59 z_73 z_63 z_61 z_62 z_68 (show 0 ≤ (q_59.1 a0 10).toInt from by first | assumption | omega | decide) (show (q_59.1 a0 10).toInt ≤ (q_59.1 t0 1).toInt from by first | assumption | omega | decide) (show v_49.toInt = 0 ∨ v_49.toInt = 1 from by first | assumption | omega | decide) (show tn_I F n9 (q.1 a0 1).toInt.toNat (q_59.1 a0 10) r_66 v_49 (q_59.2.1 a0 2) from by rw [z_60, z_74]; exact tn_s x_23 (by omega) (by omega) (by omega) u_69 (by omega) (by rw [ev_54, ev_52, ev_53])) (show ((q_59.1 t0 1).toInt - (q_59.1 a0 10).toInt : Int).toNat < _ from by omega)
          refine wa_if_eq B 67 dX8_takeName_53 (by decide) (fun (t_75 : v_17.toInt = 0) => ?_) (fun (t_75 : ¬ v_17.toInt = 0) => ?_)
          · refine wa_iconst B 0 dX8_takeName_67 (by decide) ?_
            exact Jn_68_51 0 (show 0 = 1 ∧ v_17.toInt = 1 ∧ (97 ≤ v_16.toInt ∧ v_16.toInt ≤ 122) ∨ 0 = 0 ∧ ¬ (v_17.toInt = 1 ∧ 97 ≤ v_16.toInt ∧ v_16.toInt ≤ 122) from by first | assumption | omega | decide)
          · refine wa_iload_n B dX8_takeName_56 rfl 0 rfl ?_
            refine wa_callSi B (As := [.int v_16]) (rest := []) (k_X8_isSmallLetter_c l dC dI h L hN q_18 hV_q_18 v_16  ) (va_cwS 1 B.1.2.2.2.2 gX8_takeName_X8_isSmallLetter rfl rfl rfl (by decide +kernel) ⟨Nat.le_of_ble_eq_true rfl, Nat.le_of_ble_eq_true rfl⟩) rfl rfl (Nat.le_of_ble_eq_true rfl) dX8_takeName_57 (fun r_77 q_76 w_78 => ?_)
            obtain ⟨ew_78, hw_78⟩ := w_78
            subst ew_78
            refine wa_if_eq B 67 dX8_takeName_60 (by decide) (fun (t_79 : r_77.toInt = 0) => ?_) (fun (t_79 : ¬ r_77.toInt = 0) => ?_)
            · refine wa_iconst B 0 dX8_takeName_67 (by decide) ?_
              exact Jn_68_51 0 (show 0 = 1 ∧ v_17.toInt = 1 ∧ (97 ≤ v_16.toInt ∧ v_16.toInt ≤ 122) ∨ 0 = 0 ∧ ¬ (v_17.toInt = 1 ∧ 97 ≤ v_16.toInt ∧ v_16.toInt ≤ 122) from by first | assumption | omega | decide)
            · refine wa_iconst B 1 dX8_takeName_63 (by decide) ?_
              refine wa_goto B 68 dX8_takeName_64 (by decide) ?_
              exact Jn_68_51 1 (show 1 = 1 ∧ v_17.toInt = 1 ∧ (97 ≤ v_16.toInt ∧ v_16.toInt ≤ 122) ∨ 1 = 0 ∧ ¬ (v_17.toInt = 1 ∧ 97 ≤ v_16.toInt ∧ v_16.toInt ≤ 122) from by first | assumption | omega | decide)
        refine wa_if_ne B 52 dX8_takeName_37 (by decide) (fun (t_80 : ¬ r_45.toInt = 0) => ?_) (fun (t_80 : r_45.toInt = 0) => ?_)
        · exact Jn_52_48 () (show 97 ≤ v_16.toInt ∧ v_16.toInt ≤ 122 ∨ 48 ≤ v_16.toInt ∧ v_16.toInt ≤ 57 from by first | assumption | omega | decide)
        · refine wa_iload_n B dX8_takeName_40 rfl 0 rfl ?_
          refine wa_bipush B 48 dX8_takeName_41 (by decide) ?_
          refine wa_icmp_lt B 108 dX8_takeName_43 (by decide) (fun (t_81 : v_16.toInt < 48) => ?_) (fun (t_81 : ¬ v_16.toInt < 48) => ?_)
          · refine wa_aload_n B dX8_takeName_108 rfl 2 rfl ?_
            refine wa_iload_n B dX8_takeName_109 rfl 1 rfl ?_
            have Jn_135_84 : ∀  (v_82 : Int32), v_82.toInt = ((pz_kN F n9 (q.1 a0 1).toInt.toNat : Nat) : Int) → WA l dC dI h L ({ frames := 1, cells := 0, slots := 0, locals := 21 } : Room) 3 Z q_18 135 [(2, .int v_16), (1, .int v_17), (0, .ref a0)] [.int v_82, .ref a0] := by
              intro v_82 x_83
              refine wa_putI B (C := RX8) (T := TX8) (N := 11) iq_X8_takeName_X8 ha0 ka0 (by decide) rfl 0 (by decide) (by decide) (by decide +kernel) rfl (by decide) (v := v_82) (ty := .int) tyX8 tyX8_ok nmX8 rfl (by decide +kernel) rfl rfl dX8_takeName_135 (fun q_85 eq_85 => ?_)
              have hV_q_85 : sx_V h L q_85 := by rw [eq_85]; exact hV_q_18.pI ka0 trivial
              have hF_q_85 : sx_fr h L (fun a => a = a0 ∧ h.1 a = 8) q q_85 := hF_q_18.tr (by rw [eq_85]; exact sx_fr.pI (show a0 = a0 ∧ h.1 a0 = 8 from by omega))
              have z_86 : q_85.1 a0 0 = v_82 := by rw [eq_85]; exact sg_pI_e
              have hK_q_85 : sx_kg a0 [0, 2, 10] q q_85 := hK_q_18.tr (by rw [eq_85]; exact sx_kg.pI (by decide))
              have y_87 : (q_85.1 a0 0).toInt = v_82.toInt := by rw [z_86]
              have z_88 : q_85.1 a0 10 = q_18.1 a0 10 := (show q_85.1 a0 10 = q_18.1 a0 10 from by rw [eq_85]; exact sg_pI_k (by decide))
              have y_89 : (q_85.1 a0 10).toInt = (q_18.1 a0 10).toInt := by rw [z_88]
              have z_90 : q_85.2.1 a0 2 = q_18.2.1 a0 2 := (show q_85.2.1 a0 2 = q_18.2.1 a0 2 from by rw [eq_85]; rfl)
              exact hret _ _ _ dX8_takeName_138 ⟨hV_q_85, hF_q_85, hK_q_85, ⟨by rw [z_86]; exact x_83, by rw [z_88]; rw [tn_e x_23 (by omega)]; omega, by rw [z_90]; exact tn_x x_23 (by omega)⟩⟩
            refine wa_if_eq B 134 dX8_takeName_110 (by decide) (fun (t_91 : v_17.toInt = 0) => ?_) (fun (t_91 : ¬ v_17.toInt = 0) => ?_)
            · refine wa_iconst B 1 dX8_takeName_134 (by decide) ?_
              exact Jn_135_84 1 (show 1 = ((pz_kN F n9 (q.1 a0 1).toInt.toNat : Nat) : Int) from by rw [tn_bad x_23 (by omega) (by omega)]; rfl)
            · refine wa_aload_n B dX8_takeName_113 rfl 2 rfl ?_
              refine wa_getI B (C := RX8) (T := TX8) (N := 11) iq_X8_takeName_X8 ha0 ka0 (by decide) rfl 10 (by decide) (by decide) (by decide +kernel) rfl (by decide) (v := (q_18.1 a0 10)) rfl dX8_takeName_114 ?_
              refine wa_aload_n B dX8_takeName_117 rfl 2 rfl ?_
              refine wa_getI B (C := RX8) (T := TX8) (N := 11) iq_X8_takeName_X8 ha0 ka0 (by decide) rfl 1 (by decide) (by decide) (by decide +kernel) rfl (by decide) (v := (q.1 a0 1)) p0_q_18 dX8_takeName_118 ?_
              refine wa_isub B dX8_takeName_121 (fun v_92 ev_92 => ?_)
              refine wa_bipush B 8 dX8_takeName_122 (by decide) ?_
              have tv_92 : v_92.toInt = (q_18.1 a0 10).toInt - (q.1 a0 1).toInt := by have b0 := zx_bd (q_18.1 a0 10); have b1 := zx_bd (q.1 a0 1); rw [ev_92]; exact zx_sub (show (-2147483648 : Int) ≤ (q_18.1 a0 10).toInt - (q.1 a0 1).toInt by omega) (show (q_18.1 a0 10).toInt - (q.1 a0 1).toInt < (2147483648 : Int) by omega)
              refine wa_icmp_gt B 134 dX8_takeName_124 (by decide) (fun (t_93 : 8 < v_92.toInt) => ?_) (fun (t_93 : ¬ 8 < v_92.toInt) => ?_)
              · refine wa_iconst B 1 dX8_takeName_134 (by decide) ?_
                exact Jn_135_84 1 (show 1 = ((pz_kN F n9 (q.1 a0 1).toInt.toNat : Nat) : Int) from by rw [tn_bad x_23 (by omega) (by omega)]; rfl)
              · refine wa_aload_n B dX8_takeName_127 rfl 2 rfl ?_
                refine wa_callVi B (x := (RX8, TX8, 11)) (As := []) (rest := [.ref a0]) (k_X8_kindOfName_c l dC dI h L hN q_18 hV_q_18 (a0 := a0) ha0 ka0  ) (cwV 0 B.1.2.2.2.2 gX8_takeName_X8_kindOfName rfl rfl rfl (by decide +kernel) ⟨Nat.le_of_ble_eq_true rfl, Nat.le_of_ble_eq_true rfl⟩) ha0 ka0 (by decide) rfl rfl rfl (Nat.le_of_ble_eq_true rfl) dX8_takeName_128 (fun r_95 q_94 w_96 => ?_)
                obtain ⟨ew_96, hw_96⟩ := w_96
                subst ew_96
                refine wa_goto B 135 dX8_takeName_131 (by decide) ?_
                exact Jn_135_84 r_95 (show r_95.toInt = ((pz_kN F n9 (q.1 a0 1).toInt.toNat : Nat) : Int) from by rw [tn_good x_23 (by omega) (by omega) (by omega)]; exact hw_96)
          · refine wa_iload_n B dX8_takeName_46 rfl 0 rfl ?_
            refine wa_bipush B 57 dX8_takeName_47 (by decide) ?_
            refine wa_icmp_gt B 108 dX8_takeName_49 (by decide) (fun (t_97 : 57 < v_16.toInt) => ?_) (fun (t_97 : ¬ 57 < v_16.toInt) => ?_)
            · refine wa_aload_n B dX8_takeName_108 rfl 2 rfl ?_
              refine wa_iload_n B dX8_takeName_109 rfl 1 rfl ?_
              have Jn_135_100 : ∀  (v_98 : Int32), v_98.toInt = ((pz_kN F n9 (q.1 a0 1).toInt.toNat : Nat) : Int) → WA l dC dI h L ({ frames := 1, cells := 0, slots := 0, locals := 21 } : Room) 3 Z q_18 135 [(2, .int v_16), (1, .int v_17), (0, .ref a0)] [.int v_98, .ref a0] := by
                intro v_98 x_99
                refine wa_putI B (C := RX8) (T := TX8) (N := 11) iq_X8_takeName_X8 ha0 ka0 (by decide) rfl 0 (by decide) (by decide) (by decide +kernel) rfl (by decide) (v := v_98) (ty := .int) tyX8 tyX8_ok nmX8 rfl (by decide +kernel) rfl rfl dX8_takeName_135 (fun q_101 eq_101 => ?_)
                have hV_q_101 : sx_V h L q_101 := by rw [eq_101]; exact hV_q_18.pI ka0 trivial
                have hF_q_101 : sx_fr h L (fun a => a = a0 ∧ h.1 a = 8) q q_101 := hF_q_18.tr (by rw [eq_101]; exact sx_fr.pI (show a0 = a0 ∧ h.1 a0 = 8 from by omega))
                have z_102 : q_101.1 a0 0 = v_98 := by rw [eq_101]; exact sg_pI_e
                have hK_q_101 : sx_kg a0 [0, 2, 10] q q_101 := hK_q_18.tr (by rw [eq_101]; exact sx_kg.pI (by decide))
                have y_103 : (q_101.1 a0 0).toInt = v_98.toInt := by rw [z_102]
                have z_104 : q_101.1 a0 10 = q_18.1 a0 10 := (show q_101.1 a0 10 = q_18.1 a0 10 from by rw [eq_101]; exact sg_pI_k (by decide))
                have y_105 : (q_101.1 a0 10).toInt = (q_18.1 a0 10).toInt := by rw [z_104]
                have z_106 : q_101.2.1 a0 2 = q_18.2.1 a0 2 := (show q_101.2.1 a0 2 = q_18.2.1 a0 2 from by rw [eq_101]; rfl)
                exact hret _ _ _ dX8_takeName_138 ⟨hV_q_101, hF_q_101, hK_q_101, ⟨by rw [z_102]; exact x_99, by rw [z_104]; rw [tn_e x_23 (by omega)]; omega, by rw [z_106]; exact tn_x x_23 (by omega)⟩⟩
              refine wa_if_eq B 134 dX8_takeName_110 (by decide) (fun (t_107 : v_17.toInt = 0) => ?_) (fun (t_107 : ¬ v_17.toInt = 0) => ?_)
              · refine wa_iconst B 1 dX8_takeName_134 (by decide) ?_
                exact Jn_135_100 1 (show 1 = ((pz_kN F n9 (q.1 a0 1).toInt.toNat : Nat) : Int) from by rw [tn_bad x_23 (by omega) (by omega)]; rfl)
              · refine wa_aload_n B dX8_takeName_113 rfl 2 rfl ?_
                refine wa_getI B (C := RX8) (T := TX8) (N := 11) iq_X8_takeName_X8 ha0 ka0 (by decide) rfl 10 (by decide) (by decide) (by decide +kernel) rfl (by decide) (v := (q_18.1 a0 10)) rfl dX8_takeName_114 ?_
                refine wa_aload_n B dX8_takeName_117 rfl 2 rfl ?_
                refine wa_getI B (C := RX8) (T := TX8) (N := 11) iq_X8_takeName_X8 ha0 ka0 (by decide) rfl 1 (by decide) (by decide) (by decide +kernel) rfl (by decide) (v := (q.1 a0 1)) p0_q_18 dX8_takeName_118 ?_
                refine wa_isub B dX8_takeName_121 (fun v_108 ev_108 => ?_)
                refine wa_bipush B 8 dX8_takeName_122 (by decide) ?_
                have tv_108 : v_108.toInt = (q_18.1 a0 10).toInt - (q.1 a0 1).toInt := by have b0 := zx_bd (q_18.1 a0 10); have b1 := zx_bd (q.1 a0 1); rw [ev_108]; exact zx_sub (show (-2147483648 : Int) ≤ (q_18.1 a0 10).toInt - (q.1 a0 1).toInt by omega) (show (q_18.1 a0 10).toInt - (q.1 a0 1).toInt < (2147483648 : Int) by omega)
                refine wa_icmp_gt B 134 dX8_takeName_124 (by decide) (fun (t_109 : 8 < v_108.toInt) => ?_) (fun (t_109 : ¬ 8 < v_108.toInt) => ?_)
                · refine wa_iconst B 1 dX8_takeName_134 (by decide) ?_
                  exact Jn_135_100 1 (show 1 = ((pz_kN F n9 (q.1 a0 1).toInt.toNat : Nat) : Int) from by rw [tn_bad x_23 (by omega) (by omega)]; rfl)
                · refine wa_aload_n B dX8_takeName_127 rfl 2 rfl ?_
                  refine wa_callVi B (x := (RX8, TX8, 11)) (As := []) (rest := [.ref a0]) (k_X8_kindOfName_c l dC dI h L hN q_18 hV_q_18 (a0 := a0) ha0 ka0  ) (cwV 0 B.1.2.2.2.2 gX8_takeName_X8_kindOfName rfl rfl rfl (by decide +kernel) ⟨Nat.le_of_ble_eq_true rfl, Nat.le_of_ble_eq_true rfl⟩) ha0 ka0 (by decide) rfl rfl rfl (Nat.le_of_ble_eq_true rfl) dX8_takeName_128 (fun r_111 q_110 w_112 => ?_)
                  obtain ⟨ew_112, hw_112⟩ := w_112
                  subst ew_112
                  refine wa_goto B 135 dX8_takeName_131 (by decide) ?_
                  exact Jn_135_100 r_111 (show r_111.toInt = ((pz_kN F n9 (q.1 a0 1).toInt.toNat : Nat) : Int) from by rw [tn_good x_23 (by omega) (by omega) (by omega)]; exact hw_112)
            · exact Jn_52_48 () (show 97 ≤ v_16.toInt ∧ v_16.toInt ≤ 122 ∨ 48 ≤ v_16.toInt ∧ v_16.toInt ≤ 57 from by first | assumption | omega | decide)
  have y_113 : (q_3.1 a0 10).toInt = (q.1 a0 10).toInt := by rw [z_6]
  have y_114 : (q_3.1 t0 1).toInt = (q.1 t0 1).toInt := by rw [z_8]
  exact Lp_19_24 _ r_11 1 q_3 hV_q_3 hF_q_3 hK_q_3 z_19 z_8 z_5 z_7 z_13 (show 0 ≤ (q_3.1 a0 10).toInt from by first | assumption | omega | decide) (show (q_3.1 a0 10).toInt ≤ (q_3.1 t0 1).toInt from by first | assumption | omega | decide) (show 1 = 0 ∨ 1 = 1 from by first | assumption | omega | decide) (show tn_I F n9 (q.1 a0 1).toInt.toNat (q_3.1 a0 10) r_11 (1 : Int32) (q_3.2.1 a0 2) from by rw [z_6, z_4]; exact tn_0 (by omega) (by omega) u_14 rfl rfl) (Nat.lt_succ_self _)
set_option maxHeartbeats 4000000 in
set_option maxRecDepth 100000 in
theorem k_X8_takeNumber_c (l : Launch) (dC : Nat → ClassId) (dI : Nat → Nat → Nat) (h : Sh) (L : List Nat) (hN : sx_nd L) (q : Sg) (hV : sx_V h L q) {a0 : Nat} (ha0 : a0 ∈ L) (ka0 : h.1 a0 = 8) {t0 : Nat} (et0 : q.2.2.1 a0 7 = t0) {b0 : Nat} (eb0 : q.2.2.1 t0 0 = b0)  (F : Nat → Int32) (n9 : Nat) (hy0 : 0 ≤ (q.1 a0 10).toInt) (hy1 : (q.1 a0 10).toInt = (q.1 a0 1).toInt) (hy2 : (q.1 a0 10).toInt < (n9 : Int)) (hn9 : (n9 : Int) = (q.1 t0 1).toInt) (hFF : ∀ j : Nat, j < n9 → q.2.2.2.1 b0 j &&& 255 = F j) (hyd : pz_d (F (q.1 a0 1).toInt.toNat)) (hy9 : (q.1 a0 9).toInt = 0) : CMv l dC dI h L yX8_takeNumber wsX8_takeNumber ({ frames := 1, cells := 0, slots := 0, locals := 21 } : Room) q [.ref a0] (fun q' => sx_V h L q' ∧ sx_fr h L (fun a => a = a0 ∧ h.1 a = 8) q q' ∧ sx_kg a0 [0, 3, 4, 10] q q' ∧ ((q'.1 a0 0).toInt = ((pz_kU F n9 (q.1 a0 1).toInt.toNat : Nat) : Int) ∧ (q'.1 a0 10).toInt = ((pz_end F n9 (q.1 a0 1).toInt.toNat : Nat) : Int) ∧ (pz_kU F n9 (q.1 a0 1).toInt.toNat = 3 → (q'.1 a0 3).toInt = -1 ∧ (q'.1 a0 4).toInt = pz_v F (q.1 a0 1).toInt.toNat (pz_end F n9 (q.1 a0 1).toInt.toNat) ∨ 0 ≤ (q'.1 a0 3).toInt ∧ (q'.1 a0 3).toInt ≤ 9 ∧ 0 ≤ (q'.1 a0 4).toInt ∧ (q'.1 a0 4).toInt ≤ 9 ∧ 10 * (q'.1 a0 3).toInt + (q'.1 a0 4).toInt = pz_v F (q.1 a0 1).toInt.toNat (pz_end F n9 (q.1 a0 1).toInt.toNat)))) := by
  refine cm_v (cc := cX8_takeNumber) (mL := 3) (own := RX8) hN (by decide) rfl rfl (Nat.le_of_ble_eq_true rfl) (fun Z B hret => ?_)
  have hF : sx_fr h L (fun a => a = a0 ∧ h.1 a = 8) q q := sx_fr.rf
  have hK : sx_kg a0 [0, 3, 4, 10] q q := sx_kg.rf
  obtain ⟨ht0, kt0⟩ : t0 ∈ L ∧ h.1 t0 = 7 := by obtain ⟨r9, e9, z1, z2⟩ := hV.ref (t := 7) ha0 ka0 7 rfl (by decide); rw [← et0, e9]; exact ⟨z1, z2⟩
  obtain ⟨hb0, kb0⟩ : b0 ∈ L ∧ h.1 b0 = 300 := by obtain ⟨r9, e9, z1, z2⟩ := hV.ref (t := 300) ht0 kt0 0 rfl (by decide); rw [← eb0, e9]; exact ⟨z1, z2⟩
  show WA l dC dI h L ({ frames := 1, cells := 0, slots := 0, locals := 21 } : Room) 3 Z q 0 [(0, .ref a0)] []
  have g_1 : (0 : Int) ≤ (q.1 t0 1).toInt ∧ (q.1 t0 1).toInt ≤ (h.2.1 b0 : Int) := by have z9 := hV.int ht0 kt0 1; rw [eb0] at z9; exact z9
  have l_2 : h.2.1 b0 ≤ 5000 := hV.len hb0
  refine wa_iconst B 1 dX8_takeNumber_0 (by decide) ?_
  refine wa_istore_n B [(1, .int 1), (0, .ref a0)] dX8_takeNumber_1 rfl (by decide) rfl ?_
  refine wa_aload_n B dX8_takeNumber_2 rfl 1 rfl ?_
  refine wa_iconst B (-1) dX8_takeNumber_3 (by decide) ?_
  refine wa_putI B (C := RX8) (T := TX8) (N := 11) iq_X8_takeNumber_X8 ha0 ka0 (by decide) rfl 3 (by decide) (by decide) (by decide +kernel) rfl (by decide) (v := (-1)) (ty := .int) tyX8 tyX8_ok nmX8 rfl (by decide +kernel) rfl rfl dX8_takeNumber_4 (fun q_3 eq_3 => ?_)
  have hV_q_3 : sx_V h L q_3 := by rw [eq_3]; exact hV.pI ka0 trivial
  have hF_q_3 : sx_fr h L (fun a => a = a0 ∧ h.1 a = 8) q q_3 := hF.tr (by rw [eq_3]; exact sx_fr.pI (show a0 = a0 ∧ h.1 a0 = 8 from by omega))
  have z_4 : q_3.1 a0 3 = (-1) := by rw [eq_3]; exact sg_pI_e
  have hK_q_3 : sx_kg a0 [0, 3, 4, 10] q q_3 := hK.tr (by rw [eq_3]; exact sx_kg.pI (by decide))
  refine wa_aload_n B dX8_takeNumber_7 rfl 1 rfl ?_
  refine wa_iconst B (-1) dX8_takeNumber_8 (by decide) ?_
  refine wa_putI B (C := RX8) (T := TX8) (N := 11) iq_X8_takeNumber_X8 ha0 ka0 (by decide) rfl 4 (by decide) (by decide) (by decide +kernel) rfl (by decide) (v := (-1)) (ty := .int) tyX8 tyX8_ok nmX8 rfl (by decide +kernel) rfl rfl dX8_takeNumber_9 (fun q_5 eq_5 => ?_)
  have hV_q_5 : sx_V h L q_5 := by rw [eq_5]; exact hV_q_3.pI ka0 trivial
  have hF_q_5 : sx_fr h L (fun a => a = a0 ∧ h.1 a = 8) q q_5 := hF_q_3.tr (by rw [eq_5]; exact sx_fr.pI (show a0 = a0 ∧ h.1 a0 = 8 from by omega))
  have z_6 : q_5.1 a0 4 = (-1) := by rw [eq_5]; exact sg_pI_e
  have hK_q_5 : sx_kg a0 [0, 3, 4, 10] q q_5 := hK_q_3.tr (by rw [eq_5]; exact sx_kg.pI (by decide))
  refine wa_aload_n B dX8_takeNumber_12 rfl 1 rfl ?_
  have z_7 : q_5.2.2.1 a0 7 = t0 := ((show q_5.2.2.1 a0 7 = q_3.2.2.1 a0 7 from by rw [eq_5]; rfl)).trans (((show q_3.2.2.1 a0 7 = q.2.2.1 a0 7 from by rw [eq_3]; rfl)).trans (et0))
  refine wa_getR B (C := RX8) (T := TX8) (N := 11) iq_X8_takeNumber_X8 ha0 ka0 (by decide) rfl 7 (by decide) (by decide) (by decide +kernel) rfl (fun _ _ _ => rfl) (v := t0) z_7 dX8_takeNumber_13 ?_
  refine wa_aload_n B dX8_takeNumber_16 rfl 1 rfl ?_
  have z_8 : q_5.1 a0 10 = q.1 a0 10 := ((show q_5.1 a0 10 = q_3.1 a0 10 from by rw [eq_5]; exact sg_pI_k (by decide))).trans ((show q_3.1 a0 10 = q.1 a0 10 from by rw [eq_3]; exact sg_pI_k (by decide)))
  refine wa_getI B (C := RX8) (T := TX8) (N := 11) iq_X8_takeNumber_X8 ha0 ka0 (by decide) rfl 10 (by decide) (by decide) (by decide +kernel) rfl (by decide) (v := (q.1 a0 10)) z_8 dX8_takeNumber_17 ?_
  have z_9 : q_5.2.2.1 t0 0 = b0 := ((show q_5.2.2.1 t0 0 = q_3.2.2.1 t0 0 from by rw [eq_5]; rfl)).trans (((show q_3.2.2.1 t0 0 = q.2.2.1 t0 0 from by rw [eq_3]; rfl)).trans (eb0))
  have z_10 : q_5.1 t0 1 = q.1 t0 1 := ((show q_5.1 t0 1 = q_3.1 t0 1 from by rw [eq_5]; exact sg_pI_k (by decide))).trans ((show q_3.1 t0 1 = q.1 t0 1 from by rw [eq_3]; exact sg_pI_k (by decide)))
  have y_11 : (q_5.1 t0 1).toInt = (q.1 t0 1).toInt := by rw [z_10]
  refine wa_callVi B (x := (RX7, TX7, 2)) (As := [.int (q.1 a0 10)]) (rest := []) (k_X7_byteAt_c l dC dI h L hN q_5 hV_q_5 (a0 := t0) ht0 kt0 (q.1 a0 10) (b0 := b0) z_9  ) (cwV 1 B.1.2.2.2.2 gX8_takeNumber_X7_byteAt rfl rfl rfl (by decide +kernel) ⟨Nat.le_of_ble_eq_true rfl, Nat.le_of_ble_eq_true rfl⟩) ht0 kt0 (by decide) rfl rfl rfl (Nat.le_of_ble_eq_true rfl) dX8_takeNumber_20 (fun r_13 q_12 w_14 => ?_)
  obtain ⟨ew_14, hw_14⟩ := w_14
  subst ew_14
  have z_15 : q_5.2.2.2.1 b0 = q.2.2.2.1 b0 := ((show q_5.2.2.2.1 b0 = q_3.2.2.2.1 b0 from by rw [eq_5]; rfl)).trans ((show q_3.2.2.2.1 b0 = q.2.2.2.1 b0 from by rw [eq_3]; rfl))
  have y_17 : (q_5.1 t0 1).toInt = (q.1 t0 1).toInt := by rw [z_10]
  have u_16 : (q.1 a0 10).toInt < (n9 : Int) → r_13 = F (q.1 a0 10).toInt.toNat := fun z9 => by rw [hw_14.2.2 ⟨by omega, by omega⟩, zx_nc, z_15]; exact hFF _ (by omega)
  refine wa_istore_n B [(2, .int r_13), (1, .int 1), (0, .ref a0)] dX8_takeNumber_23 rfl (by decide) rfl ?_
  have z_21 : q_5.1 a0 1 = q.1 a0 1 := ((show q_5.1 a0 1 = q_3.1 a0 1 from by rw [eq_5]; exact sg_pI_k (by decide))).trans ((show q_3.1 a0 1 = q.1 a0 1 from by rw [eq_3]; exact sg_pI_k (by decide)))
  have z_22 : q_5.1 a0 9 = q.1 a0 9 := ((show q_5.1 a0 9 = q_3.1 a0 9 from by rw [eq_5]; exact sg_pI_k (by decide))).trans ((show q_3.1 a0 9 = q.1 a0 9 from by rw [eq_3]; exact sg_pI_k (by decide)))
  have z_23 : q_5.1 a0 3 = (-1) := ((show q_5.1 a0 3 = q_3.1 a0 3 from by rw [eq_5]; exact sg_pI_k (by decide))).trans (z_4)
  have Lp_24_28 : ∀ (n : Nat) (v_18 : Int32) (v_19 : Int32) (q_20 : Sg), sx_V h L q_20 → sx_fr h L (fun a => a = a0 ∧ h.1 a = 8) q q_20 → sx_kg a0 [0, 3, 4, 10] q q_20 → q_20.1 a0 1 = (q.1 a0 1) → q_20.1 t0 1 = (q.1 t0 1) → q_20.1 a0 9 = (q.1 a0 9) → q_20.2.2.1 a0 7 = t0 → q_20.2.2.1 t0 0 = b0 → q_20.2.2.2.1 b0 = (q.2.2.2.1 b0) → 0 ≤ (q_20.1 a0 10).toInt → (q_20.1 a0 10).toInt ≤ (q_20.1 t0 1).toInt → v_19.toInt = 0 ∨ v_19.toInt = 1 → tu_I F n9 (q.1 a0 1).toInt.toNat (q_20.1 a0 10) v_18 v_19 (q_20.1 a0 3) (q_20.1 a0 4) → ((q_20.1 t0 1).toInt - (q_20.1 a0 10).toInt : Int).toNat < n → WA l dC dI h L ({ frames := 1, cells := 0, slots := 0, locals := 21 } : Room) 3 Z q_20 24 [(2, .int v_18), (1, .int v_19), (0, .ref a0)] [] := by
    intro n
    induction n with
    | zero =>
      intro v_18 v_19 q_20 hV_q_20 hF_q_20 hK_q_20 p0_q_20 p1_q_20 p2_q_20 p3_q_20 p4_q_20 p5_q_20 x_24 x_25 x_26 x_27 hn
      exact absurd hn (Nat.not_lt_zero _)
    | succ n ih_30 =>
      intro v_18 v_19 q_20 hV_q_20 hF_q_20 hK_q_20 p0_q_20 p1_q_20 p2_q_20 p3_q_20 p4_q_20 p5_q_20 x_24 x_25 x_26 x_27 hn
      have y_29 : (q_20.1 t0 1).toInt = (q.1 t0 1).toInt := by rw [p1_q_20]
      refine wa_aload_n B dX8_takeNumber_24 rfl 2 rfl ?_
      refine wa_getI B (C := RX8) (T := TX8) (N := 11) iq_X8_takeNumber_X8 ha0 ka0 (by decide) rfl 10 (by decide) (by decide) (by decide +kernel) rfl (by decide) (v := (q_20.1 a0 10)) rfl dX8_takeNumber_25 ?_
      refine wa_aload_n B dX8_takeNumber_28 rfl 2 rfl ?_
      refine wa_getR B (C := RX8) (T := TX8) (N := 11) iq_X8_takeNumber_X8 ha0 ka0 (by decide) rfl 7 (by decide) (by decide) (by decide +kernel) rfl (fun _ _ _ => rfl) (v := t0) p3_q_20 dX8_takeNumber_29 ?_
      refine wa_getI B (C := RX7) (T := TX7) (N := 2) iq_X8_takeNumber_X7 ht0 kt0 (by decide) rfl 1 (by decide) (by decide) (by decide +kernel) rfl (by decide) (v := (q.1 t0 1)) p1_q_20 dX8_takeNumber_32 ?_
      have g_31 : (0 : Int) ≤ (q.1 t0 1).toInt ∧ (q.1 t0 1).toInt ≤ (h.2.1 b0 : Int) := by have z9 := hV_q_20.int ht0 kt0 1; rw [p4_q_20] at z9; rw [p1_q_20] at z9; exact z9
      refine wa_icmp_ge B 123 dX8_takeNumber_35 (by decide) (fun (t_32 : (q.1 t0 1).toInt ≤ (q_20.1 a0 10).toInt) => ?_) (fun (t_32 : ¬ (q.1 t0 1).toInt ≤ (q_20.1 a0 10).toInt) => ?_)
      · refine wa_aload_n B dX8_takeNumber_123 rfl 2 rfl ?_
        refine wa_iload_n B dX8_takeNumber_124 rfl 1 rfl ?_
        have Jn_146_35 : ∀  (v_33 : Int32), v_33.toInt = ((pz_kU F n9 (q.1 a0 1).toInt.toNat : Nat) : Int) → WA l dC dI h L ({ frames := 1, cells := 0, slots := 0, locals := 21 } : Room) 3 Z q_20 146 [(2, .int v_18), (1, .int v_19), (0, .ref a0)] [.int v_33, .ref a0] := by
          intro v_33 x_34
          refine wa_putI B (C := RX8) (T := TX8) (N := 11) iq_X8_takeNumber_X8 ha0 ka0 (by decide) rfl 0 (by decide) (by decide) (by decide +kernel) rfl (by decide) (v := v_33) (ty := .int) tyX8 tyX8_ok nmX8 rfl (by decide +kernel) rfl rfl dX8_takeNumber_146 (fun q_36 eq_36 => ?_)
          have hV_q_36 : sx_V h L q_36 := by rw [eq_36]; exact hV_q_20.pI ka0 trivial
          have hF_q_36 : sx_fr h L (fun a => a = a0 ∧ h.1 a = 8) q q_36 := hF_q_20.tr (by rw [eq_36]; exact sx_fr.pI (show a0 = a0 ∧ h.1 a0 = 8 from by omega))
          have z_37 : q_36.1 a0 0 = v_33 := by rw [eq_36]; exact sg_pI_e
          have hK_q_36 : sx_kg a0 [0, 3, 4, 10] q q_36 := hK_q_20.tr (by rw [eq_36]; exact sx_kg.pI (by decide))
          have y_38 : (q_36.1 a0 0).toInt = v_33.toInt := by rw [z_37]
          have z_39 : q_36.1 a0 10 = q_20.1 a0 10 := (show q_36.1 a0 10 = q_20.1 a0 10 from by rw [eq_36]; exact sg_pI_k (by decide))
          have y_40 : (q_36.1 a0 10).toInt = (q_20.1 a0 10).toInt := by rw [z_39]
          have z_41 : q_36.1 a0 3 = q_20.1 a0 3 := (show q_36.1 a0 3 = q_20.1 a0 3 from by rw [eq_36]; exact sg_pI_k (by decide))
          have y_42 : (q_36.1 a0 3).toInt = (q_20.1 a0 3).toInt := by rw [z_41]
          have z_43 : q_36.1 a0 4 = q_20.1 a0 4 := (show q_36.1 a0 4 = q_20.1 a0 4 from by rw [eq_36]; exact sg_pI_k (by decide))
          have y_44 : (q_36.1 a0 4).toInt = (q_20.1 a0 4).toInt := by rw [z_43]
          exact hret _ _ _ dX8_takeNumber_149 ⟨hV_q_36, hF_q_36, hK_q_36, ⟨by rw [z_37]; exact x_34, by rw [z_39]; rw [tu_e x_27 (by omega)]; omega, by rw [z_41, z_43]; exact tu_v x_27 (by omega) (by omega) hyd⟩⟩
        refine wa_if_eq B 145 dX8_takeNumber_125 (by decide) (fun (t_45 : v_19.toInt = 0) => ?_) (fun (t_45 : ¬ v_19.toInt = 0) => ?_)
        · refine wa_iconst B 1 dX8_takeNumber_145 (by decide) ?_
          exact Jn_146_35 1 (show 1 = ((pz_kU F n9 (q.1 a0 1).toInt.toNat : Nat) : Int) from by rw [tu_bad x_27 (by omega) (by omega)]; rfl)
        · refine wa_aload_n B dX8_takeNumber_128 rfl 2 rfl ?_
          refine wa_getI B (C := RX8) (T := TX8) (N := 11) iq_X8_takeNumber_X8 ha0 ka0 (by decide) rfl 10 (by decide) (by decide) (by decide +kernel) rfl (by decide) (v := (q_20.1 a0 10)) rfl dX8_takeNumber_129 ?_
          refine wa_aload_n B dX8_takeNumber_132 rfl 2 rfl ?_
          refine wa_getI B (C := RX8) (T := TX8) (N := 11) iq_X8_takeNumber_X8 ha0 ka0 (by decide) rfl 1 (by decide) (by decide) (by decide +kernel) rfl (by decide) (v := (q.1 a0 1)) p0_q_20 dX8_takeNumber_133 ?_
          refine wa_isub B dX8_takeNumber_136 (fun v_46 ev_46 => ?_)
          refine wa_iconst B 2 dX8_takeNumber_137 (by decide) ?_
          have tv_46 : v_46.toInt = (q_20.1 a0 10).toInt - (q.1 a0 1).toInt := by have b0 := zx_bd (q_20.1 a0 10); have b1 := zx_bd (q.1 a0 1); rw [ev_46]; exact zx_sub (show (-2147483648 : Int) ≤ (q_20.1 a0 10).toInt - (q.1 a0 1).toInt by omega) (show (q_20.1 a0 10).toInt - (q.1 a0 1).toInt < (2147483648 : Int) by omega)
          refine wa_icmp_gt B 145 dX8_takeNumber_138 (by decide) (fun (t_47 : 2 < v_46.toInt) => ?_) (fun (t_47 : ¬ 2 < v_46.toInt) => ?_)
          · refine wa_iconst B 1 dX8_takeNumber_145 (by decide) ?_
            exact Jn_146_35 1 (show 1 = ((pz_kU F n9 (q.1 a0 1).toInt.toNat : Nat) : Int) from by rw [tu_bad x_27 (by omega) (by omega)]; rfl)
          · refine wa_iconst B 3 dX8_takeNumber_141 (by decide) ?_
            refine wa_goto B 146 dX8_takeNumber_142 (by decide) ?_
            exact Jn_146_35 3 (show 3 = ((pz_kU F n9 (q.1 a0 1).toInt.toNat : Nat) : Int) from by rw [tu_good x_27 (by omega) (by omega) (by omega)]; rfl)
      · refine wa_aload_n B dX8_takeNumber_38 rfl 2 rfl ?_
        refine wa_iload_n B dX8_takeNumber_39 rfl 0 rfl ?_
        have y_48 : (q_20.1 a0 9).toInt = (q.1 a0 9).toInt := by rw [p2_q_20]
        refine wa_callVi B (x := (RX8, TX8, 11)) (As := [.int v_18]) (rest := []) (k_X8_isDigit_c l dC dI h L hN q_20 hV_q_20 (a0 := a0) ha0 ka0 v_18  (by first | assumption | omega | decide)) (cwV 1 B.1.2.2.2.2 gX8_takeNumber_X8_isDigit rfl rfl rfl (by decide +kernel) ⟨Nat.le_of_ble_eq_true rfl, Nat.le_of_ble_eq_true rfl⟩) ha0 ka0 (by decide) rfl rfl rfl (Nat.le_of_ble_eq_true rfl) dX8_takeNumber_40 (fun r_50 q_49 w_51 => ?_)
        obtain ⟨ew_51, hw_51⟩ := w_51
        subst ew_51
        have Jn_53_53 : ∀ (_ : Unit), 48 ≤ v_18.toInt ∧ v_18.toInt ≤ 57 ∨ 97 ≤ v_18.toInt ∧ v_18.toInt ≤ 122 → WA l dC dI h L ({ frames := 1, cells := 0, slots := 0, locals := 21 } : Room) 3 Z q_20 53 [(2, .int v_18), (1, .int v_19), (0, .ref a0)] [] := by
          intro _ x_52
          refine wa_iload_n B dX8_takeNumber_53 rfl 1 rfl ?_
          have Jn_70_56 : ∀  (v_54 : Int32), v_54.toInt = 1 ∧ v_19.toInt = 1 ∧ (48 ≤ v_18.toInt ∧ v_18.toInt ≤ 57) ∨ v_54.toInt = 0 ∧ ¬ (v_19.toInt = 1 ∧ 48 ≤ v_18.toInt ∧ v_18.toInt ≤ 57) → WA l dC dI h L ({ frames := 1, cells := 0, slots := 0, locals := 21 } : Room) 3 Z q_20 70 [(2, .int v_18), (1, .int v_19), (0, .ref a0)] [.int v_54] := by
            intro v_54 x_55
            refine wa_istore_n B [(1, .int v_54), (2, .int v_18), (0, .ref a0)] dX8_takeNumber_70 rfl (by decide) rfl ?_
            refine wa_aload_n B dX8_takeNumber_71 rfl 2 rfl ?_
            refine wa_aload_n B dX8_takeNumber_72 rfl 2 rfl ?_
            refine wa_getI B (C := RX8) (T := TX8) (N := 11) iq_X8_takeNumber_X8 ha0 ka0 (by decide) rfl 4 (by decide) (by decide) (by decide +kernel) rfl (by decide) (v := (q_20.1 a0 4)) rfl dX8_takeNumber_73 ?_
            refine wa_putI B (C := RX8) (T := TX8) (N := 11) iq_X8_takeNumber_X8 ha0 ka0 (by decide) rfl 3 (by decide) (by decide) (by decide +kernel) rfl (by decide) (v := (q_20.1 a0 4)) (ty := .int) tyX8 tyX8_ok nmX8 rfl (by decide +kernel) rfl rfl dX8_takeNumber_76 (fun q_57 eq_57 => ?_)
            have hV_q_57 : sx_V h L q_57 := by rw [eq_57]; exact hV_q_20.pI ka0 trivial
            have hF_q_57 : sx_fr h L (fun a => a = a0 ∧ h.1 a = 8) q q_57 := hF_q_20.tr (by rw [eq_57]; exact sx_fr.pI (show a0 = a0 ∧ h.1 a0 = 8 from by omega))
            have z_58 : q_57.1 a0 3 = (q_20.1 a0 4) := by rw [eq_57]; exact sg_pI_e
            have hK_q_57 : sx_kg a0 [0, 3, 4, 10] q q_57 := hK_q_20.tr (by rw [eq_57]; exact sx_kg.pI (by decide))
            refine wa_aload_n B dX8_takeNumber_79 rfl 2 rfl ?_
            refine wa_iload_n B dX8_takeNumber_80 rfl 1 rfl ?_
            refine wa_bipush B 63 dX8_takeNumber_81 (by decide) ?_
            have Jn_95_61 : ∀  (v_59 : Int32), v_59.toInt = v_18.toInt - 48 → WA l dC dI h L ({ frames := 1, cells := 0, slots := 0, locals := 21 } : Room) 3 Z q_57 95 [(1, .int v_54), (2, .int v_18), (0, .ref a0)] [.int v_59, .ref a0] := by
              intro v_59 x_60
              refine wa_putI B (C := RX8) (T := TX8) (N := 11) iq_X8_takeNumber_X8 ha0 ka0 (by decide) rfl 4 (by decide) (by decide) (by decide +kernel) rfl (by decide) (v := v_59) (ty := .int) tyX8 tyX8_ok nmX8 rfl (by decide +kernel) rfl rfl dX8_takeNumber_95 (fun q_62 eq_62 => ?_)
              have hV_q_62 : sx_V h L q_62 := by rw [eq_62]; exact hV_q_57.pI ka0 trivial
              have hF_q_62 : sx_fr h L (fun a => a = a0 ∧ h.1 a = 8) q q_62 := hF_q_57.tr (by rw [eq_62]; exact sx_fr.pI (show a0 = a0 ∧ h.1 a0 = 8 from by omega))
              have z_63 : q_62.1 a0 4 = v_59 := by rw [eq_62]; exact sg_pI_e
              have hK_q_62 : sx_kg a0 [0, 3, 4, 10] q q_62 := hK_q_57.tr (by rw [eq_62]; exact sx_kg.pI (by decide))
              refine wa_aload_n B dX8_takeNumber_98 rfl 2 rfl ?_
              refine wa_dup B dX8_takeNumber_99 rfl ?_
              have z_64 : q_62.1 a0 10 = q_20.1 a0 10 := ((show q_62.1 a0 10 = q_57.1 a0 10 from by rw [eq_62]; exact sg_pI_k (by decide))).trans ((show q_57.1 a0 10 = q_20.1 a0 10 from by rw [eq_57]; exact sg_pI_k (by decide)))
              refine wa_getI B (C := RX8) (T := TX8) (N := 11) iq_X8_takeNumber_X8 ha0 ka0 (by decide) rfl 10 (by decide) (by decide) (by decide +kernel) rfl (by decide) (v := (q_20.1 a0 10)) z_64 dX8_takeNumber_100 ?_
              refine wa_iconst B 1 dX8_takeNumber_103 (by decide) ?_
              refine wa_iadd B dX8_takeNumber_104 (fun v_65 ev_65 => ?_)
              refine wa_putI B (C := RX8) (T := TX8) (N := 11) iq_X8_takeNumber_X8 ha0 ka0 (by decide) rfl 10 (by decide) (by decide) (by decide +kernel) rfl (by decide) (v := v_65) (ty := .int) tyX8 tyX8_ok nmX8 rfl (by decide +kernel) rfl rfl dX8_takeNumber_105 (fun q_66 eq_66 => ?_)
              have hV_q_66 : sx_V h L q_66 := by rw [eq_66]; exact hV_q_62.pI ka0 trivial
              have hF_q_66 : sx_fr h L (fun a => a = a0 ∧ h.1 a = 8) q q_66 := hF_q_62.tr (by rw [eq_66]; exact sx_fr.pI (show a0 = a0 ∧ h.1 a0 = 8 from by omega))
              have z_67 : q_66.1 a0 10 = v_65 := by rw [eq_66]; exact sg_pI_e
              have hK_q_66 : sx_kg a0 [0, 3, 4, 10] q q_66 := hK_q_62.tr (by rw [eq_66]; exact sx_kg.pI (by decide))
              refine wa_aload_n B dX8_takeNumber_108 rfl 2 rfl ?_
              have z_68 : q_66.2.2.1 a0 7 = t0 := ((show q_66.2.2.1 a0 7 = q_62.2.2.1 a0 7 from by rw [eq_66]; rfl)).trans (((show q_62.2.2.1 a0 7 = q_57.2.2.1 a0 7 from by rw [eq_62]; rfl)).trans (((show q_57.2.2.1 a0 7 = q_20.2.2.1 a0 7 from by rw [eq_57]; rfl)).trans (p3_q_20)))
              refine wa_getR B (C := RX8) (T := TX8) (N := 11) iq_X8_takeNumber_X8 ha0 ka0 (by decide) rfl 7 (by decide) (by decide) (by decide +kernel) rfl (fun _ _ _ => rfl) (v := t0) z_68 dX8_takeNumber_109 ?_
              refine wa_aload_n B dX8_takeNumber_112 rfl 2 rfl ?_
              refine wa_getI B (C := RX8) (T := TX8) (N := 11) iq_X8_takeNumber_X8 ha0 ka0 (by decide) rfl 10 (by decide) (by decide) (by decide +kernel) rfl (by decide) (v := v_65) z_67 dX8_takeNumber_113 ?_
              have tv_65 : v_65.toInt = (q_20.1 a0 10).toInt + 1 := by have b0 := zx_bd (q_20.1 a0 10); rw [ev_65]; exact zx_add (show (-2147483648 : Int) ≤ (q_20.1 a0 10).toInt + 1 by omega) (show (q_20.1 a0 10).toInt + 1 < (2147483648 : Int) by omega)
              have z_69 : q_66.2.2.1 t0 0 = b0 := ((show q_66.2.2.1 t0 0 = q_62.2.2.1 t0 0 from by rw [eq_66]; rfl)).trans (((show q_62.2.2.1 t0 0 = q_57.2.2.1 t0 0 from by rw [eq_62]; rfl)).trans (((show q_57.2.2.1 t0 0 = q_20.2.2.1 t0 0 from by rw [eq_57]; rfl)).trans (p4_q_20)))
              have z_70 : q_66.1 t0 1 = (q.1 t0 1) := ((show q_66.1 t0 1 = q_62.1 t0 1 from by rw [eq_66]; exact sg_pI_k (by decide))).trans (((show q_62.1 t0 1 = q_57.1 t0 1 from by rw [eq_62]; exact sg_pI_k (by decide))).trans (((show q_57.1 t0 1 = q_20.1 t0 1 from by rw [eq_57]; exact sg_pI_k (by decide))).trans (p1_q_20)))
              have y_71 : (q_66.1 t0 1).toInt = (q.1 t0 1).toInt := by rw [z_70]
              refine wa_callVi B (x := (RX7, TX7, 2)) (As := [.int v_65]) (rest := []) (k_X7_byteAt_c l dC dI h L hN q_66 hV_q_66 (a0 := t0) ht0 kt0 v_65 (b0 := b0) z_69  ) (cwV 1 B.1.2.2.2.2 gX8_takeNumber_X7_byteAt rfl rfl rfl (by decide +kernel) ⟨Nat.le_of_ble_eq_true rfl, Nat.le_of_ble_eq_true rfl⟩) ht0 kt0 (by decide) rfl rfl rfl (Nat.le_of_ble_eq_true rfl) dX8_takeNumber_116 (fun r_73 q_72 w_74 => ?_)
              obtain ⟨ew_74, hw_74⟩ := w_74
              subst ew_74
              have z_75 : q_66.2.2.2.1 b0 = (q.2.2.2.1 b0) := ((show q_66.2.2.2.1 b0 = q_62.2.2.2.1 b0 from by rw [eq_66]; rfl)).trans (((show q_62.2.2.2.1 b0 = q_57.2.2.2.1 b0 from by rw [eq_62]; rfl)).trans (((show q_57.2.2.2.1 b0 = q_20.2.2.2.1 b0 from by rw [eq_57]; rfl)).trans (p5_q_20)))
              have y_77 : (q_66.1 t0 1).toInt = (q.1 t0 1).toInt := by rw [z_70]
              have u_76 : v_65.toInt < (n9 : Int) → r_73 = F v_65.toInt.toNat := fun z9 => by rw [hw_74.2.2 ⟨by omega, by omega⟩, zx_nc, z_75]; exact hFF _ (by omega)
              refine wa_istore_n B [(2, .int r_73), (1, .int v_54), (0, .ref a0)] dX8_takeNumber_119 rfl (by decide) rfl ?_
              refine wa_goto B 24 dX8_takeNumber_120 (by decide) ?_
              have y_78 : (q_66.1 a0 10).toInt = v_65.toInt := by rw [z_67]
              have y_79 : (q_66.1 t0 1).toInt = (q.1 t0 1).toInt := by rw [z_70]
              have z_80 : q_66.1 a0 1 = (q.1 a0 1) := ((show q_66.1 a0 1 = q_62.1 a0 1 from by rw [eq_66]; exact sg_pI_k (by decide))).trans (((show q_62.1 a0 1 = q_57.1 a0 1 from by rw [eq_62]; exact sg_pI_k (by decide))).trans (((show q_57.1 a0 1 = q_20.1 a0 1 from by rw [eq_57]; exact sg_pI_k (by decide))).trans (p0_q_20)))
              have z_81 : q_66.1 a0 9 = (q.1 a0 9) := ((show q_66.1 a0 9 = q_62.1 a0 9 from by rw [eq_66]; exact sg_pI_k (by decide))).trans (((show q_62.1 a0 9 = q_57.1 a0 9 from by rw [eq_62]; exact sg_pI_k (by decide))).trans (((show q_57.1 a0 9 = q_20.1 a0 9 from by rw [eq_57]; exact sg_pI_k (by decide))).trans (p2_q_20)))
              have z_82 : q_66.1 a0 3 = (q_20.1 a0 4) := ((show q_66.1 a0 3 = q_62.1 a0 3 from by rw [eq_66]; exact sg_pI_k (by decide))).trans (((show q_62.1 a0 3 = q_57.1 a0 3 from by rw [eq_62]; exact sg_pI_k (by decide))).trans (z_58))
              have z_83 : q_66.1 a0 4 = v_59 := ((show q_66.1 a0 4 = q_62.1 a0 4 from by rw [eq_66]; exact sg_pI_k (by decide))).trans (z_63)
              exact ih_30 r_73 v_54 q_66 hV_q_66 hF_q_66 hK_q_66 z_80 z_70 z_81 z_68 z_69 z_75 (show 0 ≤ (q_66.1 a0 10).toInt from by first | assumption | omega | decide) (show (q_66.1 a0 10).toInt ≤ (q_66.1 t0 1).toInt from by first | assumption | omega | decide) (show v_54.toInt = 0 ∨ v_54.toInt = 1 from by first | assumption | omega | decide) (show tu_I F n9 (q.1 a0 1).toInt.toNat (q_66.1 a0 10) r_73 v_54 (q_66.1 a0 3) (q_66.1 a0 4) from by rw [z_67, z_82, z_83]; exact tu_s x_27 (by omega) (by omega) (by omega) u_76 (by omega) (by omega)) (show ((q_66.1 t0 1).toInt - (q_66.1 a0 10).toInt : Int).toNat < _ from by omega)
            refine wa_icmp_ne B 91 dX8_takeNumber_83 (by decide) (fun (t_84 : ¬ v_18.toInt = 63) => ?_) (fun (t_84 : v_18.toInt = 63) => ?_)
            · refine wa_iload_n B dX8_takeNumber_91 rfl 1 rfl ?_
              refine wa_bipush B 48 dX8_takeNumber_92 (by decide) ?_
              refine wa_isub B dX8_takeNumber_94 (fun v_85 ev_85 => ?_)
              have tv_85 : v_85.toInt = v_18.toInt - 48 := by have b0 := zx_bd v_18; rw [ev_85]; exact zx_sub (show (-2147483648 : Int) ≤ v_18.toInt - 48 by omega) (show v_18.toInt - 48 < (2147483648 : Int) by omega)
              exact Jn_95_61 v_85 (show v_85.toInt = v_18.toInt - 48 from by first | assumption | omega | decide)
            · refine wa_bipush B 10 dX8_takeNumber_86 (by decide) ?_
              refine wa_goto B 95 dX8_takeNumber_88 (by decide) ?_
              exact Jn_95_61 10 (show 10 = v_18.toInt - 48 from by first | assumption | omega | decide)
          refine wa_if_eq B 69 dX8_takeNumber_54 (by decide) (fun (t_86 : v_19.toInt = 0) => ?_) (fun (t_86 : ¬ v_19.toInt = 0) => ?_)
          · refine wa_iconst B 0 dX8_takeNumber_69 (by decide) ?_
            exact Jn_70_56 0 (show 0 = 1 ∧ v_19.toInt = 1 ∧ (48 ≤ v_18.toInt ∧ v_18.toInt ≤ 57) ∨ 0 = 0 ∧ ¬ (v_19.toInt = 1 ∧ 48 ≤ v_18.toInt ∧ v_18.toInt ≤ 57) from by first | assumption | omega | decide)
          · refine wa_aload_n B dX8_takeNumber_57 rfl 2 rfl ?_
            refine wa_iload_n B dX8_takeNumber_58 rfl 0 rfl ?_
            have y_87 : (q_20.1 a0 9).toInt = (q.1 a0 9).toInt := by rw [p2_q_20]
            refine wa_callVi B (x := (RX8, TX8, 11)) (As := [.int v_18]) (rest := []) (k_X8_isDigit_c l dC dI h L hN q_20 hV_q_20 (a0 := a0) ha0 ka0 v_18  (by first | assumption | omega | decide)) (cwV 1 B.1.2.2.2.2 gX8_takeNumber_X8_isDigit rfl rfl rfl (by decide +kernel) ⟨Nat.le_of_ble_eq_true rfl, Nat.le_of_ble_eq_true rfl⟩) ha0 ka0 (by decide) rfl rfl rfl (Nat.le_of_ble_eq_true rfl) dX8_takeNumber_59 (fun r_89 q_88 w_90 => ?_)
            obtain ⟨ew_90, hw_90⟩ := w_90
            subst ew_90
            refine wa_if_eq B 69 dX8_takeNumber_62 (by decide) (fun (t_91 : r_89.toInt = 0) => ?_) (fun (t_91 : ¬ r_89.toInt = 0) => ?_)
            · refine wa_iconst B 0 dX8_takeNumber_69 (by decide) ?_
              exact Jn_70_56 0 (show 0 = 1 ∧ v_19.toInt = 1 ∧ (48 ≤ v_18.toInt ∧ v_18.toInt ≤ 57) ∨ 0 = 0 ∧ ¬ (v_19.toInt = 1 ∧ 48 ≤ v_18.toInt ∧ v_18.toInt ≤ 57) from by first | assumption | omega | decide)
            · refine wa_iconst B 1 dX8_takeNumber_65 (by decide) ?_
              refine wa_goto B 70 dX8_takeNumber_66 (by decide) ?_
              exact Jn_70_56 1 (show 1 = 1 ∧ v_19.toInt = 1 ∧ (48 ≤ v_18.toInt ∧ v_18.toInt ≤ 57) ∨ 1 = 0 ∧ ¬ (v_19.toInt = 1 ∧ 48 ≤ v_18.toInt ∧ v_18.toInt ≤ 57) from by first | assumption | omega | decide)
        refine wa_if_ne B 53 dX8_takeNumber_43 (by decide) (fun (t_92 : ¬ r_50.toInt = 0) => ?_) (fun (t_92 : r_50.toInt = 0) => ?_)
        · exact Jn_53_53 () (show 48 ≤ v_18.toInt ∧ v_18.toInt ≤ 57 ∨ 97 ≤ v_18.toInt ∧ v_18.toInt ≤ 122 from by first | assumption | omega | decide)
        · refine wa_iload_n B dX8_takeNumber_46 rfl 0 rfl ?_
          refine wa_callSi B (As := [.int v_18]) (rest := []) (k_X8_isSmallLetter_c l dC dI h L hN q_20 hV_q_20 v_18  ) (va_cwS 1 B.1.2.2.2.2 gX8_takeNumber_X8_isSmallLetter rfl rfl rfl (by decide +kernel) ⟨Nat.le_of_ble_eq_true rfl, Nat.le_of_ble_eq_true rfl⟩) rfl rfl (Nat.le_of_ble_eq_true rfl) dX8_takeNumber_47 (fun r_94 q_93 w_95 => ?_)
          obtain ⟨ew_95, hw_95⟩ := w_95
          subst ew_95
          refine wa_if_eq B 123 dX8_takeNumber_50 (by decide) (fun (t_96 : r_94.toInt = 0) => ?_) (fun (t_96 : ¬ r_94.toInt = 0) => ?_)
          · refine wa_aload_n B dX8_takeNumber_123 rfl 2 rfl ?_
            refine wa_iload_n B dX8_takeNumber_124 rfl 1 rfl ?_
            have Jn_146_99 : ∀  (v_97 : Int32), v_97.toInt = ((pz_kU F n9 (q.1 a0 1).toInt.toNat : Nat) : Int) → WA l dC dI h L ({ frames := 1, cells := 0, slots := 0, locals := 21 } : Room) 3 Z q_20 146 [(2, .int v_18), (1, .int v_19), (0, .ref a0)] [.int v_97, .ref a0] := by
              intro v_97 x_98
              refine wa_putI B (C := RX8) (T := TX8) (N := 11) iq_X8_takeNumber_X8 ha0 ka0 (by decide) rfl 0 (by decide) (by decide) (by decide +kernel) rfl (by decide) (v := v_97) (ty := .int) tyX8 tyX8_ok nmX8 rfl (by decide +kernel) rfl rfl dX8_takeNumber_146 (fun q_100 eq_100 => ?_)
              have hV_q_100 : sx_V h L q_100 := by rw [eq_100]; exact hV_q_20.pI ka0 trivial
              have hF_q_100 : sx_fr h L (fun a => a = a0 ∧ h.1 a = 8) q q_100 := hF_q_20.tr (by rw [eq_100]; exact sx_fr.pI (show a0 = a0 ∧ h.1 a0 = 8 from by omega))
              have z_101 : q_100.1 a0 0 = v_97 := by rw [eq_100]; exact sg_pI_e
              have hK_q_100 : sx_kg a0 [0, 3, 4, 10] q q_100 := hK_q_20.tr (by rw [eq_100]; exact sx_kg.pI (by decide))
              have y_102 : (q_100.1 a0 0).toInt = v_97.toInt := by rw [z_101]
              have z_103 : q_100.1 a0 10 = q_20.1 a0 10 := (show q_100.1 a0 10 = q_20.1 a0 10 from by rw [eq_100]; exact sg_pI_k (by decide))
              have y_104 : (q_100.1 a0 10).toInt = (q_20.1 a0 10).toInt := by rw [z_103]
              have z_105 : q_100.1 a0 3 = q_20.1 a0 3 := (show q_100.1 a0 3 = q_20.1 a0 3 from by rw [eq_100]; exact sg_pI_k (by decide))
              have y_106 : (q_100.1 a0 3).toInt = (q_20.1 a0 3).toInt := by rw [z_105]
              have z_107 : q_100.1 a0 4 = q_20.1 a0 4 := (show q_100.1 a0 4 = q_20.1 a0 4 from by rw [eq_100]; exact sg_pI_k (by decide))
              have y_108 : (q_100.1 a0 4).toInt = (q_20.1 a0 4).toInt := by rw [z_107]
              exact hret _ _ _ dX8_takeNumber_149 ⟨hV_q_100, hF_q_100, hK_q_100, ⟨by rw [z_101]; exact x_98, by rw [z_103]; rw [tu_e x_27 (by omega)]; omega, by rw [z_105, z_107]; exact tu_v x_27 (by omega) (by omega) hyd⟩⟩
            refine wa_if_eq B 145 dX8_takeNumber_125 (by decide) (fun (t_109 : v_19.toInt = 0) => ?_) (fun (t_109 : ¬ v_19.toInt = 0) => ?_)
            · refine wa_iconst B 1 dX8_takeNumber_145 (by decide) ?_
              exact Jn_146_99 1 (show 1 = ((pz_kU F n9 (q.1 a0 1).toInt.toNat : Nat) : Int) from by rw [tu_bad x_27 (by omega) (by omega)]; rfl)
            · refine wa_aload_n B dX8_takeNumber_128 rfl 2 rfl ?_
              refine wa_getI B (C := RX8) (T := TX8) (N := 11) iq_X8_takeNumber_X8 ha0 ka0 (by decide) rfl 10 (by decide) (by decide) (by decide +kernel) rfl (by decide) (v := (q_20.1 a0 10)) rfl dX8_takeNumber_129 ?_
              refine wa_aload_n B dX8_takeNumber_132 rfl 2 rfl ?_
              refine wa_getI B (C := RX8) (T := TX8) (N := 11) iq_X8_takeNumber_X8 ha0 ka0 (by decide) rfl 1 (by decide) (by decide) (by decide +kernel) rfl (by decide) (v := (q.1 a0 1)) p0_q_20 dX8_takeNumber_133 ?_
              refine wa_isub B dX8_takeNumber_136 (fun v_110 ev_110 => ?_)
              refine wa_iconst B 2 dX8_takeNumber_137 (by decide) ?_
              have tv_110 : v_110.toInt = (q_20.1 a0 10).toInt - (q.1 a0 1).toInt := by have b0 := zx_bd (q_20.1 a0 10); have b1 := zx_bd (q.1 a0 1); rw [ev_110]; exact zx_sub (show (-2147483648 : Int) ≤ (q_20.1 a0 10).toInt - (q.1 a0 1).toInt by omega) (show (q_20.1 a0 10).toInt - (q.1 a0 1).toInt < (2147483648 : Int) by omega)
              refine wa_icmp_gt B 145 dX8_takeNumber_138 (by decide) (fun (t_111 : 2 < v_110.toInt) => ?_) (fun (t_111 : ¬ 2 < v_110.toInt) => ?_)
              · refine wa_iconst B 1 dX8_takeNumber_145 (by decide) ?_
                exact Jn_146_99 1 (show 1 = ((pz_kU F n9 (q.1 a0 1).toInt.toNat : Nat) : Int) from by rw [tu_bad x_27 (by omega) (by omega)]; rfl)
              · refine wa_iconst B 3 dX8_takeNumber_141 (by decide) ?_
                refine wa_goto B 146 dX8_takeNumber_142 (by decide) ?_
                exact Jn_146_99 3 (show 3 = ((pz_kU F n9 (q.1 a0 1).toInt.toNat : Nat) : Int) from by rw [tu_good x_27 (by omega) (by omega) (by omega)]; rfl)
          · exact Jn_53_53 () (show 48 ≤ v_18.toInt ∧ v_18.toInt ≤ 57 ∨ 97 ≤ v_18.toInt ∧ v_18.toInt ≤ 122 from by first | assumption | omega | decide)
  have y_112 : (q_5.1 a0 10).toInt = (q.1 a0 10).toInt := by rw [z_8]
  have y_113 : (q_5.1 t0 1).toInt = (q.1 t0 1).toInt := by rw [z_10]
  exact Lp_24_28 _ r_13 1 q_5 hV_q_5 hF_q_5 hK_q_5 z_21 z_10 z_22 z_7 z_9 z_15 (show 0 ≤ (q_5.1 a0 10).toInt from by first | assumption | omega | decide) (show (q_5.1 a0 10).toInt ≤ (q_5.1 t0 1).toInt from by first | assumption | omega | decide) (show 1 = 0 ∨ 1 = 1 from by first | assumption | omega | decide) (show tu_I F n9 (q.1 a0 1).toInt.toNat (q_5.1 a0 10) r_13 (1 : Int32) (q_5.1 a0 3) (q_5.1 a0 4) from by rw [z_8]; exact tu_0 (by omega) (by omega) u_16 z_6 rfl) (Nat.lt_succ_self _)
set_option maxHeartbeats 4000000 in
set_option maxRecDepth 100000 in
theorem k_X8_advance_c (l : Launch) (dC : Nat → ClassId) (dI : Nat → Nat → Nat) (h : Sh) (L : List Nat) (hN : sx_nd L) (q : Sg) (hV : sx_V h L q) {a0 : Nat} (ha0 : a0 ∈ L) (ka0 : h.1 a0 = 8) {t0 : Nat} (et0 : q.2.2.1 a0 7 = t0) {b0 : Nat} (eb0 : q.2.2.1 t0 0 = b0)  (F : Nat → Int32) (n9 : Nat) (hy0 : 0 ≤ (q.1 a0 10).toInt) (hy1 : (q.1 a0 8).toInt = 400) (hy2 : (q.1 a0 9).toInt = 0) (hn9 : (n9 : Int) = (q.1 t0 1).toInt) (hFF : ∀ j : Nat, j < n9 → q.2.2.2.1 b0 j &&& 255 = F j) : CMv l dC dI h L yX8_advance wsX8_advance ({ frames := 2, cells := 0, slots := 0, locals := 43 } : Room) q [.ref a0] (fun q' => sx_V h L q' ∧ sx_fr h L (fun a => a = a0 ∧ h.1 a = 8) q q' ∧ sx_kg a0 [0, 1, 2, 3, 4, 10] q q' ∧ (pz_T F n9 (q.1 a0 10).toInt.toNat (q'.1 a0 0) (q'.1 a0 1) (q'.1 a0 10) (q'.2.1 a0 2) (q'.1 a0 3) (q'.1 a0 4))) := by
  refine cm_v (cc := cX8_advance) (mL := 3) (own := RX8) hN (by decide) rfl rfl (Nat.le_of_ble_eq_true rfl) (fun Z B hret => ?_)
  have hF : sx_fr h L (fun a => a = a0 ∧ h.1 a = 8) q q := sx_fr.rf
  have hK : sx_kg a0 [0, 1, 2, 3, 4, 10] q q := sx_kg.rf
  obtain ⟨ht0, kt0⟩ : t0 ∈ L ∧ h.1 t0 = 7 := by obtain ⟨r9, e9, z1, z2⟩ := hV.ref (t := 7) ha0 ka0 7 rfl (by decide); rw [← et0, e9]; exact ⟨z1, z2⟩
  obtain ⟨hb0, kb0⟩ : b0 ∈ L ∧ h.1 b0 = 300 := by obtain ⟨r9, e9, z1, z2⟩ := hV.ref (t := 300) ht0 kt0 0 rfl (by decide); rw [← eb0, e9]; exact ⟨z1, z2⟩
  show WA l dC dI h L ({ frames := 2, cells := 0, slots := 0, locals := 43 } : Room) 3 Z q 0 [(0, .ref a0)] []
  have g_1 : (0 : Int) ≤ (q.1 t0 1).toInt ∧ (q.1 t0 1).toInt ≤ (h.2.1 b0 : Int) := by have z9 := hV.int ht0 kt0 1; rw [eb0] at z9; exact z9
  have l_2 : h.2.1 b0 ≤ 5000 := hV.len hb0
  refine wa_aload_n B dX8_advance_0 rfl 0 rfl ?_
  refine wa_getR B (C := RX8) (T := TX8) (N := 11) iq_X8_advance_X8 ha0 ka0 (by decide) rfl 7 (by decide) (by decide) (by decide +kernel) rfl (fun _ _ _ => rfl) (v := t0) et0 dX8_advance_1 ?_
  refine wa_getI B (C := RX7) (T := TX7) (N := 2) iq_X8_advance_X7 ht0 kt0 (by decide) rfl 1 (by decide) (by decide) (by decide +kernel) rfl (by decide) (v := (q.1 t0 1)) rfl dX8_advance_4 ?_
  refine wa_aload_n B dX8_advance_7 rfl 0 rfl ?_
  refine wa_getI B (C := RX8) (T := TX8) (N := 11) iq_X8_advance_X8 ha0 ka0 (by decide) rfl 8 (by decide) (by decide) (by decide +kernel) rfl (by decide) (v := (q.1 a0 8)) rfl dX8_advance_8 ?_
  refine wa_mmin B (by decide +kernel) (by decide +kernel) (by decide +kernel) (by decide +kernel) (Nat.le_of_ble_eq_true rfl) (Nat.le_of_ble_eq_true rfl) dX8_advance_11 (fun v_3 ev_3 => ?_)
  have gv_3 : (v_3.toInt = (q.1 t0 1).toInt ∨ v_3.toInt = (q.1 a0 8).toInt) ∧ (q.1 t0 1).toInt ≥ v_3.toInt ∧ (q.1 a0 8).toInt ≥ v_3.toInt := by rw [ev_3]; exact zx_min
  refine wa_istore_n B [(1, .int v_3), (0, .ref a0)] dX8_advance_14 rfl (by decide) rfl ?_
  have Lp_15_7 : ∀ (n : Nat) (q_4 : Sg), sx_V h L q_4 → sx_fr h L (fun a => a = a0 ∧ h.1 a = 8) q q_4 → sx_kg a0 [0, 1, 2, 3, 4, 10] q q_4 → q_4.1 t0 1 = (q.1 t0 1) → q_4.1 a0 1 = (q.1 a0 1) → q_4.1 a0 9 = (q.1 a0 9) → q_4.1 a0 8 = (q.1 a0 8) → q_4.2.2.1 a0 7 = t0 → q_4.2.2.1 t0 0 = b0 → q_4.2.2.2.1 b0 = (q.2.2.2.1 b0) → 0 ≤ (q_4.1 a0 10).toInt → pz_B F n9 (q.1 a0 10).toInt.toNat = pz_skip F (min n9 400) (q_4.1 a0 10).toInt.toNat → (v_3.toInt - (q_4.1 a0 10).toInt : Int).toNat < n → WA l dC dI h L ({ frames := 2, cells := 0, slots := 0, locals := 43 } : Room) 3 Z q_4 15 [(1, .int v_3), (0, .ref a0)] [] := by
    intro n
    induction n with
    | zero =>
      intro q_4 hV_q_4 hF_q_4 hK_q_4 p0_q_4 p1_q_4 p2_q_4 p3_q_4 p4_q_4 p5_q_4 p6_q_4 x_5 x_6 hn
      exact absurd hn (Nat.not_lt_zero _)
    | succ n ih_8 =>
      intro q_4 hV_q_4 hF_q_4 hK_q_4 p0_q_4 p1_q_4 p2_q_4 p3_q_4 p4_q_4 p5_q_4 p6_q_4 x_5 x_6 hn
      refine wa_aload_n B dX8_advance_15 rfl 1 rfl ?_
      refine wa_getI B (C := RX8) (T := TX8) (N := 11) iq_X8_advance_X8 ha0 ka0 (by decide) rfl 10 (by decide) (by decide) (by decide +kernel) rfl (by decide) (v := (q_4.1 a0 10)) rfl dX8_advance_16 ?_
      refine wa_iload_n B dX8_advance_19 rfl 0 rfl ?_
      have Jn_53_10 : ∀ (_ : Unit), pz_B F n9 (q.1 a0 10).toInt.toNat = (q_4.1 a0 10).toInt.toNat → WA l dC dI h L ({ frames := 2, cells := 0, slots := 0, locals := 43 } : Room) 3 Z q_4 53 [(1, .int v_3), (0, .ref a0)] [] := by
        intro _ x_9
        refine wa_aload_n B dX8_advance_53 rfl 1 rfl ?_
        refine wa_getI B (C := RX8) (T := TX8) (N := 11) iq_X8_advance_X8 ha0 ka0 (by decide) rfl 10 (by decide) (by decide) (by decide +kernel) rfl (by decide) (v := (q_4.1 a0 10)) rfl dX8_advance_54 ?_
        refine wa_iload_n B dX8_advance_57 rfl 0 rfl ?_
        refine wa_icmp_lt B 72 dX8_advance_58 (by decide) (fun (t_11 : (q_4.1 a0 10).toInt < v_3.toInt) => ?_) (fun (t_11 : ¬ (q_4.1 a0 10).toInt < v_3.toInt) => ?_)
        · refine wa_aload_n B dX8_advance_72 rfl 1 rfl ?_
          refine wa_aload_n B dX8_advance_73 rfl 1 rfl ?_
          refine wa_getI B (C := RX8) (T := TX8) (N := 11) iq_X8_advance_X8 ha0 ka0 (by decide) rfl 10 (by decide) (by decide) (by decide +kernel) rfl (by decide) (v := (q_4.1 a0 10)) rfl dX8_advance_74 ?_
          refine wa_putI B (C := RX8) (T := TX8) (N := 11) iq_X8_advance_X8 ha0 ka0 (by decide) rfl 1 (by decide) (by decide) (by decide +kernel) rfl (by decide) (v := (q_4.1 a0 10)) (ty := .int) tyX8 tyX8_ok nmX8 rfl (by decide +kernel) rfl rfl dX8_advance_77 (fun q_12 eq_12 => ?_)
          have hV_q_12 : sx_V h L q_12 := by rw [eq_12]; exact hV_q_4.pI ka0 trivial
          have hF_q_12 : sx_fr h L (fun a => a = a0 ∧ h.1 a = 8) q q_12 := hF_q_4.tr (by rw [eq_12]; exact sx_fr.pI (show a0 = a0 ∧ h.1 a0 = 8 from by omega))
          have z_13 : q_12.1 a0 1 = (q_4.1 a0 10) := by rw [eq_12]; exact sg_pI_e
          have hK_q_12 : sx_kg a0 [0, 1, 2, 3, 4, 10] q q_12 := hK_q_4.tr (by rw [eq_12]; exact sx_kg.pI (by decide))
          refine wa_aload_n B dX8_advance_80 rfl 1 rfl ?_
          have z_14 : q_12.2.2.1 a0 7 = t0 := ((show q_12.2.2.1 a0 7 = q_4.2.2.1 a0 7 from by rw [eq_12]; rfl)).trans (p4_q_4)
          refine wa_getR B (C := RX8) (T := TX8) (N := 11) iq_X8_advance_X8 ha0 ka0 (by decide) rfl 7 (by decide) (by decide) (by decide +kernel) rfl (fun _ _ _ => rfl) (v := t0) z_14 dX8_advance_81 ?_
          refine wa_aload_n B dX8_advance_84 rfl 1 rfl ?_
          have z_15 : q_12.1 a0 10 = q_4.1 a0 10 := (show q_12.1 a0 10 = q_4.1 a0 10 from by rw [eq_12]; exact sg_pI_k (by decide))
          refine wa_getI B (C := RX8) (T := TX8) (N := 11) iq_X8_advance_X8 ha0 ka0 (by decide) rfl 10 (by decide) (by decide) (by decide +kernel) rfl (by decide) (v := (q_4.1 a0 10)) z_15 dX8_advance_85 ?_
          have z_16 : q_12.2.2.1 t0 0 = b0 := ((show q_12.2.2.1 t0 0 = q_4.2.2.1 t0 0 from by rw [eq_12]; rfl)).trans (p5_q_4)
          have z_17 : q_12.1 t0 1 = (q.1 t0 1) := ((show q_12.1 t0 1 = q_4.1 t0 1 from by rw [eq_12]; exact sg_pI_a (sx_ka h kt0 ka0 (by decide)))).trans (p0_q_4)
          have y_18 : (q_12.1 t0 1).toInt = (q.1 t0 1).toInt := by rw [z_17]
          refine wa_callVi B (x := (RX7, TX7, 2)) (As := [.int (q_4.1 a0 10)]) (rest := []) (k_X7_byteAt_c l dC dI h L hN q_12 hV_q_12 (a0 := t0) ht0 kt0 (q_4.1 a0 10) (b0 := b0) z_16  ) (cwV 1 B.1.2.2.2.2 gX8_advance_X7_byteAt rfl rfl rfl (by decide +kernel) ⟨Nat.le_of_ble_eq_true rfl, Nat.le_of_ble_eq_true rfl⟩) ht0 kt0 (by decide) rfl rfl rfl (Nat.le_of_ble_eq_true rfl) dX8_advance_88 (fun r_20 q_19 w_21 => ?_)
          obtain ⟨ew_21, hw_21⟩ := w_21
          subst ew_21
          have z_22 : q_12.2.2.2.1 b0 = (q.2.2.2.1 b0) := ((show q_12.2.2.2.1 b0 = q_4.2.2.2.1 b0 from by rw [eq_12]; rfl)).trans (p6_q_4)
          have y_24 : (q_12.1 t0 1).toInt = (q.1 t0 1).toInt := by rw [z_17]
          have u_23 : (q_4.1 a0 10).toInt < (n9 : Int) → r_20 = F (q_4.1 a0 10).toInt.toNat := fun z9 => by rw [hw_21.2.2 ⟨by omega, by omega⟩, zx_nc, z_22]; exact hFF _ (by omega)
          refine wa_istore_n B [(2, .int r_20), (1, .int v_3), (0, .ref a0)] dX8_advance_91 rfl (by decide) rfl ?_
          refine wa_iload_n B dX8_advance_92 rfl 0 rfl ?_
          refine wa_callSi B (As := [.int r_20]) (rest := []) (k_X8_isSmallLetter_c l dC dI h L hN q_12 hV_q_12 r_20  ) (va_cwS 1 B.1.2.2.2.2 gX8_advance_X8_isSmallLetter rfl rfl rfl (by decide +kernel) ⟨Nat.le_of_ble_eq_true rfl, Nat.le_of_ble_eq_true rfl⟩) rfl rfl (Nat.le_of_ble_eq_true rfl) dX8_advance_93 (fun r_26 q_25 w_27 => ?_)
          obtain ⟨ew_27, hw_27⟩ := w_27
          subst ew_27
          refine wa_if_eq B 106 dX8_advance_96 (by decide) (fun (t_28 : r_26.toInt = 0) => ?_) (fun (t_28 : ¬ r_26.toInt = 0) => ?_)
          · refine wa_aload_n B dX8_advance_106 rfl 2 rfl ?_
            refine wa_iload_n B dX8_advance_107 rfl 0 rfl ?_
            have z_29 : q_12.1 a0 9 = (q.1 a0 9) := ((show q_12.1 a0 9 = q_4.1 a0 9 from by rw [eq_12]; exact sg_pI_k (by decide))).trans (p2_q_4)
            have y_30 : (q_12.1 a0 9).toInt = (q.1 a0 9).toInt := by rw [z_29]
            refine wa_callVi B (x := (RX8, TX8, 11)) (As := [.int r_20]) (rest := []) (k_X8_isDigit_c l dC dI h L hN q_12 hV_q_12 (a0 := a0) ha0 ka0 r_20  (by first | assumption | omega | decide)) (cwV 1 B.1.2.2.2.2 gX8_advance_X8_isDigit rfl rfl rfl (by decide +kernel) ⟨Nat.le_of_ble_eq_true rfl, Nat.le_of_ble_eq_true rfl⟩) ha0 ka0 (by decide) rfl rfl rfl (Nat.le_of_ble_eq_true rfl) dX8_advance_108 (fun r_32 q_31 w_33 => ?_)
            obtain ⟨ew_33, hw_33⟩ := w_33
            subst ew_33
            refine wa_if_eq B 121 dX8_advance_111 (by decide) (fun (t_34 : r_32.toInt = 0) => ?_) (fun (t_34 : ¬ r_32.toInt = 0) => ?_)
            · refine wa_aload_n B dX8_advance_121 rfl 2 rfl ?_
              refine wa_iload_n B dX8_advance_122 rfl 0 rfl ?_
              have y_35 : (q_12.1 a0 1).toInt = (q_4.1 a0 10).toInt := by rw [z_13]
              have y_36 : (q_12.1 a0 10).toInt = (q_4.1 a0 10).toInt := by rw [z_15]
              have y_37 : (q_12.1 a0 10).toInt = (q_4.1 a0 10).toInt := by rw [z_15]
              refine wa_callVv B (x := (RX8, TX8, 11)) (As := [.int r_20]) (rest := []) (k_X8_takeSign_c l dC dI h L hN q_12 hV_q_12 (a0 := a0) ha0 ka0 r_20  (by first | assumption | omega | decide) (by first | assumption | omega | decide)) (cwV 1 B.1.2.2.2.2 gX8_advance_X8_takeSign rfl rfl rfl (by decide +kernel) ⟨Nat.le_of_ble_eq_true rfl, Nat.le_of_ble_eq_true rfl⟩) ha0 ka0 (by decide) rfl rfl rfl (Nat.le_of_ble_eq_true rfl) dX8_advance_123 (fun q_38 w_39 => ?_)
              obtain ⟨hV_q_38, h2_q_38, h3_q_38, hw_39⟩ := w_39
              have hF_q_38 : sx_fr h L (fun a => a = a0 ∧ h.1 a = 8) q q_38 := hF_q_12.tr (h2_q_38.mono (fun a (z : a = a0 ∧ h.1 a = 8) => (show a = a0 ∧ h.1 a = 8 from by omega)))
              have hK_q_38 : sx_kg a0 [0, 1, 2, 3, 4, 10] q q_38 := hK_q_12.tr (h3_q_38.mono (by decide))
              have z_40 : q_38.1 a0 1 = (q_4.1 a0 10) := (h3_q_38.1 1 (by decide)).trans (z_13)
              have y_41 : (q_38.1 a0 1).toInt = (q_4.1 a0 10).toInt := by rw [z_40]
              have y_42 : (q_38.1 a0 1).toInt = (q_4.1 a0 10).toInt := by rw [z_40]
              exact hret _ _ _ dX8_advance_126 ⟨hV_q_38, hF_q_38, hK_q_38, (pz_T_G (b := (q_12.1 a0 1).toInt.toNat) (x_9.trans (by omega)) (by omega) (by rw [← (show _ = F (q_12.1 a0 1).toInt.toNat from (u_23 (by omega)).trans (congrArg F (by omega)))]; omega) (by rw [← (show _ = F (q_12.1 a0 1).toInt.toNat from (u_23 (by omega)).trans (congrArg F (by omega)))]; omega) (by rw [← (show _ = F (q_12.1 a0 1).toInt.toNat from (u_23 (by omega)).trans (congrArg F (by omega)))]; exact hw_39.1) (by omega) (by omega))⟩
            · refine wa_aload_n B dX8_advance_114 rfl 2 rfl ?_
              have y_43 : (q_12.1 a0 1).toInt = (q_4.1 a0 10).toInt := by rw [z_13]
              have y_44 : (q_12.1 a0 10).toInt = (q_4.1 a0 10).toInt := by rw [z_15]
              have y_45 : (q_12.1 a0 9).toInt = (q.1 a0 9).toInt := by rw [z_29]
              have y_46 : (q_12.1 t0 1).toInt = (q.1 t0 1).toInt := by rw [z_17]
              have y_47 : (q_12.1 a0 1).toInt = (q_4.1 a0 10).toInt := by rw [z_13]
              have y_48 : (q_12.1 a0 10).toInt = (q_4.1 a0 10).toInt := by rw [z_15]
              refine wa_callVv B (x := (RX8, TX8, 11)) (As := []) (rest := []) (k_X8_takeNumber_c l dC dI h L hN q_12 hV_q_12 (a0 := a0) ha0 ka0 (t0 := t0) z_14 (b0 := b0) z_16 F n9 (by first | assumption | omega | decide) (by first | assumption | omega | decide) (by first | assumption | omega | decide) (by first | assumption | omega | decide) (fun j hj => by rw [z_22]; exact hFF j hj) (by rw [show F (q_12.1 a0 1).toInt.toNat = _ from ((u_23 (by omega)).trans (congrArg F (by omega))).symm]; omega) (by first | assumption | omega | decide)) (cwV 0 B.1.2.2.2.2 gX8_advance_X8_takeNumber rfl rfl rfl (by decide +kernel) ⟨Nat.le_of_ble_eq_true rfl, Nat.le_of_ble_eq_true rfl⟩) ha0 ka0 (by decide) rfl rfl rfl (Nat.le_of_ble_eq_true rfl) dX8_advance_115 (fun q_49 w_50 => ?_)
              obtain ⟨hV_q_49, h2_q_49, h3_q_49, hw_50⟩ := w_50
              have hF_q_49 : sx_fr h L (fun a => a = a0 ∧ h.1 a = 8) q q_49 := hF_q_12.tr (h2_q_49.mono (fun a (z : a = a0 ∧ h.1 a = 8) => (show a = a0 ∧ h.1 a = 8 from by omega)))
              have hK_q_49 : sx_kg a0 [0, 1, 2, 3, 4, 10] q q_49 := hK_q_12.tr (h3_q_49.mono (by decide))
              refine wa_goto B 126 dX8_advance_118 (by decide) ?_
              have z_51 : q_49.1 a0 1 = (q_4.1 a0 10) := (h3_q_49.1 1 (by decide)).trans (z_13)
              have y_52 : (q_49.1 a0 1).toInt = (q_4.1 a0 10).toInt := by rw [z_51]
              have y_53 : (q_49.1 a0 1).toInt = (q_4.1 a0 10).toInt := by rw [z_51]
              exact hret _ _ _ dX8_advance_126 ⟨hV_q_49, hF_q_49, hK_q_49, (pz_T_U (b := (q_12.1 a0 1).toInt.toNat) (x_9.trans (by omega)) (by omega) (by rw [← (show _ = F (q_12.1 a0 1).toInt.toNat from (u_23 (by omega)).trans (congrArg F (by omega)))]; omega) hw_50.1 (by omega) hw_50.2.1 hw_50.2.2)⟩
          · refine wa_aload_n B dX8_advance_99 rfl 2 rfl ?_
            have y_54 : (q_12.1 a0 1).toInt = (q_4.1 a0 10).toInt := by rw [z_13]
            have y_55 : (q_12.1 a0 10).toInt = (q_4.1 a0 10).toInt := by rw [z_15]
            have y_56 : (q_12.1 t0 1).toInt = (q.1 t0 1).toInt := by rw [z_17]
            refine wa_callVv B (x := (RX8, TX8, 11)) (As := []) (rest := []) (k_X8_takeName_c l dC dI h L hN q_12 hV_q_12 (a0 := a0) ha0 ka0 (t0 := t0) z_14 (b0 := b0) z_16 F n9 (by first | assumption | omega | decide) (by first | assumption | omega | decide) (by first | assumption | omega | decide) (by first | assumption | omega | decide) (fun j hj => by rw [z_22]; exact hFF j hj)) (cwV 0 B.1.2.2.2.2 gX8_advance_X8_takeName rfl rfl rfl (by decide +kernel) ⟨Nat.le_of_ble_eq_true rfl, Nat.le_of_ble_eq_true rfl⟩) ha0 ka0 (by decide) rfl rfl rfl (Nat.le_of_ble_eq_true rfl) dX8_advance_100 (fun q_57 w_58 => ?_)
            obtain ⟨hV_q_57, h2_q_57, h3_q_57, hw_58⟩ := w_58
            have hF_q_57 : sx_fr h L (fun a => a = a0 ∧ h.1 a = 8) q q_57 := hF_q_12.tr (h2_q_57.mono (fun a (z : a = a0 ∧ h.1 a = 8) => (show a = a0 ∧ h.1 a = 8 from by omega)))
            have hK_q_57 : sx_kg a0 [0, 1, 2, 3, 4, 10] q q_57 := hK_q_12.tr (h3_q_57.mono (by decide))
            refine wa_goto B 126 dX8_advance_103 (by decide) ?_
            have z_59 : q_57.1 a0 1 = (q_4.1 a0 10) := (h3_q_57.1 1 (by decide)).trans (z_13)
            have y_60 : (q_57.1 a0 1).toInt = (q_4.1 a0 10).toInt := by rw [z_59]
            have y_61 : (q_57.1 a0 1).toInt = (q_4.1 a0 10).toInt := by rw [z_59]
            exact hret _ _ _ dX8_advance_126 ⟨hV_q_57, hF_q_57, hK_q_57, (pz_T_N (b := (q_12.1 a0 1).toInt.toNat) (x_9.trans (by omega)) (by omega) (by rw [← (show _ = F (q_12.1 a0 1).toInt.toNat from (u_23 (by omega)).trans (congrArg F (by omega)))]; omega) hw_58.1 (by omega) hw_58.2.1 hw_58.2.2)⟩
        · refine wa_aload_n B dX8_advance_61 rfl 1 rfl ?_
          refine wa_iconst B 0 dX8_advance_62 (by decide) ?_
          refine wa_putI B (C := RX8) (T := TX8) (N := 11) iq_X8_advance_X8 ha0 ka0 (by decide) rfl 0 (by decide) (by decide) (by decide +kernel) rfl (by decide) (v := 0) (ty := .int) tyX8 tyX8_ok nmX8 rfl (by decide +kernel) rfl rfl dX8_advance_63 (fun q_62 eq_62 => ?_)
          have hV_q_62 : sx_V h L q_62 := by rw [eq_62]; exact hV_q_4.pI ka0 trivial
          have hF_q_62 : sx_fr h L (fun a => a = a0 ∧ h.1 a = 8) q q_62 := hF_q_4.tr (by rw [eq_62]; exact sx_fr.pI (show a0 = a0 ∧ h.1 a0 = 8 from by omega))
          have z_63 : q_62.1 a0 0 = 0 := by rw [eq_62]; exact sg_pI_e
          have hK_q_62 : sx_kg a0 [0, 1, 2, 3, 4, 10] q q_62 := hK_q_4.tr (by rw [eq_62]; exact sx_kg.pI (by decide))
          refine wa_aload_n B dX8_advance_66 rfl 1 rfl ?_
          refine wa_iload_n B dX8_advance_67 rfl 0 rfl ?_
          refine wa_putI B (C := RX8) (T := TX8) (N := 11) iq_X8_advance_X8 ha0 ka0 (by decide) rfl 1 (by decide) (by decide) (by decide +kernel) rfl (by decide) (v := v_3) (ty := .int) tyX8 tyX8_ok nmX8 rfl (by decide +kernel) rfl rfl dX8_advance_68 (fun q_64 eq_64 => ?_)
          have hV_q_64 : sx_V h L q_64 := by rw [eq_64]; exact hV_q_62.pI ka0 trivial
          have hF_q_64 : sx_fr h L (fun a => a = a0 ∧ h.1 a = 8) q q_64 := hF_q_62.tr (by rw [eq_64]; exact sx_fr.pI (show a0 = a0 ∧ h.1 a0 = 8 from by omega))
          have z_65 : q_64.1 a0 1 = v_3 := by rw [eq_64]; exact sg_pI_e
          have hK_q_64 : sx_kg a0 [0, 1, 2, 3, 4, 10] q q_64 := hK_q_62.tr (by rw [eq_64]; exact sx_kg.pI (by decide))
          have z_66 : q_64.1 a0 0 = 0 := ((show q_64.1 a0 0 = q_62.1 a0 0 from by rw [eq_64]; exact sg_pI_k (by decide))).trans (z_63)
          have y_67 : (q_64.1 a0 0).toInt = 0 := by rw [z_66]; rfl
          have y_68 : (q_64.1 a0 1).toInt = v_3.toInt := by rw [z_65]
          have z_69 : q_64.1 a0 10 = q_4.1 a0 10 := ((show q_64.1 a0 10 = q_62.1 a0 10 from by rw [eq_64]; exact sg_pI_k (by decide))).trans ((show q_62.1 a0 10 = q_4.1 a0 10 from by rw [eq_62]; exact sg_pI_k (by decide)))
          have y_70 : (q_64.1 a0 10).toInt = (q_4.1 a0 10).toInt := by rw [z_69]
          have y_71 : (q_64.1 a0 0).toInt = 0 := by rw [z_66]; rfl
          have y_72 : (q_64.1 a0 1).toInt = v_3.toInt := by rw [z_65]
          have y_73 : (q_64.1 a0 10).toInt = (q_4.1 a0 10).toInt := by rw [z_69]
          exact hret _ _ _ dX8_advance_71 ⟨hV_q_64, hF_q_64, hK_q_64, (pz_T_0 x_9 (by omega) (by omega) (by omega) (by omega))⟩
      refine wa_icmp_ge B 53 dX8_advance_20 (by decide) (fun (t_74 : v_3.toInt ≤ (q_4.1 a0 10).toInt) => ?_) (fun (t_74 : ¬ v_3.toInt ≤ (q_4.1 a0 10).toInt) => ?_)
      · exact Jn_53_10 () (show pz_B F n9 (q.1 a0 10).toInt.toNat = (q_4.1 a0 10).toInt.toNat from by exact x_6.trans (pz_skip_e (fun z9 => by omega)))
      · refine wa_aload_n B dX8_advance_23 rfl 1 rfl ?_
        refine wa_getR B (C := RX8) (T := TX8) (N := 11) iq_X8_advance_X8 ha0 ka0 (by decide) rfl 7 (by decide) (by decide) (by decide +kernel) rfl (fun _ _ _ => rfl) (v := t0) p4_q_4 dX8_advance_24 ?_
        refine wa_aload_n B dX8_advance_27 rfl 1 rfl ?_
        refine wa_getI B (C := RX8) (T := TX8) (N := 11) iq_X8_advance_X8 ha0 ka0 (by decide) rfl 10 (by decide) (by decide) (by decide +kernel) rfl (by decide) (v := (q_4.1 a0 10)) rfl dX8_advance_28 ?_
        have y_75 : (q_4.1 t0 1).toInt = (q.1 t0 1).toInt := by rw [p0_q_4]
        refine wa_callVi B (x := (RX7, TX7, 2)) (As := [.int (q_4.1 a0 10)]) (rest := []) (k_X7_byteAt_c l dC dI h L hN q_4 hV_q_4 (a0 := t0) ht0 kt0 (q_4.1 a0 10) (b0 := b0) p5_q_4  ) (cwV 1 B.1.2.2.2.2 gX8_advance_X7_byteAt rfl rfl rfl (by decide +kernel) ⟨Nat.le_of_ble_eq_true rfl, Nat.le_of_ble_eq_true rfl⟩) ht0 kt0 (by decide) rfl rfl rfl (Nat.le_of_ble_eq_true rfl) dX8_advance_31 (fun r_77 q_76 w_78 => ?_)
        obtain ⟨ew_78, hw_78⟩ := w_78
        subst ew_78
        have y_80 : (q_4.1 t0 1).toInt = (q.1 t0 1).toInt := by rw [p0_q_4]
        have u_79 : (q_4.1 a0 10).toInt < (n9 : Int) → r_77 = F (q_4.1 a0 10).toInt.toNat := fun z9 => by rw [hw_78.2.2 ⟨by omega, by omega⟩, zx_nc, p6_q_4]; exact hFF _ (by omega)
        refine wa_callSi B (As := [.int r_77]) (rest := []) (k_X8_isBlank_c l dC dI h L hN q_4 hV_q_4 r_77  ) (va_cwS 1 B.1.2.2.2.2 gX8_advance_X8_isBlank rfl rfl rfl (by decide +kernel) ⟨Nat.le_of_ble_eq_true rfl, Nat.le_of_ble_eq_true rfl⟩) rfl rfl (Nat.le_of_ble_eq_true rfl) dX8_advance_34 (fun r_82 q_81 w_83 => ?_)
        obtain ⟨ew_83, hw_83⟩ := w_83
        subst ew_83
        refine wa_if_eq B 53 dX8_advance_37 (by decide) (fun (t_84 : r_82.toInt = 0) => ?_) (fun (t_84 : ¬ r_82.toInt = 0) => ?_)
        · exact Jn_53_10 () (show pz_B F n9 (q.1 a0 10).toInt.toNat = (q_4.1 a0 10).toInt.toNat from by exact x_6.trans (pz_skip_e (fun z9 => by have y9 := z9.2; rw [← u_79 (by omega)] at y9; omega)))
        · refine wa_aload_n B dX8_advance_40 rfl 1 rfl ?_
          refine wa_dup B dX8_advance_41 rfl ?_
          refine wa_getI B (C := RX8) (T := TX8) (N := 11) iq_X8_advance_X8 ha0 ka0 (by decide) rfl 10 (by decide) (by decide) (by decide +kernel) rfl (by decide) (v := (q_4.1 a0 10)) rfl dX8_advance_42 ?_
          refine wa_iconst B 1 dX8_advance_45 (by decide) ?_
          refine wa_iadd B dX8_advance_46 (fun v_85 ev_85 => ?_)
          refine wa_putI B (C := RX8) (T := TX8) (N := 11) iq_X8_advance_X8 ha0 ka0 (by decide) rfl 10 (by decide) (by decide) (by decide +kernel) rfl (by decide) (v := v_85) (ty := .int) tyX8 tyX8_ok nmX8 rfl (by decide +kernel) rfl rfl dX8_advance_47 (fun q_86 eq_86 => ?_)
          have hV_q_86 : sx_V h L q_86 := by rw [eq_86]; exact hV_q_4.pI ka0 trivial
          have hF_q_86 : sx_fr h L (fun a => a = a0 ∧ h.1 a = 8) q q_86 := hF_q_4.tr (by rw [eq_86]; exact sx_fr.pI (show a0 = a0 ∧ h.1 a0 = 8 from by omega))
          have z_87 : q_86.1 a0 10 = v_85 := by rw [eq_86]; exact sg_pI_e
          have hK_q_86 : sx_kg a0 [0, 1, 2, 3, 4, 10] q q_86 := hK_q_4.tr (by rw [eq_86]; exact sx_kg.pI (by decide))
          refine wa_goto B 15 dX8_advance_50 (by decide) ?_
          have y_88 : (q_86.1 a0 10).toInt = v_85.toInt := by rw [z_87]
          have tv_85 : v_85.toInt = (q_4.1 a0 10).toInt + 1 := by have b0 := zx_bd (q_4.1 a0 10); rw [ev_85]; exact zx_add (show (-2147483648 : Int) ≤ (q_4.1 a0 10).toInt + 1 by omega) (show (q_4.1 a0 10).toInt + 1 < (2147483648 : Int) by omega)
          have z_89 : q_86.1 t0 1 = (q.1 t0 1) := ((show q_86.1 t0 1 = q_4.1 t0 1 from by rw [eq_86]; exact sg_pI_k (by decide))).trans (p0_q_4)
          have z_90 : q_86.1 a0 1 = (q.1 a0 1) := ((show q_86.1 a0 1 = q_4.1 a0 1 from by rw [eq_86]; exact sg_pI_k (by decide))).trans (p1_q_4)
          have z_91 : q_86.1 a0 9 = (q.1 a0 9) := ((show q_86.1 a0 9 = q_4.1 a0 9 from by rw [eq_86]; exact sg_pI_k (by decide))).trans (p2_q_4)
          have z_92 : q_86.1 a0 8 = (q.1 a0 8) := ((show q_86.1 a0 8 = q_4.1 a0 8 from by rw [eq_86]; exact sg_pI_k (by decide))).trans (p3_q_4)
          have z_93 : q_86.2.2.1 a0 7 = t0 := ((show q_86.2.2.1 a0 7 = q_4.2.2.1 a0 7 from by rw [eq_86]; rfl)).trans (p4_q_4)
          have z_94 : q_86.2.2.1 t0 0 = b0 := ((show q_86.2.2.1 t0 0 = q_4.2.2.1 t0 0 from by rw [eq_86]; rfl)).trans (p5_q_4)
          have z_95 : q_86.2.2.2.1 b0 = (q.2.2.2.1 b0) := ((show q_86.2.2.2.1 b0 = q_4.2.2.2.1 b0 from by rw [eq_86]; rfl)).trans (p6_q_4)
          exact ih_8 q_86 hV_q_86 hF_q_86 hK_q_86 z_89 z_90 z_91 z_92 z_93 z_94 z_95 (show 0 ≤ (q_86.1 a0 10).toInt from by first | assumption | omega | decide) (show pz_B F n9 (q.1 a0 10).toInt.toNat = pz_skip F (min n9 400) (q_86.1 a0 10).toInt.toNat from by rw [z_87]; exact x_6.trans ((pz_skip_s (by omega) (by rw [← u_79 (by omega)]; omega)).trans (by rw [show (v_85 : Int32).toInt.toNat = (q_4.1 a0 10).toInt.toNat + 1 by omega]))) (show (v_3.toInt - (q_86.1 a0 10).toInt : Int).toNat < _ from by omega)
  exact Lp_15_7 _ q hV hF hK rfl rfl rfl rfl et0 eb0 rfl (show 0 ≤ (q.1 a0 10).toInt from by first | assumption | omega | decide) (show pz_B F n9 (q.1 a0 10).toInt.toNat = pz_skip F (min n9 400) (q.1 a0 10).toInt.toNat from by rfl) (Nat.lt_succ_self _)
