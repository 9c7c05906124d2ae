set_option maxHeartbeats 4000000 in
set_option maxRecDepth 100000 in
theorem k_X8_endsWell_c (l : Launch) (dC : Nat → ClassId) (dI : Nat → Nat → Nat) (h : Sh) (L : List Nat) (hN : sx_nd L) (q : Sg) (hV : sx_V h L q) {a0 : Nat} (ha0 : a0 ∈ L) (ka0 : h.1 a0 = 8) (n1 : Int32) {t0 : Nat} (et0 : q.2.2.1 a0 7 = t0)    : CMi l dC dI h L yX8_endsWell wsX8_endsWell ({ frames := 1, cells := 0, slots := 0, locals := 22 } : Room) q [.ref a0, .int n1] (fun r q' => sx_V h L q' ∧ sx_fr h L (fun a => a = a0 ∧ h.1 a = 8) q q' ∧ sx_kg a0 [5, 6] q q' ∧ (r.toInt = 1 ∧ (0 < n1.toInt ∧ (q.1 t0 1).toInt ≤ (q.1 a0 8).toInt) ∨ r.toInt = 0 ∧ ¬ (0 < n1.toInt ∧ (q.1 t0 1).toInt ≤ (q.1 a0 8).toInt) ∧ (q'.1 a0 6).toInt = (q.1 a0 1).toInt)) := by
  refine cm_z (cc := cX8_endsWell) (mL := 2) (own := RX8) hN (by decide) rfl rfl (Nat.le_of_ble_eq_true rfl) (fun Z B hret => ?_)
  have hF : sx_fr h L (fun a => a = a0 ∧ h.1 a = 8) q q := sx_fr.rf
  have hK : sx_kg a0 [5, 6] q q := sx_kg.rf
  obtain ⟨ht0, kt0⟩ : t0 ∈ L ∧ h.1 t0 = 7 := by obtain ⟨r9, e9, z1, z2⟩ := hV.ref (t := 7) ha0 ka0 7 rfl (by decide); rw [← et0, e9]; exact ⟨z1, z2⟩
  show WA l dC dI h L ({ frames := 1, cells := 0, slots := 0, locals := 22 } : Room) 2 Z q 0 [(0, .ref a0), (1, .int n1)] []
  refine wa_iload_n B dX8_endsWell_0 rfl 1 rfl ?_
  refine wa_if_le B 18 dX8_endsWell_1 (by decide) (fun (t_1 : n1.toInt ≤ 0) => ?_) (fun (t_1 : ¬ n1.toInt ≤ 0) => ?_)
  · refine wa_aload_n B dX8_endsWell_18 rfl 0 rfl ?_
    refine wa_iconst B 1 dX8_endsWell_19 (by decide) ?_
    refine wa_aload_n B dX8_endsWell_20 rfl 0 rfl ?_
    refine wa_getI B (C := RX8) (T := TX8) (N := 11) iq_X8_endsWell_X8 ha0 ka0 (by decide) rfl 1 (by decide) (by decide) (by decide +kernel) rfl (by decide) (v := (q.1 a0 1)) rfl dX8_endsWell_21 ?_
    refine wa_callVi B (x := (RX8, TX8, 11)) (As := [.int 1, .int (q.1 a0 1)]) (rest := []) (k_X8_refuse_c l dC dI h L hN q hV (a0 := a0) ha0 ka0 1 (q.1 a0 1)  ) (cwV 2 B.1.2.2.2.2 gX8_endsWell_X8_refuse rfl rfl rfl (by decide +kernel) ⟨Nat.le_of_ble_eq_true rfl, Nat.le_of_ble_eq_true rfl⟩) ha0 ka0 (by decide) rfl rfl rfl (Nat.le_of_ble_eq_true rfl) dX8_endsWell_24 (fun r_3 q_2 w_4 => ?_)
    obtain ⟨hV_q_2, h2_q_2, h3_q_2, hw_4⟩ := w_4
    have hF_q_2 : sx_fr h L (fun a => a = a0 ∧ h.1 a = 8) q q_2 := hF.tr (h2_q_2.mono (fun a (z : a = a0 ∧ h.1 a = 8) => ((fun z => z) z)))
    have hK_q_2 : sx_kg a0 [5, 6] q q_2 := hK.tr (h3_q_2.mono (by decide))
    refine wa_if_eq B 34 dX8_endsWell_27 (by decide) (fun (t_5 : r_3.toInt = 0) => ?_) (fun (t_5 : ¬ r_3.toInt = 0) => ?_)
    · refine wa_iconst B 0 dX8_endsWell_34 (by decide) ?_
      exact hret _ _ _ _ dX8_endsWell_35 (Or.inl rfl) ⟨hV_q_2, hF_q_2, hK_q_2, (by have h9 : (0 : Int32).toInt = 0 := rfl; first | omega | (refine ⟨?_, ?_⟩ <;> omega) | trivial)⟩
    · refine wa_iconst B 1 dX8_endsWell_30 (by decide) ?_
      refine wa_goto B 35 dX8_endsWell_31 (by decide) ?_
      exact hret _ _ _ _ dX8_endsWell_35 (Or.inr rfl) ⟨hV_q_2, hF_q_2, hK_q_2, (by have h9 : (1 : Int32).toInt = 1 := rfl; first | omega | (refine ⟨?_, ?_⟩ <;> omega) | trivial)⟩
  · refine wa_aload_n B dX8_endsWell_4 rfl 0 rfl ?_
    refine wa_getR B (C := RX8) (T := TX8) (N := 11) iq_X8_endsWell_X8 ha0 ka0 (by decide) rfl 7 (by decide) (by decide) (by decide +kernel) rfl (fun _ _ _ => rfl) (v := t0) et0 dX8_endsWell_5 ?_
    refine wa_getI B (C := RX7) (T := TX7) (N := 2) iq_X8_endsWell_X7 ht0 kt0 (by decide) rfl 1 (by decide) (by decide) (by decide +kernel) rfl (by decide) (v := (q.1 t0 1)) rfl dX8_endsWell_8 ?_
    obtain ⟨a_7, ea_7, ha_7, ka_7⟩ := hV.ref (t := 300) ht0 kt0 0 rfl (by decide)
    have g_6 : (0 : Int) ≤ (q.1 t0 1).toInt ∧ (q.1 t0 1).toInt ≤ (h.2.1 a_7 : Int) := by have z9 := hV.int ht0 kt0 1; rw [ea_7] at z9; exact z9
    have l_8 : h.2.1 a_7 ≤ 5000 := hV.len ha_7
    refine wa_aload_n B dX8_endsWell_11 rfl 0 rfl ?_
    refine wa_getI B (C := RX8) (T := TX8) (N := 11) iq_X8_endsWell_X8 ha0 ka0 (by decide) rfl 8 (by decide) (by decide) (by decide +kernel) rfl (by decide) (v := (q.1 a0 8)) rfl dX8_endsWell_12 ?_
    refine wa_icmp_le B 30 dX8_endsWell_15 (by decide) (fun (t_9 : (q.1 t0 1).toInt ≤ (q.1 a0 8).toInt) => ?_) (fun (t_9 : ¬ (q.1 t0 1).toInt ≤ (q.1 a0 8).toInt) => ?_)
    · refine wa_iconst B 1 dX8_endsWell_30 (by decide) ?_
      refine wa_goto B 35 dX8_endsWell_31 (by decide) ?_
      exact hret _ _ _ _ dX8_endsWell_35 (Or.inr rfl) ⟨hV, hF, hK, (by have h9 : (1 : Int32).toInt = 1 := rfl; first | omega | (refine ⟨?_, ?_⟩ <;> omega) | trivial)⟩
    · refine wa_aload_n B dX8_endsWell_18 rfl 0 rfl ?_
      refine wa_iconst B 1 dX8_endsWell_19 (by decide) ?_
      refine wa_aload_n B dX8_endsWell_20 rfl 0 rfl ?_
      refine wa_getI B (C := RX8) (T := TX8) (N := 11) iq_X8_endsWell_X8 ha0 ka0 (by decide) rfl 1 (by decide) (by decide) (by decide +kernel) rfl (by decide) (v := (q.1 a0 1)) rfl dX8_endsWell_21 ?_
      refine wa_callVi B (x := (RX8, TX8, 11)) (As := [.int 1, .int (q.1 a0 1)]) (rest := []) (k_X8_refuse_c l dC dI h L hN q hV (a0 := a0) ha0 ka0 1 (q.1 a0 1)  ) (cwV 2 B.1.2.2.2.2 gX8_endsWell_X8_refuse rfl rfl rfl (by decide +kernel) ⟨Nat.le_of_ble_eq_true rfl, Nat.le_of_ble_eq_true rfl⟩) ha0 ka0 (by decide) rfl rfl rfl (Nat.le_of_ble_eq_true rfl) dX8_endsWell_24 (fun r_11 q_10 w_12 => ?_)
      obtain ⟨hV_q_10, h2_q_10, h3_q_10, hw_12⟩ := w_12
      have hF_q_10 : sx_fr h L (fun a => a = a0 ∧ h.1 a = 8) q q_10 := hF.tr (h2_q_10.mono (fun a (z : a = a0 ∧ h.1 a = 8) => ((fun z => z) z)))
      have hK_q_10 : sx_kg a0 [5, 6] q q_10 := hK.tr (h3_q_10.mono (by decide))
      refine wa_if_eq B 34 dX8_endsWell_27 (by decide) (fun (t_13 : r_11.toInt = 0) => ?_) (fun (t_13 : ¬ r_11.toInt = 0) => ?_)
      · refine wa_iconst B 0 dX8_endsWell_34 (by decide) ?_
        exact hret _ _ _ _ dX8_endsWell_35 (Or.inl rfl) ⟨hV_q_10, hF_q_10, hK_q_10, (by have h9 : (0 : Int32).toInt = 0 := rfl; first | omega | (refine ⟨?_, ?_⟩ <;> omega) | trivial)⟩
      · refine wa_iconst B 1 dX8_endsWell_30 (by decide) ?_
        refine wa_goto B 35 dX8_endsWell_31 (by decide) ?_
        exact hret _ _ _ _ dX8_endsWell_35 (Or.inr rfl) ⟨hV_q_10, hF_q_10, hK_q_10, (by have h9 : (1 : Int32).toInt = 1 := rfl; first | omega | (refine ⟨?_, ?_⟩ <;> omega) | trivial)⟩
