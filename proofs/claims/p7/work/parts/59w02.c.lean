set_option maxHeartbeats 4000000 in
set_option maxRecDepth 100000 in
theorem k_X9_writeAmount_c (l : Launch) (dC : Nat → ClassId) (dI : Nat → Nat → Nat) (h : Sh) (L : List Nat) (hN : sx_nd L) (q : Sg) (hV : sx_V h L q) {a0 : Nat} (ha0 : a0 ∈ L) (ka0 : h.1 a0 = 7) (n1 : Int32) (n2 : Int64) {b0 : Nat} (eb0 : q.2.2.1 a0 0 = b0)  (l9 : List Nat) (w9 : List Nat) (hX : pw_8 n2 w9) (hC : pw_C l9 (q.1 a0 1) (q.2.2.2.1 b0)) (hy0 : 1 ≤ n1.toInt) (hy1 : n1.toInt ≤ 99) (hy2 : ((pw_a1 l9).length : Int) + 3 + (w9.length : Int) ≤ (h.2.1 b0 : Int)) : CMv l dC dI h L yX9_writeAmount wsX9_writeAmount ({ frames := 1, cells := 0, slots := 0, locals := 21 } : Room) q [.ref a0, .int n1, .long n2] (fun q' => sx_V h L q' ∧ sx_fr h L (fun a => a = a0 ∧ h.1 a = 7 ∨ a = b0 ∧ h.1 a = 300) q q' ∧ (pw_C (pw_amt n1.toInt.toNat w9 l9) (q'.1 a0 1) (q'.2.2.2.1 b0))) := by
  refine cm_v (cc := cX9_writeAmount) (mL := 6) (own := RX9) hN (by decide) rfl rfl (Nat.le_of_ble_eq_true rfl) (fun Z B hret => ?_)
  have hF : sx_fr h L (fun a => a = a0 ∧ h.1 a = 7 ∨ a = b0 ∧ h.1 a = 300) q q := sx_fr.rf
  obtain ⟨hb0, kb0⟩ : b0 ∈ L ∧ h.1 b0 = 300 := by obtain ⟨r9, e9, z1, z2⟩ := hV.ref (t := 300) ha0 ka0 0 rfl (by decide); rw [← eb0, e9]; exact ⟨z1, z2⟩
  show WA l dC dI h L ({ frames := 1, cells := 0, slots := 0, locals := 21 } : Room) 6 Z q 0 [(0, .ref a0), (1, .int n1), (2, .long n2)] []
  obtain ⟨F9, s9, hwd, hx8, hww⟩ := hX
  have hs1 := hwd.1
  have hs2 := hwd.2.1
  have hwl : w9.length = s9.2 := by rw [hww]; exact pw_wl_len
  have hz0 := hC.1
  have hz1 := pw_a1_ge (l := l9)
  refine wa_aload_n B dX9_writeAmount_0 rfl 0 rfl ?_
  refine wa_getI B (C := RX7) (T := TX7) (N := 2) iq_X9_writeAmount_X7 ha0 ka0 (by decide) rfl 1 (by decide) (by decide) (by decide +kernel) rfl (by decide) (v := (q.1 a0 1)) rfl dX9_writeAmount_1 ?_
  have g_1 : (0 : Int) ≤ (q.1 a0 1).toInt ∧ (q.1 a0 1).toInt ≤ (h.2.1 b0 : Int) := by have z9 := hV.int ha0 ka0 1; rw [eb0] at z9; exact z9
  have l_2 : h.2.1 b0 ≤ 5000 := hV.len hb0
  have Jn_13_5 : ∀  (q_3 : Sg), sx_V h L q_3 → sx_fr h L (fun a => a = a0 ∧ h.1 a = 7 ∨ a = b0 ∧ h.1 a = 300) q q_3 → q_3.2.2.1 a0 0 = b0 → pw_C (pw_a1 l9) (q_3.1 a0 1) (q_3.2.2.2.1 b0) → WA l dC dI h L ({ frames := 1, cells := 0, slots := 0, locals := 21 } : Room) 6 Z q_3 13 [(0, .ref a0), (1, .int n1), (2, .long n2)] [] := by
    intro q_3 hV_q_3 hF_q_3 p0_q_3 x_4
    refine wa_iload_n B dX9_writeAmount_13 rfl 1 rfl ?_
    have y13 := x_4.1
    refine wa_bipush B 10 dX9_writeAmount_14 (by decide) ?_
    have Jn_30_8 : ∀  (q_6 : Sg), sx_V h L q_6 → sx_fr h L (fun a => a = a0 ∧ h.1 a = 7 ∨ a = b0 ∧ h.1 a = 300) q q_6 → q_6.2.2.1 a0 0 = b0 → pw_C (pw_a2 n1.toInt.toNat (pw_a1 l9)) (q_6.1 a0 1) (q_6.2.2.2.1 b0) → WA l dC dI h L ({ frames := 1, cells := 0, slots := 0, locals := 21 } : Room) 6 Z q_6 30 [(0, .ref a0), (1, .int n1), (2, .long n2)] [] := by
      intro q_6 hV_q_6 hF_q_6 p0_q_6 x_7
      refine wa_aload_n B dX9_writeAmount_30 rfl 0 rfl ?_
      have y30 := x_7.1
      have y31 := pw_a2_len (t := n1.toInt.toNat) (l := pw_a1 l9)
      refine wa_bipush B 48 dX9_writeAmount_31 (by decide) ?_
      refine wa_iload_n B dX9_writeAmount_33 rfl 1 rfl ?_
      refine wa_bipush B 10 dX9_writeAmount_34 (by decide) ?_
      refine wa_irem B dX9_writeAmount_36 (by decide) (fun v_9 ev_9 => ?_)
      refine wa_iadd B dX9_writeAmount_37 (fun v_10 ev_10 => ?_)
      refine wa_callVv B (x := (RX7, TX7, 2)) (As := [.int v_10]) (rest := []) (k_X7_put_c l dC dI h L hN q_6 hV_q_6 (a0 := a0) ha0 ka0 v_10 (b0 := b0) p0_q_6  (by first | assumption | omega | decide)) (cwV 1 B.1.2.2.2.2 gX9_writeAmount_X7_put rfl rfl rfl (by decide +kernel) ⟨Nat.le_of_ble_eq_true rfl, Nat.le_of_ble_eq_true rfl⟩) ha0 ka0 (by decide) rfl rfl rfl (Nat.le_of_ble_eq_true rfl) dX9_writeAmount_38 (fun q_11 w_12 => ?_)
      obtain ⟨hV_q_11, h2_q_11, hw_12⟩ := w_12
      have hF_q_11 : sx_fr h L (fun a => a = a0 ∧ h.1 a = 7 ∨ a = b0 ∧ h.1 a = 300) q q_11 := hF_q_6.tr (h2_q_11.mono (fun a (z : a = a0 ∧ h.1 a = 7 ∨ a = b0 ∧ h.1 a = 300) => ((fun z => z.elim (fun z => (Or.inl z)) (fun z => (Or.inr z))) z)))
      refine wa_aload_n B dX9_writeAmount_41 rfl 0 rfl ?_
      refine wa_bipush B 32 dX9_writeAmount_42 (by decide) ?_
      have n_13 : (32 : Int32).toInt = 32 := rfl
      have z_14 : q_11.2.2.1 a0 0 = b0 := (h2_q_11.R ha0 (fun z9 => absurd z9.2 (by omega)) 0).trans (p0_q_6)
      refine wa_callVv B (x := (RX7, TX7, 2)) (As := [.int 32]) (rest := []) (k_X7_put_c l dC dI h L hN q_11 hV_q_11 (a0 := a0) ha0 ka0 32 (b0 := b0) z_14  (by first | assumption | omega | decide)) (cwV 1 B.1.2.2.2.2 gX9_writeAmount_X7_put rfl rfl rfl (by decide +kernel) ⟨Nat.le_of_ble_eq_true rfl, Nat.le_of_ble_eq_true rfl⟩) ha0 ka0 (by decide) rfl rfl rfl (Nat.le_of_ble_eq_true rfl) dX9_writeAmount_44 (fun q_15 w_16 => ?_)
      obtain ⟨hV_q_15, h2_q_15, hw_16⟩ := w_16
      have hF_q_15 : sx_fr h L (fun a => a = a0 ∧ h.1 a = 7 ∨ a = b0 ∧ h.1 a = 300) q q_15 := hF_q_11.tr (h2_q_15.mono (fun a (z : a = a0 ∧ h.1 a = 7 ∨ a = b0 ∧ h.1 a = 300) => ((fun z => z.elim (fun z => (Or.inl z)) (fun z => (Or.inr z))) z)))
      refine wa_bipush B 56 dX9_writeAmount_47 (by decide) ?_
      refine wa_istore B [(4, .int 56), (0, .ref a0), (1, .int n1), (2, .long n2)] dX9_writeAmount_49 (by decide) rfl ?_
      have z_19 : q_15.2.2.1 a0 0 = b0 := (h2_q_15.R ha0 (fun z9 => absurd z9.2 (by omega)) 0).trans (z_14)
      have Lp_51_21 : ∀ (n : Nat) (v_17 : Int32) (q_18 : Sg), sx_V h L q_18 → sx_fr h L (fun a => a = a0 ∧ h.1 a = 7 ∨ a = b0 ∧ h.1 a = 300) q q_18 → q_18.2.2.1 a0 0 = b0 → (∃ j : Nat, v_17.toInt = 8 * (j : Int) - 8 ∧ j ≤ 8 ∧ pw_C (pw_a3 n1.toInt.toNat l9 ++ pw_wl F9 s9.1 (s9.2 - j)) (q_18.1 a0 1) (q_18.2.2.2.1 b0)) → (v_17.toInt + 8 : Int).toNat < n → WA l dC dI h L ({ frames := 1, cells := 0, slots := 0, locals := 21 } : Room) 6 Z q_18 51 [(4, .int v_17), (0, .ref a0), (1, .int n1), (2, .long n2)] [] := by
        intro n
        induction n with
        | zero =>
          intro v_17 q_18 hV_q_18 hF_q_18 p0_q_18 x_20 hn
          exact absurd hn (Nat.not_lt_zero _)
        | succ n ih_22 =>
          intro v_17 q_18 hV_q_18 hF_q_18 p0_q_18 x_20 hn
          refine wa_iload B dX9_writeAmount_51 0 rfl ?_
          obtain ⟨j9, ej, hj9, hl9⟩ := x_20
          have y51 := hl9.1
          rw [List.length_append, pw_wl_len] at y51
          have y52 := pw_a3_len (t := n1.toInt.toNat) (l := l9)
          refine wa_if_lt B 84 dX9_writeAmount_53 (by decide) (fun (t_23 : v_17.toInt < 0) => ?_) (fun (t_23 : ¬ v_17.toInt < 0) => ?_)
          · exact hret _ _ _ dX9_writeAmount_84 ⟨hV_q_18, hF_q_18, (by have e9 : j9 = 0 := (by omega); subst e9; rw [hww]; exact hl9)⟩
          · refine wa_lload_n B dX9_writeAmount_56 rfl 3 rfl ?_
            refine wa_iload B dX9_writeAmount_57 0 rfl ?_
            refine wa_lushr B dX9_writeAmount_59 (fun v_24 ev_24 => ?_)
            refine wa_l2i B dX9_writeAmount_60 (fun v_25 ev_25 => ?_)
            refine wa_sipush B 255 dX9_writeAmount_61 (by decide) ?_
            refine wa_iand B dX9_writeAmount_64 (fun v_26 ev_26 => ?_)
            have gv_26 : 0 ≤ v_26.toInt ∧ v_26.toInt ≤ 255 := by rw [ev_26]; exact zx_and255 _
            refine wa_istore B [(5, .int v_26), (4, .int v_17), (0, .ref a0), (1, .int n1), (2, .long n2)] dX9_writeAmount_65 (by decide) rfl ?_
            obtain ⟨i9, rfl⟩ : ∃ i, j9 = i + 1 := ⟨j9 - 1, by omega⟩
            have hv9 := pw_l8 (j := i9) hwd hx8 (by omega) (by omega) ev_24 ev_25 ev_26
            refine wa_iload B dX9_writeAmount_67 0 rfl ?_
            refine wa_if_eq B 78 dX9_writeAmount_69 (by decide) (fun (t_27 : v_26.toInt = 0) => ?_) (fun (t_27 : ¬ v_26.toInt = 0) => ?_)
            · obtain ⟨v_28, ev_28⟩ : ∃ z : Int32, z = v_17 + (-8) := ⟨_, rfl⟩
              refine wa_iinc B [(4, .int v_28), (5, .int v_26), (0, .ref a0), (1, .int n1), (2, .long n2)] v_28 dX9_writeAmount_78 1 rfl (by rw [ev_28]; rfl) (by decide) rfl ?_
              refine wa_goto B 51 dX9_writeAmount_81 (by decide) ?_
              have tv_28 : v_28.toInt = v_17.toInt + (-8) := by have b0 := zx_bd v_17; rw [ev_28]; exact zx_add (show (-2147483648 : Int) ≤ v_17.toInt + (-8) by omega) (show v_17.toInt + (-8) < (2147483648 : Int) by omega)
              refine WA.sub [0, 2, 3, 4] rfl ?_
              exact ih_22 v_28 q_18 hV_q_18 hF_q_18 p0_q_18 (show (∃ j : Nat, v_28.toInt = 8 * (j : Int) - 8 ∧ j ≤ 8 ∧ pw_C (pw_a3 n1.toInt.toNat l9 ++ pw_wl F9 s9.1 (s9.2 - j)) (q_18.1 a0 1) (q_18.2.2.2.1 b0)) from by exact ⟨i9, by omega, by omega, pw_lp0 hwd hv9 (by omega) hl9⟩) (show (v_28.toInt + 8 : Int).toNat < _ from by omega)
            · refine wa_aload_n B dX9_writeAmount_72 rfl 2 rfl ?_
              refine wa_iload B dX9_writeAmount_73 0 rfl ?_
              refine wa_callVv B (x := (RX7, TX7, 2)) (As := [.int v_26]) (rest := []) (k_X7_put_c l dC dI h L hN q_18 hV_q_18 (a0 := a0) ha0 ka0 v_26 (b0 := b0) p0_q_18  (by first | assumption | omega | decide)) (cwV 1 B.1.2.2.2.2 gX9_writeAmount_X7_put rfl rfl rfl (by decide +kernel) ⟨Nat.le_of_ble_eq_true rfl, Nat.le_of_ble_eq_true rfl⟩) ha0 ka0 (by decide) rfl rfl rfl (Nat.le_of_ble_eq_true rfl) dX9_writeAmount_75 (fun q_29 w_30 => ?_)
              obtain ⟨hV_q_29, h2_q_29, hw_30⟩ := w_30
              have hF_q_29 : sx_fr h L (fun a => a = a0 ∧ h.1 a = 7 ∨ a = b0 ∧ h.1 a = 300) q q_29 := hF_q_18.tr (h2_q_29.mono (fun a (z : a = a0 ∧ h.1 a = 7 ∨ a = b0 ∧ h.1 a = 300) => ((fun z => z.elim (fun z => (Or.inl z)) (fun z => (Or.inr z))) z)))
              obtain ⟨v_31, ev_31⟩ : ∃ z : Int32, z = v_17 + (-8) := ⟨_, rfl⟩
              refine wa_iinc B [(4, .int v_31), (5, .int v_26), (0, .ref a0), (1, .int n1), (2, .long n2)] v_31 dX9_writeAmount_78 1 rfl (by rw [ev_31]; rfl) (by decide) rfl ?_
              refine wa_goto B 51 dX9_writeAmount_81 (by decide) ?_
              have tv_31 : v_31.toInt = v_17.toInt + (-8) := by have b0 := zx_bd v_17; rw [ev_31]; exact zx_add (show (-2147483648 : Int) ≤ v_17.toInt + (-8) by omega) (show v_17.toInt + (-8) < (2147483648 : Int) by omega)
              have z_32 : q_29.2.2.1 a0 0 = b0 := (h2_q_29.R ha0 (fun z9 => absurd z9.2 (by omega)) 0).trans (p0_q_18)
              refine WA.sub [0, 2, 3, 4] rfl ?_
              exact ih_22 v_31 q_29 hV_q_29 hF_q_29 z_32 (show (∃ j : Nat, v_31.toInt = 8 * (j : Int) - 8 ∧ j ≤ 8 ∧ pw_C (pw_a3 n1.toInt.toNat l9 ++ pw_wl F9 s9.1 (s9.2 - j)) (q_29.1 a0 1) (q_29.2.2.2.1 b0)) from by exact ⟨i9, by omega, by omega, pw_lp1 hwd hv9 (by omega) hl9 hw_30.1 hw_30.2⟩) (show (v_31.toInt + 8 : Int).toNat < _ from by omega)
      exact Lp_51_21 _ 56 q_15 hV_q_15 hF_q_15 z_19 (show (∃ j : Nat, 56 = 8 * (j : Int) - 8 ∧ j ≤ 8 ∧ pw_C (pw_a3 n1.toInt.toNat l9 ++ pw_wl F9 s9.1 (s9.2 - j)) (q_15.1 a0 1) (q_15.2.2.2.1 b0)) from by refine ⟨8, by decide, by decide, ?_⟩; rw [show s9.2 - 8 = 0 by omega]; show pw_C (pw_a3 n1.toInt.toNat l9 ++ []) _ _; rw [List.append_nil]; exact pw_a3p x_7 (by omega) (by omega) ev_9 ev_10 hw_12.1 hw_12.2 hw_16.1 hw_16.2) (Nat.lt_succ_self _)
    refine wa_icmp_lt B 30 dX9_writeAmount_16 (by decide) (fun (t_33 : n1.toInt < 10) => ?_) (fun (t_33 : ¬ n1.toInt < 10) => ?_)
    · exact Jn_30_8 q_3 hV_q_3 hF_q_3 p0_q_3 (show pw_C (pw_a2 n1.toInt.toNat (pw_a1 l9)) (q_3.1 a0 1) (q_3.2.2.2.1 b0) from by exact pw_a2n x_4 (by omega))
    · refine wa_aload_n B dX9_writeAmount_19 rfl 0 rfl ?_
      refine wa_bipush B 48 dX9_writeAmount_20 (by decide) ?_
      refine wa_iload_n B dX9_writeAmount_22 rfl 1 rfl ?_
      refine wa_bipush B 10 dX9_writeAmount_23 (by decide) ?_
      refine wa_idiv B dX9_writeAmount_25 (by decide) (fun v_34 ev_34 => ?_)
      refine wa_iadd B dX9_writeAmount_26 (fun v_35 ev_35 => ?_)
      refine wa_callVv B (x := (RX7, TX7, 2)) (As := [.int v_35]) (rest := []) (k_X7_put_c l dC dI h L hN q_3 hV_q_3 (a0 := a0) ha0 ka0 v_35 (b0 := b0) p0_q_3  (by first | assumption | omega | decide)) (cwV 1 B.1.2.2.2.2 gX9_writeAmount_X7_put rfl rfl rfl (by decide +kernel) ⟨Nat.le_of_ble_eq_true rfl, Nat.le_of_ble_eq_true rfl⟩) ha0 ka0 (by decide) rfl rfl rfl (Nat.le_of_ble_eq_true rfl) dX9_writeAmount_27 (fun q_36 w_37 => ?_)
      obtain ⟨hV_q_36, h2_q_36, hw_37⟩ := w_37
      have hF_q_36 : sx_fr h L (fun a => a = a0 ∧ h.1 a = 7 ∨ a = b0 ∧ h.1 a = 300) q q_36 := hF_q_3.tr (h2_q_36.mono (fun a (z : a = a0 ∧ h.1 a = 7 ∨ a = b0 ∧ h.1 a = 300) => ((fun z => z.elim (fun z => (Or.inl z)) (fun z => (Or.inr z))) z)))
      have z_38 : q_36.2.2.1 a0 0 = b0 := (h2_q_36.R ha0 (fun z9 => absurd z9.2 (by omega)) 0).trans (p0_q_3)
      exact Jn_30_8 q_36 hV_q_36 hF_q_36 z_38 (show pw_C (pw_a2 n1.toInt.toNat (pw_a1 l9)) (q_36.1 a0 1) (q_36.2.2.2.1 b0) from by exact pw_a2p x_4 (by omega) (by omega) ev_34 ev_35 hw_37.1 hw_37.2)
  refine wa_if_le B 13 dX9_writeAmount_4 (by decide) (fun (t_39 : (q.1 a0 1).toInt ≤ 0) => ?_) (fun (t_39 : ¬ (q.1 a0 1).toInt ≤ 0) => ?_)
  · exact Jn_13_5 q hV hF eb0 (show pw_C (pw_a1 l9) (q.1 a0 1) (q.2.2.2.1 b0) from by exact pw_a1n hC (by omega))
  · refine wa_aload_n B dX9_writeAmount_7 rfl 0 rfl ?_
    refine wa_bipush B 32 dX9_writeAmount_8 (by decide) ?_
    have n_40 : (32 : Int32).toInt = 32 := rfl
    refine wa_callVv B (x := (RX7, TX7, 2)) (As := [.int 32]) (rest := []) (k_X7_put_c l dC dI h L hN q hV (a0 := a0) ha0 ka0 32 (b0 := b0) eb0  (by first | assumption | omega | decide)) (cwV 1 B.1.2.2.2.2 gX9_writeAmount_X7_put rfl rfl rfl (by decide +kernel) ⟨Nat.le_of_ble_eq_true rfl, Nat.le_of_ble_eq_true rfl⟩) ha0 ka0 (by decide) rfl rfl rfl (Nat.le_of_ble_eq_true rfl) dX9_writeAmount_10 (fun q_41 w_42 => ?_)
    obtain ⟨hV_q_41, h2_q_41, hw_42⟩ := w_42
    have hF_q_41 : sx_fr h L (fun a => a = a0 ∧ h.1 a = 7 ∨ a = b0 ∧ h.1 a = 300) q q_41 := hF.tr (h2_q_41.mono (fun a (z : a = a0 ∧ h.1 a = 7 ∨ a = b0 ∧ h.1 a = 300) => ((fun z => z.elim (fun z => (Or.inl z)) (fun z => (Or.inr z))) z)))
    have z_43 : q_41.2.2.1 a0 0 = b0 := (h2_q_41.R ha0 (fun z9 => absurd z9.2 (by omega)) 0).trans (eb0)
    exact Jn_13_5 q_41 hV_q_41 hF_q_41 z_43 (show pw_C (pw_a1 l9) (q_41.1 a0 1) (q_41.2.2.2.1 b0) from by exact pw_a1p hC (by omega) hw_42.1 hw_42.2)
