theorem iq_X7_clear_X7 : ∀ w ∈ wsX70, w ∈ wsX7_clear := fun _ h => List.mem_cons_of_mem _ (List.mem_append_right _ h)
set_option maxHeartbeats 4000000 in
set_option maxRecDepth 100000 in
theorem k_X7_clear (l : Launch) (dC : Nat → ClassId) (dI : Nat → Nat → Nat) (h : Sh) (L : List Nat) (hN : sx_nd L) (q : Sg) (hV : sx_V h L q) {a0 : Nat} (ha0 : a0 ∈ L) (ka0 : h.1 a0 = 7)   : CMv l dC dI h L yX7_clear wsX7_clear ({ frames := 0, cells := 0, slots := 0, locals := 0 } : Room) q [.ref a0] (fun q' => sx_V h L q' ∧ sx_fr h L (fun a => a = a0 ∧ h.1 a = 7) q q' ∧ q'.1 a0 1 = 0) := by
  refine cm_v (cc := cX7_clear) (mL := 1) (own := RX7) hN (by decide) rfl rfl (Nat.le_of_ble_eq_true rfl) (fun Z B hret => ?_)
  have hF : sx_fr h L (fun a => a = a0 ∧ h.1 a = 7) q q := sx_fr.rf
  show WA l dC dI h L ({ frames := 0, cells := 0, slots := 0, locals := 0 } : Room) 1 Z q 0 [(0, .ref a0)] []
  refine wa_aload_n B dX7_clear_0 rfl 0 rfl ?_
  refine wa_iconst B 0 dX7_clear_1 (by decide) ?_
  refine wa_putI B (C := RX7) (T := TX7) (N := 2) iq_X7_clear_X7 ha0 ka0 (by decide) rfl 1 (by decide) (by decide) (by decide +kernel) rfl (by decide) (v := 0) (ty := .int) tyX7 tyX7_ok nmX7 rfl (by decide +kernel) rfl rfl dX7_clear_2 (fun q_1 eq_1 => ?_)
  obtain ⟨a_2, ea_2, ha_2, ka_2⟩ := hV.ref (t := 300) ha0 ka0 0 rfl (by decide)
  have hV_q_1 : sx_V h L q_1 := by rw [eq_1]; exact hV.pI ka0 (show sx_in 0 0 ((h.2.1 (q.2.2.1 a0 0) : Nat) : Int) from ⟨by decide, by rw [ea_2]; show (0 : Int) ≤ _; omega⟩)
  have hF_q_1 : sx_fr h L (fun a => a = a0 ∧ h.1 a = 7) q q_1 := hF.tr (by rw [eq_1]; exact sx_fr.pI (show a0 = a0 ∧ h.1 a0 = 7 from by omega))
  have z_3 : q_1.1 a0 1 = 0 := by rw [eq_1]; exact sg_pI_e
  have y_4 : (q_1.1 a0 1).toInt = 0 := by rw [z_3]; rfl
  exact hret _ _ _ dX7_clear_5 ⟨hV_q_1, hF_q_1, z_3⟩
theorem iq_X7_byteAt_X7 : ∀ w ∈ wsX70, w ∈ wsX7_byteAt := fun _ h => List.mem_cons_of_mem _ (List.mem_append_right _ h)
set_option maxHeartbeats 4000000 in
set_option maxRecDepth 100000 in
theorem k_X7_byteAt (l : Launch) (dC : Nat → ClassId) (dI : Nat → Nat → Nat) (h : Sh) (L : List Nat) (hN : sx_nd L) (q : Sg) (hV : sx_V h L q) {a0 : Nat} (ha0 : a0 ∈ L) (ka0 : h.1 a0 = 7) (n1 : Int32)   : CMi l dC dI h L yX7_byteAt wsX7_byteAt ({ frames := 0, cells := 0, slots := 0, locals := 0 } : Room) q [.ref a0, .int n1] (fun r q' => q = q' ∧ (-1) ≤ r.toInt ∧ r.toInt ≤ 255) := by
  refine cm_i (cc := cX7_byteAt) (mL := 2) (own := RX7) hN (by decide) rfl rfl (Nat.le_of_ble_eq_true rfl) (fun Z B hret => ?_)
  show WA l dC dI h L ({ frames := 0, cells := 0, slots := 0, locals := 0 } : Room) 2 Z q 0 [(0, .ref a0), (1, .int n1)] []
  refine wa_iload_n B dX7_byteAt_0 rfl 1 rfl ?_
  refine wa_if_lt B 25 dX7_byteAt_1 (by decide) (fun (t_1 : n1.toInt < 0) => ?_) (fun (t_1 : ¬ n1.toInt < 0) => ?_)
  · refine wa_iconst B (-1) dX7_byteAt_25 (by decide) ?_
    exact hret _ _ _ _ dX7_byteAt_26 ⟨rfl, (by have h9 : ((-1) : Int32).toInt = (-1) := rfl; first | omega | (refine ⟨?_, ?_⟩ <;> omega) | trivial)⟩
  · refine wa_iload_n B dX7_byteAt_4 rfl 1 rfl ?_
    refine wa_aload_n B dX7_byteAt_5 rfl 0 rfl ?_
    refine wa_getI B (C := RX7) (T := TX7) (N := 2) iq_X7_byteAt_X7 ha0 ka0 (by decide) rfl 1 (by decide) (by decide) (by decide +kernel) rfl (by decide) (v := (q.1 a0 1)) rfl dX7_byteAt_6 ?_
    obtain ⟨a_3, ea_3, ha_3, ka_3⟩ := hV.ref (t := 300) ha0 ka0 0 rfl (by decide)
    have g_2 : (0 : Int) ≤ (q.1 a0 1).toInt ∧ (q.1 a0 1).toInt ≤ (h.2.1 a_3 : Int) := by have z9 := hV.int ha0 ka0 1; rw [ea_3] at z9; exact z9
    have l_4 : h.2.1 a_3 ≤ 5000 := hV.len ha_3
    refine wa_icmp_ge B 25 dX7_byteAt_9 (by decide) (fun (t_5 : (q.1 a0 1).toInt ≤ n1.toInt) => ?_) (fun (t_5 : ¬ (q.1 a0 1).toInt ≤ n1.toInt) => ?_)
    · refine wa_iconst B (-1) dX7_byteAt_25 (by decide) ?_
      exact hret _ _ _ _ dX7_byteAt_26 ⟨rfl, (by have h9 : ((-1) : Int32).toInt = (-1) := rfl; first | omega | (refine ⟨?_, ?_⟩ <;> omega) | trivial)⟩
    · refine wa_aload_n B dX7_byteAt_12 rfl 0 rfl ?_
      refine wa_getR B (C := RX7) (T := TX7) (N := 2) iq_X7_byteAt_X7 ha0 ka0 (by decide) rfl 0 (by decide) (by decide) (by decide +kernel) rfl (fun _ _ _ => rfl) (v := a_3) ea_3 dX7_byteAt_13 ?_
      refine wa_iload_n B dX7_byteAt_16 rfl 1 rfl ?_
      refine wa_baload B ha_3 ka_3 (by decide) (by decide) (show 0 ≤ n1.toInt by omega) (show n1.toInt < (h.2.1 a_3 : Int) by omega) (v := (q.2.2.2.1 a_3 (n1 : Int32).toNatClampNeg)) rfl dX7_byteAt_17 ?_
      refine wa_sipush B 255 dX7_byteAt_18 (by decide) ?_
      refine wa_iand B dX7_byteAt_21 (fun v_6 ev_6 => ?_)
      have gv_6 : 0 ≤ v_6.toInt ∧ v_6.toInt ≤ 255 := by rw [ev_6]; exact zx_and255 _
      refine wa_goto B 26 dX7_byteAt_22 (by decide) ?_
      exact hret _ _ _ _ dX7_byteAt_26 ⟨rfl, (by first | omega | (refine ⟨?_, ?_⟩ <;> omega) | trivial)⟩
theorem iq_X7_put_X7 : ∀ w ∈ wsX70, w ∈ wsX7_put := fun _ h => List.mem_cons_of_mem _ (List.mem_append_right _ h)
set_option maxHeartbeats 4000000 in
set_option maxRecDepth 100000 in
theorem k_X7_put (l : Launch) (dC : Nat → ClassId) (dI : Nat → Nat → Nat) (h : Sh) (L : List Nat) (hN : sx_nd L) (q : Sg) (hV : sx_V h L q) {a0 : Nat} (ha0 : a0 ∈ L) (ka0 : h.1 a0 = 7) (n1 : Int32) {b0 : Nat} (eb0 : q.2.2.1 a0 0 = b0)   : CMv l dC dI h L yX7_put wsX7_put ({ frames := 0, cells := 0, slots := 0, locals := 0 } : Room) q [.ref a0, .int n1] (fun q' => sx_V h L q' ∧ sx_fr h L (fun a => a = a0 ∧ h.1 a = 7 ∨ a = b0 ∧ h.1 a = 300) q q' ∧ ((q.1 a0 1).toInt < (h.2.1 b0 : Int) ∧ (q'.1 a0 1).toInt = (q.1 a0 1).toInt + 1 ∨ (h.2.1 b0 : Int) ≤ (q.1 a0 1).toInt ∧ (q'.1 a0 1).toInt = (q.1 a0 1).toInt)) := by
  refine cm_v (cc := cX7_put) (mL := 2) (own := RX7) hN (by decide) rfl rfl (Nat.le_of_ble_eq_true rfl) (fun Z B hret => ?_)
  have hF : sx_fr h L (fun a => a = a0 ∧ h.1 a = 7 ∨ a = b0 ∧ h.1 a = 300) q q := sx_fr.rf
  obtain ⟨hb0, kb0⟩ : b0 ∈ L ∧ h.1 b0 = 300 := by obtain ⟨r9, e9, z1, z2⟩ := hV.ref (t := 300) ha0 ka0 0 rfl (by decide); rw [← eb0, e9]; exact ⟨z1, z2⟩
  show WA l dC dI h L ({ frames := 0, cells := 0, slots := 0, locals := 0 } : Room) 2 Z q 0 [(0, .ref a0), (1, .int n1)] []
  refine wa_aload_n B dX7_put_0 rfl 0 rfl ?_
  refine wa_getI B (C := RX7) (T := TX7) (N := 2) iq_X7_put_X7 ha0 ka0 (by decide) rfl 1 (by decide) (by decide) (by decide +kernel) rfl (by decide) (v := (q.1 a0 1)) rfl dX7_put_1 ?_
  have g_1 : (0 : Int) ≤ (q.1 a0 1).toInt ∧ (q.1 a0 1).toInt ≤ (h.2.1 b0 : Int) := by have z9 := hV.int ha0 ka0 1; rw [eb0] at z9; exact z9
  have l_2 : h.2.1 b0 ≤ 5000 := hV.len hb0
  refine wa_aload_n B dX7_put_4 rfl 0 rfl ?_
  refine wa_getR B (C := RX7) (T := TX7) (N := 2) iq_X7_put_X7 ha0 ka0 (by decide) rfl 0 (by decide) (by decide) (by decide +kernel) rfl (fun _ _ _ => rfl) (v := b0) eb0 dX7_put_5 ?_
  refine wa_alenB B hb0 kb0 (by decide) (by decide) dX7_put_8 (fun v_3 ev_3 => ?_)
  have gv_3 : v_3.toInt = (h.2.1 b0 : Int) := by rw [ev_3]; exact zx_len (hV.len hb0)
  have l_4 : h.2.1 b0 ≤ 5000 := hV.len hb0
  refine wa_icmp_ge B 33 dX7_put_9 (by decide) (fun (t_5 : v_3.toInt ≤ (q.1 a0 1).toInt) => ?_) (fun (t_5 : ¬ v_3.toInt ≤ (q.1 a0 1).toInt) => ?_)
  · exact hret _ _ _ dX7_put_33 ⟨hV, hF, (by first | omega | (refine ⟨?_, ?_⟩ <;> omega) | trivial)⟩
  · refine wa_aload_n B dX7_put_12 rfl 0 rfl ?_
    refine wa_getR B (C := RX7) (T := TX7) (N := 2) iq_X7_put_X7 ha0 ka0 (by decide) rfl 0 (by decide) (by decide) (by decide +kernel) rfl (fun _ _ _ => rfl) (v := b0) eb0 dX7_put_13 ?_
    refine wa_aload_n B dX7_put_16 rfl 0 rfl ?_
    refine wa_getI B (C := RX7) (T := TX7) (N := 2) iq_X7_put_X7 ha0 ka0 (by decide) rfl 1 (by decide) (by decide) (by decide +kernel) rfl (by decide) (v := (q.1 a0 1)) rfl dX7_put_17 ?_
    refine wa_iload_n B dX7_put_20 rfl 1 rfl ?_
    refine wa_i2b B dX7_put_21 (fun v_6 ev_6 => ?_)
    refine wa_bastore B hb0 kb0 (by decide) (by decide) (show 0 ≤ (q.1 a0 1).toInt by omega) (show (q.1 a0 1).toInt < (h.2.1 b0 : Int) by omega) dX7_put_22 (fun q_7 eq_7 => ?_)
    have hV_q_7 : sx_V h L q_7 := by rw [eq_7]; exact hV.up1 hb0 kb0 trivial
    have hF_q_7 : sx_fr h L (fun a => a = a0 ∧ h.1 a = 7 ∨ a = b0 ∧ h.1 a = 300) q q_7 := hF.tr (by rw [eq_7]; exact sx_fr.pG (show h.1 b0 = 100 ∨ (b0 = a0 ∧ h.1 b0 = 7 ∨ b0 = b0 ∧ h.1 b0 = 300) from by omega))
    refine wa_aload_n B dX7_put_23 rfl 0 rfl ?_
    refine wa_dup B dX7_put_24 rfl ?_
    have z_8 : q_7.1 a0 1 = q.1 a0 1 := (show q_7.1 a0 1 = q.1 a0 1 from by rw [eq_7]; rfl)
    refine wa_getI B (C := RX7) (T := TX7) (N := 2) iq_X7_put_X7 ha0 ka0 (by decide) rfl 1 (by decide) (by decide) (by decide +kernel) rfl (by decide) (v := (q.1 a0 1)) z_8 dX7_put_25 ?_
    refine wa_iconst B 1 dX7_put_28 (by decide) ?_
    refine wa_iadd B dX7_put_29 (fun v_9 ev_9 => ?_)
    have tv_9 : v_9.toInt = (q.1 a0 1).toInt + 1 := by have b0 := zx_bd (q.1 a0 1); rw [ev_9]; exact zx_add (show (-2147483648 : Int) ≤ (q.1 a0 1).toInt + 1 by omega) (show (q.1 a0 1).toInt + 1 < (2147483648 : Int) by omega)
    refine wa_putI B (C := RX7) (T := TX7) (N := 2) iq_X7_put_X7 ha0 ka0 (by decide) rfl 1 (by decide) (by decide) (by decide +kernel) rfl (by decide) (v := v_9) (ty := .int) tyX7 tyX7_ok nmX7 rfl (by decide +kernel) rfl rfl dX7_put_30 (fun q_10 eq_10 => ?_)
    have z_11 : q_7.2.2.1 a0 0 = b0 := ((show q_7.2.2.1 a0 0 = q.2.2.1 a0 0 from by rw [eq_7]; rfl)).trans (eb0)
    have hV_q_10 : sx_V h L q_10 := by rw [eq_10]; exact hV_q_7.pI ka0 (show sx_in v_9 0 ((h.2.1 (q_7.2.2.1 a0 0) : Nat) : Int) from ⟨by omega, by rw [z_11]; omega⟩)
    have hF_q_10 : sx_fr h L (fun a => a = a0 ∧ h.1 a = 7 ∨ a = b0 ∧ h.1 a = 300) q q_10 := hF_q_7.tr (by rw [eq_10]; exact sx_fr.pI (show a0 = a0 ∧ h.1 a0 = 7 ∨ a0 = b0 ∧ h.1 a0 = 300 from by omega))
    have z_12 : q_10.1 a0 1 = v_9 := by rw [eq_10]; exact sg_pI_e
    have y_13 : (q_10.1 a0 1).toInt = v_9.toInt := by rw [z_12]
    exact hret _ _ _ dX7_put_33 ⟨hV_q_10, hF_q_10, (by first | omega | (refine ⟨?_, ?_⟩ <;> omega) | trivial)⟩
set_option maxHeartbeats 4000000 in
set_option maxRecDepth 100000 in
theorem k_X7_putFour (l : Launch) (dC : Nat → ClassId) (dI : Nat → Nat → Nat) (h : Sh) (L : List Nat) (hN : sx_nd L) (q : Sg) (hV : sx_V h L q) {a0 : Nat} (ha0 : a0 ∈ L) (ka0 : h.1 a0 = 7) (n1 : Int32) {b0 : Nat} (eb0 : q.2.2.1 a0 0 = b0)   : CMv l dC dI h L yX7_putFour wsX7_putFour ({ frames := 1, cells := 0, slots := 0, locals := 21 } : Room) q [.ref a0, .int n1] (fun q' => sx_V h L q' ∧ sx_fr h L (fun a => a = a0 ∧ h.1 a = 7 ∨ a = b0 ∧ h.1 a = 300) q q' ∧ ((q.1 a0 1).toInt + 4 ≤ (h.2.1 b0 : Int) → (q'.1 a0 1).toInt = (q.1 a0 1).toInt + 4)) := by
  refine cm_v (cc := cX7_putFour) (mL := 2) (own := RX7) hN (by decide) rfl rfl (Nat.le_of_ble_eq_true rfl) (fun Z B hret => ?_)
  have hF : sx_fr h L (fun a => a = a0 ∧ h.1 a = 7 ∨ a = b0 ∧ h.1 a = 300) q q := sx_fr.rf
  obtain ⟨hb0, kb0⟩ : b0 ∈ L ∧ h.1 b0 = 300 := by obtain ⟨r9, e9, z1, z2⟩ := hV.ref (t := 300) ha0 ka0 0 rfl (by decide); rw [← eb0, e9]; exact ⟨z1, z2⟩
  show WA l dC dI h L ({ frames := 1, cells := 0, slots := 0, locals := 21 } : Room) 2 Z q 0 [(0, .ref a0), (1, .int n1)] []
  refine wa_aload_n B dX7_putFour_0 rfl 0 rfl ?_
  refine wa_iload_n B dX7_putFour_1 rfl 1 rfl ?_
  refine wa_bipush B 24 dX7_putFour_2 (by decide) ?_
  refine wa_iushr B dX7_putFour_4 (fun v_1 ev_1 => ?_)
  refine wa_callVv B (x := (RX7, TX7, 2)) (As := [.int v_1]) (rest := []) (k_X7_put l dC dI h L hN q hV (a0 := a0) ha0 ka0 v_1 (b0 := b0) eb0  ) (cwV 1 B.1.2.2.2.2 gX7_putFour_X7_put rfl rfl rfl (by decide +kernel) ⟨Nat.le_of_ble_eq_true rfl, Nat.le_of_ble_eq_true rfl⟩) ha0 ka0 (by decide) rfl rfl rfl (Nat.le_of_ble_eq_true rfl) dX7_putFour_5 (fun q_2 w_3 => ?_)
  obtain ⟨hV_q_2, h2_q_2, hw_3⟩ := w_3
  have hF_q_2 : sx_fr h L (fun a => a = a0 ∧ h.1 a = 7 ∨ a = b0 ∧ h.1 a = 300) q q_2 := hF.tr (h2_q_2.mono (fun a (z : a = a0 ∧ h.1 a = 7 ∨ a = b0 ∧ h.1 a = 300) => (show a = a0 ∧ h.1 a = 7 ∨ a = b0 ∧ h.1 a = 300 from by omega)))
  refine wa_aload_n B dX7_putFour_8 rfl 0 rfl ?_
  refine wa_iload_n B dX7_putFour_9 rfl 1 rfl ?_
  refine wa_bipush B 16 dX7_putFour_10 (by decide) ?_
  refine wa_iushr B dX7_putFour_12 (fun v_4 ev_4 => ?_)
  have z_5 : q_2.2.2.1 a0 0 = b0 := (h2_q_2.R ha0 (show ¬ ((a0 = a0 ∧ h.1 a0 = 7 ∨ a0 = b0 ∧ h.1 a0 = 300) ∧ (h.1 a0 = 8 ∨ h.1 a0 = 11)) from by omega) 0).trans (eb0)
  refine wa_callVv B (x := (RX7, TX7, 2)) (As := [.int v_4]) (rest := []) (k_X7_put l dC dI h L hN q_2 hV_q_2 (a0 := a0) ha0 ka0 v_4 (b0 := b0) z_5  ) (cwV 1 B.1.2.2.2.2 gX7_putFour_X7_put rfl rfl rfl (by decide +kernel) ⟨Nat.le_of_ble_eq_true rfl, Nat.le_of_ble_eq_true rfl⟩) ha0 ka0 (by decide) rfl rfl rfl (Nat.le_of_ble_eq_true rfl) dX7_putFour_13 (fun q_6 w_7 => ?_)
  obtain ⟨hV_q_6, h2_q_6, hw_7⟩ := w_7
  have hF_q_6 : sx_fr h L (fun a => a = a0 ∧ h.1 a = 7 ∨ a = b0 ∧ h.1 a = 300) q q_6 := hF_q_2.tr (h2_q_6.mono (fun a (z : a = a0 ∧ h.1 a = 7 ∨ a = b0 ∧ h.1 a = 300) => (show a = a0 ∧ h.1 a = 7 ∨ a = b0 ∧ h.1 a = 300 from by omega)))
  refine wa_aload_n B dX7_putFour_16 rfl 0 rfl ?_
  refine wa_iload_n B dX7_putFour_17 rfl 1 rfl ?_
  refine wa_bipush B 8 dX7_putFour_18 (by decide) ?_
  refine wa_iushr B dX7_putFour_20 (fun v_8 ev_8 => ?_)
  have z_9 : q_6.2.2.1 a0 0 = b0 := (h2_q_6.R ha0 (show ¬ ((a0 = a0 ∧ h.1 a0 = 7 ∨ a0 = b0 ∧ h.1 a0 = 300) ∧ (h.1 a0 = 8 ∨ h.1 a0 = 11)) from by omega) 0).trans (z_5)
  refine wa_callVv B (x := (RX7, TX7, 2)) (As := [.int v_8]) (rest := []) (k_X7_put l dC dI h L hN q_6 hV_q_6 (a0 := a0) ha0 ka0 v_8 (b0 := b0) z_9  ) (cwV 1 B.1.2.2.2.2 gX7_putFour_X7_put rfl rfl rfl (by decide +kernel) ⟨Nat.le_of_ble_eq_true rfl, Nat.le_of_ble_eq_true rfl⟩) ha0 ka0 (by decide) rfl rfl rfl (Nat.le_of_ble_eq_true rfl) dX7_putFour_21 (fun q_10 w_11 => ?_)
  obtain ⟨hV_q_10, h2_q_10, hw_11⟩ := w_11
  have hF_q_10 : sx_fr h L (fun a => a = a0 ∧ h.1 a = 7 ∨ a = b0 ∧ h.1 a = 300) q q_10 := hF_q_6.tr (h2_q_10.mono (fun a (z : a = a0 ∧ h.1 a = 7 ∨ a = b0 ∧ h.1 a = 300) => (show a = a0 ∧ h.1 a = 7 ∨ a = b0 ∧ h.1 a = 300 from by omega)))
  refine wa_aload_n B dX7_putFour_24 rfl 0 rfl ?_
  refine wa_iload_n B dX7_putFour_25 rfl 1 rfl ?_
  have z_12 : q_10.2.2.1 a0 0 = b0 := (h2_q_10.R ha0 (show ¬ ((a0 = a0 ∧ h.1 a0 = 7 ∨ a0 = b0 ∧ h.1 a0 = 300) ∧ (h.1 a0 = 8 ∨ h.1 a0 = 11)) from by omega) 0).trans (z_9)
  refine wa_callVv B (x := (RX7, TX7, 2)) (As := [.int n1]) (rest := []) (k_X7_put l dC dI h L hN q_10 hV_q_10 (a0 := a0) ha0 ka0 n1 (b0 := b0) z_12  ) (cwV 1 B.1.2.2.2.2 gX7_putFour_X7_put rfl rfl rfl (by decide +kernel) ⟨Nat.le_of_ble_eq_true rfl, Nat.le_of_ble_eq_true rfl⟩) ha0 ka0 (by decide) rfl rfl rfl (Nat.le_of_ble_eq_true rfl) dX7_putFour_26 (fun q_13 w_14 => ?_)
  obtain ⟨hV_q_13, h2_q_13, hw_14⟩ := w_14
  have hF_q_13 : sx_fr h L (fun a => a = a0 ∧ h.1 a = 7 ∨ a = b0 ∧ h.1 a = 300) q q_13 := hF_q_10.tr (h2_q_13.mono (fun a (z : a = a0 ∧ h.1 a = 7 ∨ a = b0 ∧ h.1 a = 300) => (show a = a0 ∧ h.1 a = 7 ∨ a = b0 ∧ h.1 a = 300 from by omega)))
  exact hret _ _ _ dX7_putFour_29 ⟨hV_q_13, hF_q_13, (by first | omega | (refine ⟨?_, ?_⟩ <;> omega) | trivial)⟩
