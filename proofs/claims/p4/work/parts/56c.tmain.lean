def sx_c7 (h : Sh) (a : Nat) : Prop := (0 < h.1 a ∧ h.1 a < 12) ∨ (100 ≤ h.1 a ∧ h.1 a < 110) ∨ (200 ≤ h.1 a ∧ h.1 a < 210) ∨ (h.1 a = 300 ∧ ¬ h.2.1 a = 440) ∨ 400 ≤ h.1 a
set_option maxHeartbeats 4000000 in
set_option maxRecDepth 100000 in
theorem k_X11_feed_c (l : Launch) (dC : Nat → ClassId) (dI : Nat → Nat → Nat) (h : Sh) (L : List Nat) (hN : sx_nd L) (q : Sg) (hV : sx_V h L q) {a0 : Nat} (ha0 : a0 ∈ L) (ka0 : h.1 a0 = 11) (n1 : Int32) (n2 : Int32) (n3 : Int32) (n4 : Int32) (n5 : Int32) {t0 : Nat} (et0 : q.2.2.1 a0 0 = t0) {tb : Nat} (etb : q.2.2.1 t0 0 = tb) {fa : Nat} (efa : q.2.2.1 a0 9 = fa)    : CMi l dC dI h L yX11_feed wsX11_feed ({ frames := 2, cells := 0, slots := 0, locals := 42 } : Room) q [.ref a0, .int n1, .int n2, .int n3, .int n4, .int n5] (fun r q' => sx_V h L q' ∧ sx_fr h L (fun a => a = t0 ∧ h.1 a = 7 ∨ a = tb ∧ h.1 a = 300) q q' ∧ (q'.2.2.1 a0 0 = t0 ∧ ((q.1 t0 1).toInt + 20 ≤ 440 ∧ (q'.1 t0 1).toInt = (q.1 t0 1).toInt + 20 ∨ 440 < (q.1 t0 1).toInt + 20 ∧ (q'.1 t0 1).toInt = (q.1 t0 1).toInt) ∧ (q'.1 a0 14).toInt = (q.1 a0 14).toInt ∧ q'.2.2.1 a0 9 = fa ∧ ((q.1 t0 1).toInt + 20 ≤ 440 ∧ r.toInt = (q.1 t0 1).toInt + 20 ∨ 440 < (q.1 t0 1).toInt + 20 ∧ r.toInt = -1) ∧ ((q.1 t0 1).toInt + 20 ≤ 440 → q'.2.2.2.1 tb = ty_20 (q.2.2.2.1 tb) (q.1 t0 1).toInt.toNat n1 n2 n3 n4 n5) ∧ (440 < (q.1 t0 1).toInt + 20 → q'.2.2.2.1 tb = q.2.2.2.1 tb))) := by
  refine cm_i (cc := cX11_feed) (mL := 6) (own := RX11) hN (by decide) rfl rfl (Nat.le_of_ble_eq_true rfl) (fun Z B hret => ?_)
  have hF : sx_fr h L (fun a => a = t0 ∧ h.1 a = 7 ∨ a = tb ∧ h.1 a = 300) q q := sx_fr.rf
  obtain ⟨ht0, kt0, lt0⟩ : t0 ∈ L ∧ h.1 t0 = 7 ∧ h.2.1 t0 = 1 := by obtain ⟨r9, e9, z1, z2, z3⟩ := hV.refn (t := 7) (n := 1) ha0 ka0 0 rfl (by decide) rfl (by decide); rw [← et0, e9]; exact ⟨z1, z2, z3⟩
  obtain ⟨htb, ktb, ltb⟩ : tb ∈ L ∧ h.1 tb = 300 ∧ h.2.1 tb = 440 := by obtain ⟨r9, e9, z1, z2, z3⟩ := hV.refn (t := 300) (n := 440) ht0 kt0 0 rfl (by decide) (by rw [lt0]; rfl) (by decide); rw [← etb, e9]; exact ⟨z1, z2, z3⟩
  obtain ⟨hfa, kfa, lfa⟩ : fa ∈ L ∧ h.1 fa = 403 ∧ h.2.1 fa = 12 := by obtain ⟨r9, e9, z1, z2, z3⟩ := hV.refn (t := 403) (n := 12) ha0 ka0 9 rfl (by decide) rfl (by decide); rw [← efa, e9]; exact ⟨z1, z2, z3⟩
  show WA l dC dI h L ({ frames := 2, cells := 0, slots := 0, locals := 42 } : Room) 6 Z q 0 [(0, .ref a0), (1, .int n1), (2, .int n2), (3, .int n3), (4, .int n4), (5, .int n5)] []
  refine wa_aload_n B dX11_feed_0 rfl 0 rfl ?_
  refine wa_getR B (C := RX11) (T := TX11) (N := 16) iq_X11_feed_X11 ha0 ka0 (by decide) rfl 0 (by decide) (by decide) (by decide +kernel) rfl (fun _ _ _ => rfl) (v := t0) et0 dX11_feed_1 ?_
  refine wa_getI B (C := RX7) (T := TX7) (N := 2) iq_X11_feed_X7 ht0 kt0 (by decide) rfl 1 (by decide) (by decide) (by decide +kernel) rfl (by decide) (v := (q.1 t0 1)) rfl dX11_feed_4 ?_
  have g_1 : (0 : Int) ≤ (q.1 t0 1).toInt ∧ (q.1 t0 1).toInt ≤ (h.2.1 tb : Int) := by have z9 := hV.int ht0 kt0 1; rw [etb] at z9; exact z9
  refine wa_bipush B 20 dX11_feed_7 (by decide) ?_
  refine wa_iadd B dX11_feed_9 (fun v_2 ev_2 => ?_)
  refine wa_sipush B 440 dX11_feed_10 (by decide) ?_
  have tv_2 : v_2.toInt = (q.1 t0 1).toInt + 20 := by have b0 := zx_bd (q.1 t0 1); rw [ev_2]; exact zx_add (show (-2147483648 : Int) ≤ (q.1 t0 1).toInt + 20 by omega) (show (q.1 t0 1).toInt + 20 < (2147483648 : Int) by omega)
  refine wa_icmp_le B 18 dX11_feed_13 (by decide) (fun (t_3 : v_2.toInt ≤ 440) => ?_) (fun (t_3 : ¬ v_2.toInt ≤ 440) => ?_)
  · refine wa_aload_n B dX11_feed_18 rfl 0 rfl ?_
    refine wa_getR B (C := RX11) (T := TX11) (N := 16) iq_X11_feed_X11 ha0 ka0 (by decide) rfl 0 (by decide) (by decide) (by decide +kernel) rfl (fun _ _ _ => rfl) (v := t0) et0 dX11_feed_19 ?_
    refine wa_iload_n B dX11_feed_22 rfl 1 rfl ?_
    refine wa_callVv B (x := (RX7, TX7, 2)) (As := [.int n1]) (rest := []) (k_X7_putFour_c l dC dI h L hN q hV (a0 := t0) ht0 kt0 n1 (b0 := tb) etb  (by first | assumption | omega | decide)) (cwV 1 B.1.2.2.2.2 gX11_feed_X7_putFour rfl rfl rfl (by decide +kernel) ⟨Nat.le_of_ble_eq_true rfl, Nat.le_of_ble_eq_true rfl⟩) ht0 kt0 (by decide) rfl rfl rfl (Nat.le_of_ble_eq_true rfl) dX11_feed_23 (fun q_4 w_5 => ?_)
    obtain ⟨hV_q_4, h2_q_4, hw_5⟩ := w_5
    have hF_q_4 : sx_fr h L (fun a => a = t0 ∧ h.1 a = 7 ∨ a = tb ∧ h.1 a = 300) q q_4 := hF.tr (h2_q_4.mono (fun a (z : a = t0 ∧ h.1 a = 7 ∨ a = tb ∧ h.1 a = 300) => (show a = t0 ∧ h.1 a = 7 ∨ a = tb ∧ h.1 a = 300 from by omega)))
    refine wa_aload_n B dX11_feed_26 rfl 0 rfl ?_
    have z_6 : q_4.2.2.1 a0 0 = t0 := (h2_q_4.R ha0 (show ¬ ((a0 = t0 ∧ h.1 a0 = 7 ∨ a0 = tb ∧ h.1 a0 = 300) ∧ (h.1 a0 = 8 ∨ h.1 a0 = 11)) from fun z9 => (show ¬ (a0 = t0 ∧ h.1 a0 = 7 ∨ a0 = tb ∧ h.1 a0 = 300) from by omega) z9.1) 0).trans (et0)
    refine wa_getR B (C := RX11) (T := TX11) (N := 16) iq_X11_feed_X11 ha0 ka0 (by decide) rfl 0 (by decide) (by decide) (by decide +kernel) rfl (fun _ _ _ => rfl) (v := t0) z_6 dX11_feed_27 ?_
    refine wa_iload_n B dX11_feed_30 rfl 2 rfl ?_
    have z_7 : q_4.2.2.1 t0 0 = tb := (h2_q_4.R ht0 (fun z9 => absurd z9.2 (by omega)) 0).trans (etb)
    refine wa_callVv B (x := (RX7, TX7, 2)) (As := [.int n2]) (rest := []) (k_X7_putFour_c l dC dI h L hN q_4 hV_q_4 (a0 := t0) ht0 kt0 n2 (b0 := tb) z_7  (by first | assumption | omega | decide)) (cwV 1 B.1.2.2.2.2 gX11_feed_X7_putFour rfl rfl rfl (by decide +kernel) ⟨Nat.le_of_ble_eq_true rfl, Nat.le_of_ble_eq_true rfl⟩) ht0 kt0 (by decide) rfl rfl rfl (Nat.le_of_ble_eq_true rfl) dX11_feed_31 (fun q_8 w_9 => ?_)
    obtain ⟨hV_q_8, h2_q_8, hw_9⟩ := w_9
    have hF_q_8 : sx_fr h L (fun a => a = t0 ∧ h.1 a = 7 ∨ a = tb ∧ h.1 a = 300) q q_8 := hF_q_4.tr (h2_q_8.mono (fun a (z : a = t0 ∧ h.1 a = 7 ∨ a = tb ∧ h.1 a = 300) => (show a = t0 ∧ h.1 a = 7 ∨ a = tb ∧ h.1 a = 300 from by omega)))
    refine wa_aload_n B dX11_feed_34 rfl 0 rfl ?_
    have z_10 : q_8.2.2.1 a0 0 = t0 := (h2_q_8.R ha0 (show ¬ ((a0 = t0 ∧ h.1 a0 = 7 ∨ a0 = tb ∧ h.1 a0 = 300) ∧ (h.1 a0 = 8 ∨ h.1 a0 = 11)) from fun z9 => (show ¬ (a0 = t0 ∧ h.1 a0 = 7 ∨ a0 = tb ∧ h.1 a0 = 300) from by omega) z9.1) 0).trans (z_6)
    refine wa_getR B (C := RX11) (T := TX11) (N := 16) iq_X11_feed_X11 ha0 ka0 (by decide) rfl 0 (by decide) (by decide) (by decide +kernel) rfl (fun _ _ _ => rfl) (v := t0) z_10 dX11_feed_35 ?_
    refine wa_iload_n B dX11_feed_38 rfl 3 rfl ?_
    have z_11 : q_8.2.2.1 t0 0 = tb := (h2_q_8.R ht0 (fun z9 => absurd z9.2 (by omega)) 0).trans (z_7)
    refine wa_callVv B (x := (RX7, TX7, 2)) (As := [.int n3]) (rest := []) (k_X7_putFour_c l dC dI h L hN q_8 hV_q_8 (a0 := t0) ht0 kt0 n3 (b0 := tb) z_11  (by first | assumption | omega | decide)) (cwV 1 B.1.2.2.2.2 gX11_feed_X7_putFour rfl rfl rfl (by decide +kernel) ⟨Nat.le_of_ble_eq_true rfl, Nat.le_of_ble_eq_true rfl⟩) ht0 kt0 (by decide) rfl rfl rfl (Nat.le_of_ble_eq_true rfl) dX11_feed_39 (fun q_12 w_13 => ?_)
    obtain ⟨hV_q_12, h2_q_12, hw_13⟩ := w_13
    have hF_q_12 : sx_fr h L (fun a => a = t0 ∧ h.1 a = 7 ∨ a = tb ∧ h.1 a = 300) q q_12 := hF_q_8.tr (h2_q_12.mono (fun a (z : a = t0 ∧ h.1 a = 7 ∨ a = tb ∧ h.1 a = 300) => (show a = t0 ∧ h.1 a = 7 ∨ a = tb ∧ h.1 a = 300 from by omega)))
    refine wa_aload_n B dX11_feed_42 rfl 0 rfl ?_
    have z_14 : q_12.2.2.1 a0 0 = t0 := (h2_q_12.R ha0 (show ¬ ((a0 = t0 ∧ h.1 a0 = 7 ∨ a0 = tb ∧ h.1 a0 = 300) ∧ (h.1 a0 = 8 ∨ h.1 a0 = 11)) from fun z9 => (show ¬ (a0 = t0 ∧ h.1 a0 = 7 ∨ a0 = tb ∧ h.1 a0 = 300) from by omega) z9.1) 0).trans (z_10)
    refine wa_getR B (C := RX11) (T := TX11) (N := 16) iq_X11_feed_X11 ha0 ka0 (by decide) rfl 0 (by decide) (by decide) (by decide +kernel) rfl (fun _ _ _ => rfl) (v := t0) z_14 dX11_feed_43 ?_
    refine wa_iload B dX11_feed_46 4 rfl ?_
    have z_15 : q_12.2.2.1 t0 0 = tb := (h2_q_12.R ht0 (fun z9 => absurd z9.2 (by omega)) 0).trans (z_11)
    refine wa_callVv B (x := (RX7, TX7, 2)) (As := [.int n4]) (rest := []) (k_X7_putFour_c l dC dI h L hN q_12 hV_q_12 (a0 := t0) ht0 kt0 n4 (b0 := tb) z_15  (by first | assumption | omega | decide)) (cwV 1 B.1.2.2.2.2 gX11_feed_X7_putFour rfl rfl rfl (by decide +kernel) ⟨Nat.le_of_ble_eq_true rfl, Nat.le_of_ble_eq_true rfl⟩) ht0 kt0 (by decide) rfl rfl rfl (Nat.le_of_ble_eq_true rfl) dX11_feed_48 (fun q_16 w_17 => ?_)
    obtain ⟨hV_q_16, h2_q_16, hw_17⟩ := w_17
    have hF_q_16 : sx_fr h L (fun a => a = t0 ∧ h.1 a = 7 ∨ a = tb ∧ h.1 a = 300) q q_16 := hF_q_12.tr (h2_q_16.mono (fun a (z : a = t0 ∧ h.1 a = 7 ∨ a = tb ∧ h.1 a = 300) => (show a = t0 ∧ h.1 a = 7 ∨ a = tb ∧ h.1 a = 300 from by omega)))
    refine wa_aload_n B dX11_feed_51 rfl 0 rfl ?_
    have z_18 : q_16.2.2.1 a0 0 = t0 := (h2_q_16.R ha0 (show ¬ ((a0 = t0 ∧ h.1 a0 = 7 ∨ a0 = tb ∧ h.1 a0 = 300) ∧ (h.1 a0 = 8 ∨ h.1 a0 = 11)) from fun z9 => (show ¬ (a0 = t0 ∧ h.1 a0 = 7 ∨ a0 = tb ∧ h.1 a0 = 300) from by omega) z9.1) 0).trans (z_14)
    refine wa_getR B (C := RX11) (T := TX11) (N := 16) iq_X11_feed_X11 ha0 ka0 (by decide) rfl 0 (by decide) (by decide) (by decide +kernel) rfl (fun _ _ _ => rfl) (v := t0) z_18 dX11_feed_52 ?_
    refine wa_iload B dX11_feed_55 5 rfl ?_
    have z_19 : q_16.2.2.1 t0 0 = tb := (h2_q_16.R ht0 (fun z9 => absurd z9.2 (by omega)) 0).trans (z_15)
    refine wa_callVv B (x := (RX7, TX7, 2)) (As := [.int n5]) (rest := []) (k_X7_putFour_c l dC dI h L hN q_16 hV_q_16 (a0 := t0) ht0 kt0 n5 (b0 := tb) z_19  (by first | assumption | omega | decide)) (cwV 1 B.1.2.2.2.2 gX11_feed_X7_putFour rfl rfl rfl (by decide +kernel) ⟨Nat.le_of_ble_eq_true rfl, Nat.le_of_ble_eq_true rfl⟩) ht0 kt0 (by decide) rfl rfl rfl (Nat.le_of_ble_eq_true rfl) dX11_feed_57 (fun q_20 w_21 => ?_)
    obtain ⟨hV_q_20, h2_q_20, hw_21⟩ := w_21
    have hF_q_20 : sx_fr h L (fun a => a = t0 ∧ h.1 a = 7 ∨ a = tb ∧ h.1 a = 300) q q_20 := hF_q_16.tr (h2_q_20.mono (fun a (z : a = t0 ∧ h.1 a = 7 ∨ a = tb ∧ h.1 a = 300) => (show a = t0 ∧ h.1 a = 7 ∨ a = tb ∧ h.1 a = 300 from by omega)))
    refine wa_aload_n B dX11_feed_60 rfl 0 rfl ?_
    have z_22 : q_20.2.2.1 a0 0 = t0 := (h2_q_20.R ha0 (show ¬ ((a0 = t0 ∧ h.1 a0 = 7 ∨ a0 = tb ∧ h.1 a0 = 300) ∧ (h.1 a0 = 8 ∨ h.1 a0 = 11)) from fun z9 => (show ¬ (a0 = t0 ∧ h.1 a0 = 7 ∨ a0 = tb ∧ h.1 a0 = 300) from by omega) z9.1) 0).trans (z_18)
    refine wa_getR B (C := RX11) (T := TX11) (N := 16) iq_X11_feed_X11 ha0 ka0 (by decide) rfl 0 (by decide) (by decide) (by decide +kernel) rfl (fun _ _ _ => rfl) (v := t0) z_22 dX11_feed_61 ?_
    refine wa_getI B (C := RX7) (T := TX7) (N := 2) iq_X11_feed_X7 ht0 kt0 (by decide) rfl 1 (by decide) (by decide) (by decide +kernel) rfl (by decide) (v := (q_20.1 t0 1)) rfl dX11_feed_64 ?_
    have z_24 : q_20.2.2.1 t0 0 = tb := (h2_q_20.R ht0 (fun z9 => absurd z9.2 (by omega)) 0).trans (z_19)
    have g_23 : (0 : Int) ≤ (q_20.1 t0 1).toInt ∧ (q_20.1 t0 1).toInt ≤ (h.2.1 tb : Int) := by have z9 := hV_q_20.int ht0 kt0 1; rw [z_24] at z9; exact z9
    have z_25 : q_20.1 a0 14 = q.1 a0 14 := (h2_q_20.I ha0 (show ¬ (a0 = t0 ∧ h.1 a0 = 7 ∨ a0 = tb ∧ h.1 a0 = 300) from by omega) 14).trans ((h2_q_16.I ha0 (show ¬ (a0 = t0 ∧ h.1 a0 = 7 ∨ a0 = tb ∧ h.1 a0 = 300) from by omega) 14).trans ((h2_q_12.I ha0 (show ¬ (a0 = t0 ∧ h.1 a0 = 7 ∨ a0 = tb ∧ h.1 a0 = 300) from by omega) 14).trans ((h2_q_8.I ha0 (show ¬ (a0 = t0 ∧ h.1 a0 = 7 ∨ a0 = tb ∧ h.1 a0 = 300) from by omega) 14).trans (h2_q_4.I ha0 (show ¬ (a0 = t0 ∧ h.1 a0 = 7 ∨ a0 = tb ∧ h.1 a0 = 300) from by omega) 14))))
    have y_26 : (q_20.1 a0 14).toInt = (q.1 a0 14).toInt := by rw [z_25]
    have z_27 : q_20.2.2.1 a0 9 = fa := (h2_q_20.R ha0 (show ¬ ((a0 = t0 ∧ h.1 a0 = 7 ∨ a0 = tb ∧ h.1 a0 = 300) ∧ (h.1 a0 = 8 ∨ h.1 a0 = 11)) from fun z9 => (show ¬ (a0 = t0 ∧ h.1 a0 = 7 ∨ a0 = tb ∧ h.1 a0 = 300) from by omega) z9.1) 9).trans ((h2_q_16.R ha0 (show ¬ ((a0 = t0 ∧ h.1 a0 = 7 ∨ a0 = tb ∧ h.1 a0 = 300) ∧ (h.1 a0 = 8 ∨ h.1 a0 = 11)) from fun z9 => (show ¬ (a0 = t0 ∧ h.1 a0 = 7 ∨ a0 = tb ∧ h.1 a0 = 300) from by omega) z9.1) 9).trans ((h2_q_12.R ha0 (show ¬ ((a0 = t0 ∧ h.1 a0 = 7 ∨ a0 = tb ∧ h.1 a0 = 300) ∧ (h.1 a0 = 8 ∨ h.1 a0 = 11)) from fun z9 => (show ¬ (a0 = t0 ∧ h.1 a0 = 7 ∨ a0 = tb ∧ h.1 a0 = 300) from by omega) z9.1) 9).trans ((h2_q_8.R ha0 (show ¬ ((a0 = t0 ∧ h.1 a0 = 7 ∨ a0 = tb ∧ h.1 a0 = 300) ∧ (h.1 a0 = 8 ∨ h.1 a0 = 11)) from fun z9 => (show ¬ (a0 = t0 ∧ h.1 a0 = 7 ∨ a0 = tb ∧ h.1 a0 = 300) from by omega) z9.1) 9).trans ((h2_q_4.R ha0 (show ¬ ((a0 = t0 ∧ h.1 a0 = 7 ∨ a0 = tb ∧ h.1 a0 = 300) ∧ (h.1 a0 = 8 ∨ h.1 a0 = 11)) from fun z9 => (show ¬ (a0 = t0 ∧ h.1 a0 = 7 ∨ a0 = tb ∧ h.1 a0 = 300) from by omega) z9.1) 9).trans (efa)))))
    exact hret _ _ _ _ dX11_feed_67 ⟨hV_q_20, hF_q_20, ⟨z_22, by omega, by omega, z_27, by omega, fun _ => ty_20i hw_5.2 hw_9.2 hw_13.2 hw_17.2 hw_21.2 rfl (by have a9 := zx_nc (q_4.1 t0 1); have b9 := zx_nc (q.1 t0 1); omega) (by have a9 := zx_nc (q_8.1 t0 1); have b9 := zx_nc (q.1 t0 1); omega) (by have a9 := zx_nc (q_12.1 t0 1); have b9 := zx_nc (q.1 t0 1); omega) (by have a9 := zx_nc (q_16.1 t0 1); have b9 := zx_nc (q.1 t0 1); omega), fun z9 => by exfalso; omega⟩⟩
  · refine wa_iconst B (-1) dX11_feed_16 (by decide) ?_
    exact hret _ _ _ _ dX11_feed_17 ⟨hV, hF, ⟨et0, by have h9 : ((-1) : Int32).toInt = (-1) := rfl; omega, by have h9 : ((-1) : Int32).toInt = (-1) := rfl; omega, efa, by have h9 : ((-1) : Int32).toInt = (-1) := rfl; omega, fun z9 => by exfalso; omega, fun _ => rfl⟩⟩
set_option maxHeartbeats 4000000 in
set_option maxRecDepth 100000 in
theorem k_X11_end_c (l : Launch) (dC : Nat → ClassId) (dI : Nat → Nat → Nat) (h : Sh) (L : List Nat) (hN : sx_nd L) (q : Sg) (hV : sx_V h L q) {a0 : Nat} (ha0 : a0 ∈ L) (ka0 : h.1 a0 = 11) (n1 : Int32) {t0 : Nat} (et0 : q.2.2.1 a0 0 = t0) {tb : Nat} (etb : q.2.2.1 t0 0 = tb) {fa : Nat} (efa : q.2.2.1 a0 9 = fa)    : CMi l dC dI h L yX11_end wsX11_end ({ frames := 0, cells := 0, slots := 0, locals := 0 } : Room) q [.ref a0, .int n1] (fun r q' => sx_V h L q' ∧ sx_fr h L (fun a => sx_c7 h a) q q' ∧ (q'.2.2.1 a0 0 = t0 ∧ ((0 ≤ n1.toInt ∧ n1.toInt ≤ (q.1 t0 1).toInt) ∧ (q'.1 t0 1).toInt = n1.toInt ∧ r.toInt = 1 ∨ ¬ (0 ≤ n1.toInt ∧ n1.toInt ≤ (q.1 t0 1).toInt) ∧ (q'.1 t0 1).toInt = (q.1 t0 1).toInt ∧ r.toInt = 0) ∧ (q'.1 a0 14).toInt = (q.1 a0 14).toInt ∧ q'.2.2.1 a0 9 = fa)) := by
  refine cm_z (cc := cX11_end) (mL := 2) (own := RX11) hN (by decide) rfl rfl (Nat.le_of_ble_eq_true rfl) (fun Z B hret => ?_)
  have hF : sx_fr h L (fun a => sx_c7 h a) q q := sx_fr.rf
  obtain ⟨ht0, kt0, lt0⟩ : t0 ∈ L ∧ h.1 t0 = 7 ∧ h.2.1 t0 = 1 := by obtain ⟨r9, e9, z1, z2, z3⟩ := hV.refn (t := 7) (n := 1) ha0 ka0 0 rfl (by decide) rfl (by decide); rw [← et0, e9]; exact ⟨z1, z2, z3⟩
  obtain ⟨htb, ktb, ltb⟩ : tb ∈ L ∧ h.1 tb = 300 ∧ h.2.1 tb = 440 := by obtain ⟨r9, e9, z1, z2, z3⟩ := hV.refn (t := 300) (n := 440) ht0 kt0 0 rfl (by decide) (by rw [lt0]; rfl) (by decide); rw [← etb, e9]; exact ⟨z1, z2, z3⟩
  obtain ⟨hfa, kfa, lfa⟩ : fa ∈ L ∧ h.1 fa = 403 ∧ h.2.1 fa = 12 := by obtain ⟨r9, e9, z1, z2, z3⟩ := hV.refn (t := 403) (n := 12) ha0 ka0 9 rfl (by decide) rfl (by decide); rw [← efa, e9]; exact ⟨z1, z2, z3⟩
  show WA l dC dI h L ({ frames := 0, cells := 0, slots := 0, locals := 0 } : Room) 2 Z q 0 [(0, .ref a0), (1, .int n1)] []
  refine wa_iload_n B dX11_end_0 rfl 1 rfl ?_
  refine wa_if_lt B 15 dX11_end_1 (by decide) (fun (t_1 : n1.toInt < 0) => ?_) (fun (t_1 : ¬ n1.toInt < 0) => ?_)
  · refine wa_iconst B 0 dX11_end_15 (by decide) ?_
    exact hret _ _ _ _ dX11_end_16 (Or.inl rfl) ⟨hV, hF, ⟨et0, by have h9 : (0 : Int32).toInt = 0 := rfl; omega, by have h9 : (0 : Int32).toInt = 0 := rfl; omega, efa⟩⟩
  · refine wa_iload_n B dX11_end_4 rfl 1 rfl ?_
    refine wa_aload_n B dX11_end_5 rfl 0 rfl ?_
    refine wa_getR B (C := RX11) (T := TX11) (N := 16) iq_X11_end_X11 ha0 ka0 (by decide) rfl 0 (by decide) (by decide) (by decide +kernel) rfl (fun _ _ _ => rfl) (v := t0) et0 dX11_end_6 ?_
    refine wa_getI B (C := RX7) (T := TX7) (N := 2) iq_X11_end_X7 ht0 kt0 (by decide) rfl 1 (by decide) (by decide) (by decide +kernel) rfl (by decide) (v := (q.1 t0 1)) rfl dX11_end_9 ?_
    have g_2 : (0 : Int) ≤ (q.1 t0 1).toInt ∧ (q.1 t0 1).toInt ≤ (h.2.1 tb : Int) := by have z9 := hV.int ht0 kt0 1; rw [etb] at z9; exact z9
    refine wa_icmp_le B 17 dX11_end_12 (by decide) (fun (t_3 : n1.toInt ≤ (q.1 t0 1).toInt) => ?_) (fun (t_3 : ¬ n1.toInt ≤ (q.1 t0 1).toInt) => ?_)
    · refine wa_aload_n B dX11_end_17 rfl 0 rfl ?_
      refine wa_getR B (C := RX11) (T := TX11) (N := 16) iq_X11_end_X11 ha0 ka0 (by decide) rfl 0 (by decide) (by decide) (by decide +kernel) rfl (fun _ _ _ => rfl) (v := t0) et0 dX11_end_18 ?_
      refine wa_iload_n B dX11_end_21 rfl 1 rfl ?_
      refine wa_putI B (C := RX7) (T := TX7) (N := 2) iq_X11_end_X7 ht0 kt0 (by decide) rfl 1 (by decide) (by decide) (by decide +kernel) rfl (by decide) (v := n1) (ty := .int) tyX7 tyX7_ok nmX7 rfl (by decide +kernel) rfl rfl dX11_end_22 (fun q_4 eq_4 => ?_)
      have hV_q_4 : sx_V h L q_4 := by rw [eq_4]; exact hV.pI kt0 (show sx_in n1 0 ((h.2.1 (q.2.2.1 t0 0) : Nat) : Int) from ⟨by omega, by rw [etb]; omega⟩)
      have hF_q_4 : sx_fr h L (fun a => sx_c7 h a) q q_4 := hF.tr (by rw [eq_4]; exact sx_fr.pI (show sx_c7 h t0 from by (try unfold sx_mk at *); (try unfold sx_ck at *); (try unfold sx_c7 at *); omega))
      have z_5 : q_4.1 t0 1 = n1 := by rw [eq_4]; exact sg_pI_e
      refine wa_iconst B 1 dX11_end_25 (by decide) ?_
      have z_6 : q_4.1 a0 14 = q.1 a0 14 := (show q_4.1 a0 14 = q.1 a0 14 from by rw [eq_4]; exact sg_pI_k (by decide))
      have y_7 : (q_4.1 a0 14).toInt = (q.1 a0 14).toInt := by rw [z_6]
      have y_8 : (q_4.1 t0 1).toInt = n1.toInt := by rw [z_5]
      have z_9 : q_4.2.2.1 a0 0 = t0 := ((show q_4.2.2.1 a0 0 = q.2.2.1 a0 0 from by rw [eq_4]; rfl)).trans (et0)
      have z_10 : q_4.2.2.1 a0 9 = fa := ((show q_4.2.2.1 a0 9 = q.2.2.1 a0 9 from by rw [eq_4]; rfl)).trans (efa)
      exact hret _ _ _ _ dX11_end_26 (Or.inr rfl) ⟨hV_q_4, hF_q_4, ⟨z_9, by have h9 : (1 : Int32).toInt = 1 := rfl; omega, by have h9 : (1 : Int32).toInt = 1 := rfl; omega, z_10⟩⟩
    · refine wa_iconst B 0 dX11_end_15 (by decide) ?_
      exact hret _ _ _ _ dX11_end_16 (Or.inl rfl) ⟨hV, hF, ⟨et0, by have h9 : (0 : Int32).toInt = 0 := rfl; omega, by have h9 : (0 : Int32).toInt = 0 := rfl; omega, efa⟩⟩
set_option maxHeartbeats 4000000 in
set_option maxRecDepth 100000 in
theorem k_X11_joined_c (l : Launch) (dC : Nat → ClassId) (dI : Nat → Nat → Nat) (h : Sh) (L : List Nat) (hN : sx_nd L) (q : Sg) (hV : sx_V h L q) {a0 : Nat} (ha0 : a0 ∈ L) (ka0 : h.1 a0 = 11) (n1 : Int32) (n2 : Int32) {s0 : Nat} (es0 : q.2.2.1 a0 2 = s0) {sb : Nat} (esb : q.2.2.1 s0 0 = sb)   (hy0 : 0 ≤ n1.toInt) (hy1 : n1.toInt ≤ 11) (hy2 : 0 ≤ n2.toInt) (hy3 : n2.toInt ≤ 11) : CMi l dC dI h L yX11_joined wsX11_joined ({ frames := 9, cells := 0, slots := 0, locals := 221 } : Room) q [.ref a0, .int n1, .int n2] (fun r q' => sx_V h L q' ∧ sx_fr h L (fun a => h.1 a = 6 ∨ h.1 a = 8 ∨ h.1 a = 5 ∨ h.1 a = 2 ∨ h.1 a = 1 ∨ h.1 a = 4 ∨ a = s0 ∧ h.1 a = 7 ∨ a = sb ∧ h.1 a = 300) q q') := by
  refine cm_i (cc := cX11_joined) (mL := 5) (own := RX11) hN (by decide) rfl rfl (Nat.le_of_ble_eq_true rfl) (fun Z B hret => ?_)
  have hF : sx_fr h L (fun a => h.1 a = 6 ∨ h.1 a = 8 ∨ h.1 a = 5 ∨ h.1 a = 2 ∨ h.1 a = 1 ∨ h.1 a = 4 ∨ a = s0 ∧ h.1 a = 7 ∨ a = sb ∧ h.1 a = 300) q q := sx_fr.rf
  obtain ⟨hs0, ks0, ls0⟩ : s0 ∈ L ∧ h.1 s0 = 7 ∧ h.2.1 s0 = 3 := by obtain ⟨r9, e9, z1, z2, z3⟩ := hV.refn (t := 7) (n := 3) ha0 ka0 2 rfl (by decide) rfl (by decide); rw [← es0, e9]; exact ⟨z1, z2, z3⟩
  obtain ⟨hsb, ksb, lsb⟩ : sb ∈ L ∧ h.1 sb = 300 ∧ h.2.1 sb = 402 := by obtain ⟨r9, e9, z1, z2, z3⟩ := hV.refn (t := 300) (n := 402) hs0 ks0 0 rfl (by decide) (by rw [ls0]; rfl) (by decide); rw [← esb, e9]; exact ⟨z1, z2, z3⟩
  show WA l dC dI h L ({ frames := 9, cells := 0, slots := 0, locals := 221 } : Room) 5 Z q 0 [(0, .ref a0), (1, .int n1), (2, .int n2)] []
  refine wa_iload_n B dX11_joined_0 rfl 1 rfl ?_
  refine wa_bipush B 12 dX11_joined_1 (by decide) ?_
  refine wa_imul B dX11_joined_3 (fun v_1 ev_1 => ?_)
  refine wa_iload_n B dX11_joined_4 rfl 2 rfl ?_
  refine wa_iadd B dX11_joined_5 (fun v_2 ev_2 => ?_)
  refine wa_istore_n B [(3, .int v_2), (0, .ref a0), (1, .int n1), (2, .int n2)] dX11_joined_6 rfl (by decide) rfl ?_
  refine wa_aload_n B dX11_joined_7 rfl 1 rfl ?_
  obtain ⟨a_3, ea_3, ha_3, ka_3, la_3⟩ := hV.refn (n := 144) (t := 100) ha0 ka0 10 rfl (by decide) rfl (by decide)
  refine wa_getR B (C := RX11) (T := TX11) (N := 16) iq_X11_joined_X11 ha0 ka0 (by decide) rfl 10 (by decide) (by decide) (by decide +kernel) rfl (fun _ _ _ => rfl) (v := a_3) ea_3 dX11_joined_8 ?_
  refine wa_iload_n B dX11_joined_11 rfl 0 rfl ?_
  have tv_1 : v_1.toInt = n1.toInt * 12 := by have b0 := zx_bd n1; rw [ev_1]; exact zx_mul (show (-2147483648 : Int) ≤ n1.toInt * 12 by omega) (show n1.toInt * 12 < (2147483648 : Int) by omega)
  have tv_2 : v_2.toInt = v_1.toInt + n2.toInt := by have b0 := zx_bd v_1; have b1 := zx_bd n2; rw [ev_2]; exact zx_add (show (-2147483648 : Int) ≤ v_1.toInt + n2.toInt by omega) (show v_1.toInt + n2.toInt < (2147483648 : Int) by omega)
  refine wa_iaload B ha_3 ka_3 (by decide) (by decide) (show 0 ≤ v_2.toInt by omega) (show v_2.toInt < (h.2.1 a_3 : Int) by omega) (v := (q.2.2.2.1 a_3 (v_2 : Int32).toNatClampNeg)) rfl dX11_joined_12 ?_
  refine wa_iconst B (-1) dX11_joined_13 (by decide) ?_
  refine wa_icmp_ne B 42 dX11_joined_14 (by decide) (fun (t_4 : ¬ ((q.2.2.2.1 a_3 (v_2 : Int32).toNatClampNeg)).toInt = (-1)) => ?_) (fun (t_4 : ((q.2.2.2.1 a_3 (v_2 : Int32).toNatClampNeg)).toInt = (-1)) => ?_)
  · refine wa_aload_n B dX11_joined_42 rfl 1 rfl ?_
    refine wa_getR B (C := RX11) (T := TX11) (N := 16) iq_X11_joined_X11 ha0 ka0 (by decide) rfl 10 (by decide) (by decide) (by decide +kernel) rfl (fun _ _ _ => rfl) (v := a_3) ea_3 dX11_joined_43 ?_
    refine wa_iload_n B dX11_joined_46 rfl 0 rfl ?_
    refine wa_iaload B ha_3 ka_3 (by decide) (by decide) (show 0 ≤ v_2.toInt by omega) (show v_2.toInt < (h.2.1 a_3 : Int) by omega) (v := (q.2.2.2.1 a_3 (v_2 : Int32).toNatClampNeg)) rfl dX11_joined_47 ?_
    refine wa_iconst B (-1) dX11_joined_48 (by decide) ?_
    refine wa_icmp_ne B 135 dX11_joined_49 (by decide) (fun (t_5 : ¬ ((q.2.2.2.1 a_3 (v_2 : Int32).toNatClampNeg)).toInt = (-1)) => ?_) (fun (t_5 : ((q.2.2.2.1 a_3 (v_2 : Int32).toNatClampNeg)).toInt = (-1)) => ?_)
    · refine wa_aload_n B dX11_joined_135 rfl 1 rfl ?_
      refine wa_getR B (C := RX11) (T := TX11) (N := 16) iq_X11_joined_X11 ha0 ka0 (by decide) rfl 10 (by decide) (by decide) (by decide +kernel) rfl (fun _ _ _ => rfl) (v := a_3) ea_3 dX11_joined_136 ?_
      refine wa_iload_n B dX11_joined_139 rfl 0 rfl ?_
      refine wa_iaload B ha_3 ka_3 (by decide) (by decide) (show 0 ≤ v_2.toInt by omega) (show v_2.toInt < (h.2.1 a_3 : Int) by omega) (v := (q.2.2.2.1 a_3 (v_2 : Int32).toNatClampNeg)) rfl dX11_joined_140 ?_
      exact hret _ _ _ _ dX11_joined_141 ⟨hV, hF⟩
    · refine wa_aload_n B dX11_joined_52 rfl 1 rfl ?_
      obtain ⟨a_6, ea_6, ha_6, ka_6, la_6⟩ := hV.refn (n := 12) (t := 403) ha0 ka0 9 rfl (by decide) rfl (by decide)
      refine wa_getR B (C := RX11) (T := TX11) (N := 16) iq_X11_joined_X11 ha0 ka0 (by decide) rfl 9 (by decide) (by decide) (by decide +kernel) rfl (fun _ _ _ => rfl) (v := a_6) ea_6 dX11_joined_53 ?_
      refine wa_iload_n B dX11_joined_56 rfl 2 rfl ?_
      obtain ⟨a_7, ea_7, ha_7, ka_7⟩ := hV.elem (t := 0) ha_6 ka_6 (by decide) rfl (zx_ix (i := n1) (show 0 ≤ n1.toInt by omega) (show n1.toInt < (h.2.1 a_6 : Int) by omega))
      refine wa_aaload B (t0 := 6) ha_6 ka_6 (by decide) rfl (show 0 ≤ n1.toInt by omega) (show n1.toInt < (h.2.1 a_6 : Int) by omega) (v := a_7) ea_7 dX11_joined_57 ?_
      refine wa_aload_n B dX11_joined_58 rfl 1 rfl ?_
      refine wa_getR B (C := RX11) (T := TX11) (N := 16) iq_X11_joined_X11 ha0 ka0 (by decide) rfl 9 (by decide) (by decide) (by decide +kernel) rfl (fun _ _ _ => rfl) (v := a_6) ea_6 dX11_joined_59 ?_
      refine wa_iload_n B dX11_joined_62 rfl 3 rfl ?_
      obtain ⟨a_8, ea_8, ha_8, ka_8⟩ := hV.elem (t := 0) ha_6 ka_6 (by decide) rfl (zx_ix (i := n2) (show 0 ≤ n2.toInt by omega) (show n2.toInt < (h.2.1 a_6 : Int) by omega))
      refine wa_aaload B (t0 := 6) ha_6 ka_6 (by decide) rfl (show 0 ≤ n2.toInt by omega) (show n2.toInt < (h.2.1 a_6 : Int) by omega) (v := a_8) ea_8 dX11_joined_63 ?_
      refine wa_aload_n B dX11_joined_64 rfl 1 rfl ?_
      refine wa_getR B (C := RX11) (T := TX11) (N := 16) iq_X11_joined_X11 ha0 ka0 (by decide) rfl 2 (by decide) (by decide) (by decide +kernel) rfl (fun _ _ _ => rfl) (v := s0) es0 dX11_joined_65 ?_
      obtain ⟨a_9, ea_9, ha_9, ka_9, la_9⟩ := hV.refn (n := 4) (t := 7) ha_7 ka_7 0 rfl (by decide) rfl (by decide)
      have ns0_a_9 : ¬ s0 = a_9 := fun z9 => absurd (z9 ▸ ls0 : h.2.1 a_9 = 3) (by rw [la_9]; decide)
      obtain ⟨a_10, ea_10, ha_10, ka_10, la_10⟩ := hV.refn (n := 4) (t := 7) ha_8 ka_8 0 rfl (by decide) rfl (by decide)
      have ns0_a_10 : ¬ s0 = a_10 := fun z9 => absurd (z9 ▸ ls0 : h.2.1 a_10 = 3) (by rw [la_10]; decide)
      refine wa_callVv B (x := (RX0, TX0, 4)) (As := [.ref a_8, .ref s0]) (rest := []) (k_X0_sayWith l dC dI h L hN q hV (a0 := a_7) ha_7 ka_7 (a1 := a_8) ha_8 ka_8 (a2 := s0) hs0 ks0 (t0 := a_9) ea_9 (t1 := a_10) ea_10 (b0 := sb) esb (by omega) (by omega)  ) (cwV 2 B.1.2.2.2.2 gX11_joined_X0_sayWith rfl rfl rfl (by decide +kernel) ⟨Nat.le_of_ble_eq_true rfl, Nat.le_of_ble_eq_true rfl⟩) ha_7 ka_7 (by decide) rfl rfl rfl (Nat.le_of_ble_eq_true rfl) dX11_joined_68 (fun q_11 w_12 => ?_)
      obtain ⟨hV_q_11, h2_q_11⟩ := w_12
      have hF_q_11 : sx_fr h L (fun a => h.1 a = 6 ∨ h.1 a = 8 ∨ h.1 a = 5 ∨ h.1 a = 2 ∨ h.1 a = 1 ∨ h.1 a = 4 ∨ a = s0 ∧ h.1 a = 7 ∨ a = sb ∧ h.1 a = 300) q q_11 := hF.tr (h2_q_11.mono (fun a (z : a = s0 ∧ h.1 a = 7 ∨ a = sb ∧ h.1 a = 300) => (show h.1 a = 6 ∨ h.1 a = 8 ∨ h.1 a = 5 ∨ h.1 a = 2 ∨ h.1 a = 1 ∨ h.1 a = 4 ∨ a = s0 ∧ h.1 a = 7 ∨ a = sb ∧ h.1 a = 300 from by omega)))
      refine wa_aload_n B dX11_joined_71 rfl 1 rfl ?_
      obtain ⟨a_13, ea_13, ha_13, ka_13⟩ := hV_q_11.ref (t := 6) ha0 ka0 4 rfl (by decide)
      refine wa_getR B (C := RX11) (T := TX11) (N := 16) iq_X11_joined_X11 ha0 ka0 (by decide) rfl 4 (by decide) (by decide) (by decide +kernel) rfl (fun _ _ _ => rfl) (v := a_13) ea_13 dX11_joined_72 ?_
      refine wa_aload_n B dX11_joined_75 rfl 1 rfl ?_
      have z_14 : q_11.2.2.1 a0 2 = s0 := (h2_q_11.R ha0 (show ¬ ((a0 = s0 ∧ h.1 a0 = 7 ∨ a0 = sb ∧ h.1 a0 = 300) ∧ (h.1 a0 = 8 ∨ h.1 a0 = 11)) from fun z9 => (show ¬ (a0 = s0 ∧ h.1 a0 = 7 ∨ a0 = sb ∧ h.1 a0 = 300) from by omega) z9.1) 2).trans (es0)
      refine wa_getR B (C := RX11) (T := TX11) (N := 16) iq_X11_joined_X11 ha0 ka0 (by decide) rfl 2 (by decide) (by decide) (by decide +kernel) rfl (fun _ _ _ => rfl) (v := s0) z_14 dX11_joined_76 ?_
      refine wa_aload_n B dX11_joined_79 rfl 1 rfl ?_
      obtain ⟨a_15, ea_15, ha_15, ka_15⟩ := hV_q_11.ref (t := 9) ha0 ka0 11 rfl (by decide)
      refine wa_getR B (C := RX11) (T := TX11) (N := 16) iq_X11_joined_X11 ha0 ka0 (by decide) rfl 11 (by decide) (by decide) (by decide +kernel) rfl (fun _ _ _ => rfl) (v := a_15) ea_15 dX11_joined_80 ?_
      refine wa_aload_n B dX11_joined_83 rfl 1 rfl ?_
      obtain ⟨a_16, ea_16, ha_16, ka_16⟩ := hV_q_11.ref (t := 5) ha0 ka0 8 rfl (by decide)
      refine wa_getR B (C := RX11) (T := TX11) (N := 16) iq_X11_joined_X11 ha0 ka0 (by decide) rfl 8 (by decide) (by decide) (by decide +kernel) rfl (fun _ _ _ => rfl) (v := a_16) ea_16 dX11_joined_84 ?_
      refine wa_callVi B (x := (RX6, TX6, 8)) (As := [.ref s0, .ref a_15, .ref a_16]) (rest := []) (k_X6_read l dC dI h L hN q_11 hV_q_11 (a0 := a_13) ha_13 ka_13 (a1 := s0) hs0 ks0 (a2 := a_15) ha_15 ka_15 (a3 := a_16) ha_16 ka_16  ) (cwV 3 B.1.2.2.2.2 gX11_joined_X6_read rfl rfl rfl (by decide +kernel) ⟨Nat.le_of_ble_eq_true rfl, Nat.le_of_ble_eq_true rfl⟩) ha_13 ka_13 (by decide) rfl rfl rfl (Nat.le_of_ble_eq_true rfl) dX11_joined_87 (fun r_18 q_17 w_19 => ?_)
      obtain ⟨hV_q_17, h2_q_17, hw_19⟩ := w_19
      have hF_q_17 : sx_fr h L (fun a => h.1 a = 6 ∨ h.1 a = 8 ∨ h.1 a = 5 ∨ h.1 a = 2 ∨ h.1 a = 1 ∨ h.1 a = 4 ∨ a = s0 ∧ h.1 a = 7 ∨ a = sb ∧ h.1 a = 300) q q_17 := hF_q_11.tr (h2_q_17.mono (fun a (z : h.1 a = 6 ∨ h.1 a = 8 ∨ h.1 a = 5 ∨ h.1 a = 2 ∨ h.1 a = 1) => (show h.1 a = 6 ∨ h.1 a = 8 ∨ h.1 a = 5 ∨ h.1 a = 2 ∨ h.1 a = 1 ∨ h.1 a = 4 ∨ a = s0 ∧ h.1 a = 7 ∨ a = sb ∧ h.1 a = 300 from by omega)))
      refine wa_istore B [(4, .int r_18), (3, .int v_2), (0, .ref a0), (1, .int n1), (2, .int n2)] dX11_joined_90 (by decide) rfl ?_
      refine wa_iload B dX11_joined_92 0 rfl ?_
      refine wa_if_eq B 109 dX11_joined_94 (by decide) (fun (t_20 : r_18.toInt = 0) => ?_) (fun (t_20 : ¬ r_18.toInt = 0) => ?_)
      · refine wa_aload_n B dX11_joined_109 rfl 2 rfl ?_
        have z_21 : q_17.2.2.1 a0 10 = a_3 := (h2_q_17.R ha0 (show ¬ ((h.1 a0 = 6 ∨ h.1 a0 = 8 ∨ h.1 a0 = 5 ∨ h.1 a0 = 2 ∨ h.1 a0 = 1) ∧ (h.1 a0 = 8 ∨ h.1 a0 = 11)) from fun z9 => (show ¬ (h.1 a0 = 6 ∨ h.1 a0 = 8 ∨ h.1 a0 = 5 ∨ h.1 a0 = 2 ∨ h.1 a0 = 1) from by omega) z9.1) 10).trans ((h2_q_11.R ha0 (show ¬ ((a0 = s0 ∧ h.1 a0 = 7 ∨ a0 = sb ∧ h.1 a0 = 300) ∧ (h.1 a0 = 8 ∨ h.1 a0 = 11)) from fun z9 => (show ¬ (a0 = s0 ∧ h.1 a0 = 7 ∨ a0 = sb ∧ h.1 a0 = 300) from by omega) z9.1) 10).trans (ea_3))
        refine wa_getR B (C := RX11) (T := TX11) (N := 16) iq_X11_joined_X11 ha0 ka0 (by decide) rfl 10 (by decide) (by decide) (by decide +kernel) rfl (fun _ _ _ => rfl) (v := a_3) z_21 dX11_joined_110 ?_
        refine wa_iload_n B dX11_joined_113 rfl 1 rfl ?_
        refine wa_iload B dX11_joined_114 0 rfl ?_
        refine wa_if_eq B 133 dX11_joined_116 (by decide) (fun (t_22 : r_18.toInt = 0) => ?_) (fun (t_22 : ¬ r_18.toInt = 0) => ?_)
        · refine wa_iconst B 1 dX11_joined_133 (by decide) ?_
          refine wa_iastore B ha_3 ka_3 (by decide) (by decide) (show 0 ≤ v_2.toInt by omega) (show v_2.toInt < (h.2.1 a_3 : Int) by omega) dX11_joined_134 (fun q_23 eq_23 => ?_)
          have hV_q_23 : sx_V h L q_23 := by rw [eq_23]; exact hV_q_17.up1 ha_3 ka_3 trivial
          have hF_q_23 : sx_fr h L (fun a => h.1 a = 6 ∨ h.1 a = 8 ∨ h.1 a = 5 ∨ h.1 a = 2 ∨ h.1 a = 1 ∨ h.1 a = 4 ∨ a = s0 ∧ h.1 a = 7 ∨ a = sb ∧ h.1 a = 300) q q_23 := hF_q_17.tr (by rw [eq_23]; exact sx_fr.pG (show h.1 a_3 = 100 ∨ (h.1 a_3 = 6 ∨ h.1 a_3 = 8 ∨ h.1 a_3 = 5 ∨ h.1 a_3 = 2 ∨ h.1 a_3 = 1 ∨ h.1 a_3 = 4 ∨ a_3 = s0 ∧ h.1 a_3 = 7 ∨ a_3 = sb ∧ h.1 a_3 = 300) from by omega))
          have z_24 : q_23.2.2.2.1 a_3 (v_2 : Int32).toNatClampNeg = 1 := by rw [eq_23, sg_pG_e]; exact if_pos rfl
          refine wa_aload_n B dX11_joined_135 rfl 2 rfl ?_
          have z_25 : q_23.2.2.1 a0 10 = a_3 := ((show q_23.2.2.1 a0 10 = q_17.2.2.1 a0 10 from by rw [eq_23]; rfl)).trans (z_21)
          refine wa_getR B (C := RX11) (T := TX11) (N := 16) iq_X11_joined_X11 ha0 ka0 (by decide) rfl 10 (by decide) (by decide) (by decide +kernel) rfl (fun _ _ _ => rfl) (v := a_3) z_25 dX11_joined_136 ?_
          refine wa_iload_n B dX11_joined_139 rfl 1 rfl ?_
          refine wa_iaload B ha_3 ka_3 (by decide) (by decide) (show 0 ≤ v_2.toInt by omega) (show v_2.toInt < (h.2.1 a_3 : Int) by omega) (v := 1) z_24 dX11_joined_140 ?_
          exact hret _ _ _ _ dX11_joined_141 ⟨hV_q_23, hF_q_23⟩
        · refine wa_aload_n B dX11_joined_119 rfl 2 rfl ?_
          have z_26 : q_17.2.2.1 a0 8 = a_16 := (h2_q_17.R ha0 (show ¬ ((h.1 a0 = 6 ∨ h.1 a0 = 8 ∨ h.1 a0 = 5 ∨ h.1 a0 = 2 ∨ h.1 a0 = 1) ∧ (h.1 a0 = 8 ∨ h.1 a0 = 11)) from fun z9 => (show ¬ (h.1 a0 = 6 ∨ h.1 a0 = 8 ∨ h.1 a0 = 5 ∨ h.1 a0 = 2 ∨ h.1 a0 = 1) from by omega) z9.1) 8).trans (ea_16)
          refine wa_getR B (C := RX11) (T := TX11) (N := 16) iq_X11_joined_X11 ha0 ka0 (by decide) rfl 8 (by decide) (by decide) (by decide +kernel) rfl (fun _ _ _ => rfl) (v := a_16) z_26 dX11_joined_120 ?_
          refine wa_getI B (C := RX5) (T := TX5) (N := 7) iq_X11_joined_X5 ha_16 ka_16 (by decide) rfl 5 (by decide) (by decide) (by decide +kernel) rfl (by decide) (v := (q_17.1 a_16 5)) rfl dX11_joined_123 ?_
          refine wa_if_le B 133 dX11_joined_126 (by decide) (fun (t_27 : (q_17.1 a_16 5).toInt ≤ 0) => ?_) (fun (t_27 : ¬ (q_17.1 a_16 5).toInt ≤ 0) => ?_)
          · refine wa_iconst B 1 dX11_joined_133 (by decide) ?_
            refine wa_iastore B ha_3 ka_3 (by decide) (by decide) (show 0 ≤ v_2.toInt by omega) (show v_2.toInt < (h.2.1 a_3 : Int) by omega) dX11_joined_134 (fun q_28 eq_28 => ?_)
            have hV_q_28 : sx_V h L q_28 := by rw [eq_28]; exact hV_q_17.up1 ha_3 ka_3 trivial
            have hF_q_28 : sx_fr h L (fun a => h.1 a = 6 ∨ h.1 a = 8 ∨ h.1 a = 5 ∨ h.1 a = 2 ∨ h.1 a = 1 ∨ h.1 a = 4 ∨ a = s0 ∧ h.1 a = 7 ∨ a = sb ∧ h.1 a = 300) q q_28 := hF_q_17.tr (by rw [eq_28]; exact sx_fr.pG (show h.1 a_3 = 100 ∨ (h.1 a_3 = 6 ∨ h.1 a_3 = 8 ∨ h.1 a_3 = 5 ∨ h.1 a_3 = 2 ∨ h.1 a_3 = 1 ∨ h.1 a_3 = 4 ∨ a_3 = s0 ∧ h.1 a_3 = 7 ∨ a_3 = sb ∧ h.1 a_3 = 300) from by omega))
            have z_29 : q_28.2.2.2.1 a_3 (v_2 : Int32).toNatClampNeg = 1 := by rw [eq_28, sg_pG_e]; exact if_pos rfl
            refine wa_aload_n B dX11_joined_135 rfl 2 rfl ?_
            have z_30 : q_28.2.2.1 a0 10 = a_3 := ((show q_28.2.2.1 a0 10 = q_17.2.2.1 a0 10 from by rw [eq_28]; rfl)).trans (z_21)
            refine wa_getR B (C := RX11) (T := TX11) (N := 16) iq_X11_joined_X11 ha0 ka0 (by decide) rfl 10 (by decide) (by decide) (by decide +kernel) rfl (fun _ _ _ => rfl) (v := a_3) z_30 dX11_joined_136 ?_
            refine wa_iload_n B dX11_joined_139 rfl 1 rfl ?_
            refine wa_iaload B ha_3 ka_3 (by decide) (by decide) (show 0 ≤ v_2.toInt by omega) (show v_2.toInt < (h.2.1 a_3 : Int) by omega) (v := 1) z_29 dX11_joined_140 ?_
            exact hret _ _ _ _ dX11_joined_141 ⟨hV_q_28, hF_q_28⟩
          · refine wa_iconst B 2 dX11_joined_129 (by decide) ?_
            refine wa_goto B 134 dX11_joined_130 (by decide) ?_
            refine wa_iastore B ha_3 ka_3 (by decide) (by decide) (show 0 ≤ v_2.toInt by omega) (show v_2.toInt < (h.2.1 a_3 : Int) by omega) dX11_joined_134 (fun q_31 eq_31 => ?_)
            have hV_q_31 : sx_V h L q_31 := by rw [eq_31]; exact hV_q_17.up1 ha_3 ka_3 trivial
            have hF_q_31 : sx_fr h L (fun a => h.1 a = 6 ∨ h.1 a = 8 ∨ h.1 a = 5 ∨ h.1 a = 2 ∨ h.1 a = 1 ∨ h.1 a = 4 ∨ a = s0 ∧ h.1 a = 7 ∨ a = sb ∧ h.1 a = 300) q q_31 := hF_q_17.tr (by rw [eq_31]; exact sx_fr.pG (show h.1 a_3 = 100 ∨ (h.1 a_3 = 6 ∨ h.1 a_3 = 8 ∨ h.1 a_3 = 5 ∨ h.1 a_3 = 2 ∨ h.1 a_3 = 1 ∨ h.1 a_3 = 4 ∨ a_3 = s0 ∧ h.1 a_3 = 7 ∨ a_3 = sb ∧ h.1 a_3 = 300) from by omega))
            have z_32 : q_31.2.2.2.1 a_3 (v_2 : Int32).toNatClampNeg = 2 := by rw [eq_31, sg_pG_e]; exact if_pos rfl
            refine wa_aload_n B dX11_joined_135 rfl 2 rfl ?_
            have z_33 : q_31.2.2.1 a0 10 = a_3 := ((show q_31.2.2.1 a0 10 = q_17.2.2.1 a0 10 from by rw [eq_31]; rfl)).trans (z_21)
            refine wa_getR B (C := RX11) (T := TX11) (N := 16) iq_X11_joined_X11 ha0 ka0 (by decide) rfl 10 (by decide) (by decide) (by decide +kernel) rfl (fun _ _ _ => rfl) (v := a_3) z_33 dX11_joined_136 ?_
            refine wa_iload_n B dX11_joined_139 rfl 1 rfl ?_
            refine wa_iaload B ha_3 ka_3 (by decide) (by decide) (show 0 ≤ v_2.toInt by omega) (show v_2.toInt < (h.2.1 a_3 : Int) by omega) (v := 2) z_32 dX11_joined_140 ?_
            exact hret _ _ _ _ dX11_joined_141 ⟨hV_q_31, hF_q_31⟩
      · refine wa_aload_n B dX11_joined_97 rfl 2 rfl ?_
        obtain ⟨a_34, ea_34, ha_34, ka_34⟩ := hV_q_17.ref (t := 4) ha0 ka0 5 rfl (by decide)
        refine wa_getR B (C := RX11) (T := TX11) (N := 16) iq_X11_joined_X11 ha0 ka0 (by decide) rfl 5 (by decide) (by decide) (by decide +kernel) rfl (fun _ _ _ => rfl) (v := a_34) ea_34 dX11_joined_98 ?_
        refine wa_aload_n B dX11_joined_101 rfl 2 rfl ?_
        have z_35 : q_17.2.2.1 a0 8 = a_16 := (h2_q_17.R ha0 (show ¬ ((h.1 a0 = 6 ∨ h.1 a0 = 8 ∨ h.1 a0 = 5 ∨ h.1 a0 = 2 ∨ h.1 a0 = 1) ∧ (h.1 a0 = 8 ∨ h.1 a0 = 11)) from fun z9 => (show ¬ (h.1 a0 = 6 ∨ h.1 a0 = 8 ∨ h.1 a0 = 5 ∨ h.1 a0 = 2 ∨ h.1 a0 = 1) from by omega) z9.1) 8).trans (ea_16)
        refine wa_getR B (C := RX11) (T := TX11) (N := 16) iq_X11_joined_X11 ha0 ka0 (by decide) rfl 8 (by decide) (by decide) (by decide +kernel) rfl (fun _ _ _ => rfl) (v := a_16) z_35 dX11_joined_102 ?_
        refine wa_iconst B 1 dX11_joined_105 (by decide) ?_
        refine wa_callVv B (x := (RX4, TX4, 7)) (As := [.ref a_16, .int 1]) (rest := []) (k_X4_solve l dC dI h L hN q_17 hV_q_17 (a0 := a_34) ha_34 ka_34 (a1 := a_16) ha_16 ka_16 1  (by first | assumption | omega | decide)) (cwV 2 B.1.2.2.2.2 gX11_joined_X4_solve rfl rfl rfl (by decide +kernel) ⟨Nat.le_of_ble_eq_true rfl, Nat.le_of_ble_eq_true rfl⟩) ha_34 ka_34 (by decide) rfl rfl rfl (Nat.le_of_ble_eq_true rfl) dX11_joined_106 (fun q_36 w_37 => ?_)
        obtain ⟨hV_q_36, h2_q_36⟩ := w_37
        have hF_q_36 : sx_fr h L (fun a => h.1 a = 6 ∨ h.1 a = 8 ∨ h.1 a = 5 ∨ h.1 a = 2 ∨ h.1 a = 1 ∨ h.1 a = 4 ∨ a = s0 ∧ h.1 a = 7 ∨ a = sb ∧ h.1 a = 300) q q_36 := hF_q_17.tr (h2_q_36.mono (fun a (z : a = a_34 ∧ h.1 a = 4 ∨ a = a_16 ∧ h.1 a = 5 ∨ h.1 a = 1 ∨ h.1 a = 2) => (show h.1 a = 6 ∨ h.1 a = 8 ∨ h.1 a = 5 ∨ h.1 a = 2 ∨ h.1 a = 1 ∨ h.1 a = 4 ∨ a = s0 ∧ h.1 a = 7 ∨ a = sb ∧ h.1 a = 300 from by omega)))
        refine wa_aload_n B dX11_joined_109 rfl 2 rfl ?_
        have z_38 : q_36.2.2.1 a0 10 = a_3 := (h2_q_36.R ha0 (show ¬ ((a0 = a_34 ∧ h.1 a0 = 4 ∨ a0 = a_16 ∧ h.1 a0 = 5 ∨ h.1 a0 = 1 ∨ h.1 a0 = 2) ∧ (h.1 a0 = 8 ∨ h.1 a0 = 11)) from fun z9 => (show ¬ (a0 = a_34 ∧ h.1 a0 = 4 ∨ a0 = a_16 ∧ h.1 a0 = 5 ∨ h.1 a0 = 1 ∨ h.1 a0 = 2) from by omega) z9.1) 10).trans ((h2_q_17.R ha0 (show ¬ ((h.1 a0 = 6 ∨ h.1 a0 = 8 ∨ h.1 a0 = 5 ∨ h.1 a0 = 2 ∨ h.1 a0 = 1) ∧ (h.1 a0 = 8 ∨ h.1 a0 = 11)) from fun z9 => (show ¬ (h.1 a0 = 6 ∨ h.1 a0 = 8 ∨ h.1 a0 = 5 ∨ h.1 a0 = 2 ∨ h.1 a0 = 1) from by omega) z9.1) 10).trans ((h2_q_11.R ha0 (show ¬ ((a0 = s0 ∧ h.1 a0 = 7 ∨ a0 = sb ∧ h.1 a0 = 300) ∧ (h.1 a0 = 8 ∨ h.1 a0 = 11)) from fun z9 => (show ¬ (a0 = s0 ∧ h.1 a0 = 7 ∨ a0 = sb ∧ h.1 a0 = 300) from by omega) z9.1) 10).trans (ea_3)))
        refine wa_getR B (C := RX11) (T := TX11) (N := 16) iq_X11_joined_X11 ha0 ka0 (by decide) rfl 10 (by decide) (by decide) (by decide +kernel) rfl (fun _ _ _ => rfl) (v := a_3) z_38 dX11_joined_110 ?_
        refine wa_iload_n B dX11_joined_113 rfl 1 rfl ?_
        refine wa_iload B dX11_joined_114 0 rfl ?_
        refine wa_if_eq B 133 dX11_joined_116 (by decide) (fun (t_39 : r_18.toInt = 0) => ?_) (fun (t_39 : ¬ r_18.toInt = 0) => ?_)
        · refine wa_iconst B 1 dX11_joined_133 (by decide) ?_
          refine wa_iastore B ha_3 ka_3 (by decide) (by decide) (show 0 ≤ v_2.toInt by omega) (show v_2.toInt < (h.2.1 a_3 : Int) by omega) dX11_joined_134 (fun q_40 eq_40 => ?_)
          have hV_q_40 : sx_V h L q_40 := by rw [eq_40]; exact hV_q_36.up1 ha_3 ka_3 trivial
          have hF_q_40 : sx_fr h L (fun a => h.1 a = 6 ∨ h.1 a = 8 ∨ h.1 a = 5 ∨ h.1 a = 2 ∨ h.1 a = 1 ∨ h.1 a = 4 ∨ a = s0 ∧ h.1 a = 7 ∨ a = sb ∧ h.1 a = 300) q q_40 := hF_q_36.tr (by rw [eq_40]; exact sx_fr.pG (show h.1 a_3 = 100 ∨ (h.1 a_3 = 6 ∨ h.1 a_3 = 8 ∨ h.1 a_3 = 5 ∨ h.1 a_3 = 2 ∨ h.1 a_3 = 1 ∨ h.1 a_3 = 4 ∨ a_3 = s0 ∧ h.1 a_3 = 7 ∨ a_3 = sb ∧ h.1 a_3 = 300) from by omega))
          have z_41 : q_40.2.2.2.1 a_3 (v_2 : Int32).toNatClampNeg = 1 := by rw [eq_40, sg_pG_e]; exact if_pos rfl
          refine wa_aload_n B dX11_joined_135 rfl 2 rfl ?_
          have z_42 : q_40.2.2.1 a0 10 = a_3 := ((show q_40.2.2.1 a0 10 = q_36.2.2.1 a0 10 from by rw [eq_40]; rfl)).trans (z_38)
          refine wa_getR B (C := RX11) (T := TX11) (N := 16) iq_X11_joined_X11 ha0 ka0 (by decide) rfl 10 (by decide) (by decide) (by decide +kernel) rfl (fun _ _ _ => rfl) (v := a_3) z_42 dX11_joined_136 ?_
          refine wa_iload_n B dX11_joined_139 rfl 1 rfl ?_
          refine wa_iaload B ha_3 ka_3 (by decide) (by decide) (show 0 ≤ v_2.toInt by omega) (show v_2.toInt < (h.2.1 a_3 : Int) by omega) (v := 1) z_41 dX11_joined_140 ?_
          exact hret _ _ _ _ dX11_joined_141 ⟨hV_q_40, hF_q_40⟩
        · refine wa_aload_n B dX11_joined_119 rfl 2 rfl ?_
          have z_43 : q_36.2.2.1 a0 8 = a_16 := (h2_q_36.R ha0 (show ¬ ((a0 = a_34 ∧ h.1 a0 = 4 ∨ a0 = a_16 ∧ h.1 a0 = 5 ∨ h.1 a0 = 1 ∨ h.1 a0 = 2) ∧ (h.1 a0 = 8 ∨ h.1 a0 = 11)) from fun z9 => (show ¬ (a0 = a_34 ∧ h.1 a0 = 4 ∨ a0 = a_16 ∧ h.1 a0 = 5 ∨ h.1 a0 = 1 ∨ h.1 a0 = 2) from by omega) z9.1) 8).trans (z_35)
          refine wa_getR B (C := RX11) (T := TX11) (N := 16) iq_X11_joined_X11 ha0 ka0 (by decide) rfl 8 (by decide) (by decide) (by decide +kernel) rfl (fun _ _ _ => rfl) (v := a_16) z_43 dX11_joined_120 ?_
          refine wa_getI B (C := RX5) (T := TX5) (N := 7) iq_X11_joined_X5 ha_16 ka_16 (by decide) rfl 5 (by decide) (by decide) (by decide +kernel) rfl (by decide) (v := (q_36.1 a_16 5)) rfl dX11_joined_123 ?_
          refine wa_if_le B 133 dX11_joined_126 (by decide) (fun (t_44 : (q_36.1 a_16 5).toInt ≤ 0) => ?_) (fun (t_44 : ¬ (q_36.1 a_16 5).toInt ≤ 0) => ?_)
          · refine wa_iconst B 1 dX11_joined_133 (by decide) ?_
            refine wa_iastore B ha_3 ka_3 (by decide) (by decide) (show 0 ≤ v_2.toInt by omega) (show v_2.toInt < (h.2.1 a_3 : Int) by omega) dX11_joined_134 (fun q_45 eq_45 => ?_)
            have hV_q_45 : sx_V h L q_45 := by rw [eq_45]; exact hV_q_36.up1 ha_3 ka_3 trivial
            have hF_q_45 : sx_fr h L (fun a => h.1 a = 6 ∨ h.1 a = 8 ∨ h.1 a = 5 ∨ h.1 a = 2 ∨ h.1 a = 1 ∨ h.1 a = 4 ∨ a = s0 ∧ h.1 a = 7 ∨ a = sb ∧ h.1 a = 300) q q_45 := hF_q_36.tr (by rw [eq_45]; exact sx_fr.pG (show h.1 a_3 = 100 ∨ (h.1 a_3 = 6 ∨ h.1 a_3 = 8 ∨ h.1 a_3 = 5 ∨ h.1 a_3 = 2 ∨ h.1 a_3 = 1 ∨ h.1 a_3 = 4 ∨ a_3 = s0 ∧ h.1 a_3 = 7 ∨ a_3 = sb ∧ h.1 a_3 = 300) from by omega))
            have z_46 : q_45.2.2.2.1 a_3 (v_2 : Int32).toNatClampNeg = 1 := by rw [eq_45, sg_pG_e]; exact if_pos rfl
            refine wa_aload_n B dX11_joined_135 rfl 2 rfl ?_
            have z_47 : q_45.2.2.1 a0 10 = a_3 := ((show q_45.2.2.1 a0 10 = q_36.2.2.1 a0 10 from by rw [eq_45]; rfl)).trans (z_38)
            refine wa_getR B (C := RX11) (T := TX11) (N := 16) iq_X11_joined_X11 ha0 ka0 (by decide) rfl 10 (by decide) (by decide) (by decide +kernel) rfl (fun _ _ _ => rfl) (v := a_3) z_47 dX11_joined_136 ?_
            refine wa_iload_n B dX11_joined_139 rfl 1 rfl ?_
            refine wa_iaload B ha_3 ka_3 (by decide) (by decide) (show 0 ≤ v_2.toInt by omega) (show v_2.toInt < (h.2.1 a_3 : Int) by omega) (v := 1) z_46 dX11_joined_140 ?_
            exact hret _ _ _ _ dX11_joined_141 ⟨hV_q_45, hF_q_45⟩
          · refine wa_iconst B 2 dX11_joined_129 (by decide) ?_
            refine wa_goto B 134 dX11_joined_130 (by decide) ?_
            refine wa_iastore B ha_3 ka_3 (by decide) (by decide) (show 0 ≤ v_2.toInt by omega) (show v_2.toInt < (h.2.1 a_3 : Int) by omega) dX11_joined_134 (fun q_48 eq_48 => ?_)
            have hV_q_48 : sx_V h L q_48 := by rw [eq_48]; exact hV_q_36.up1 ha_3 ka_3 trivial
            have hF_q_48 : sx_fr h L (fun a => h.1 a = 6 ∨ h.1 a = 8 ∨ h.1 a = 5 ∨ h.1 a = 2 ∨ h.1 a = 1 ∨ h.1 a = 4 ∨ a = s0 ∧ h.1 a = 7 ∨ a = sb ∧ h.1 a = 300) q q_48 := hF_q_36.tr (by rw [eq_48]; exact sx_fr.pG (show h.1 a_3 = 100 ∨ (h.1 a_3 = 6 ∨ h.1 a_3 = 8 ∨ h.1 a_3 = 5 ∨ h.1 a_3 = 2 ∨ h.1 a_3 = 1 ∨ h.1 a_3 = 4 ∨ a_3 = s0 ∧ h.1 a_3 = 7 ∨ a_3 = sb ∧ h.1 a_3 = 300) from by omega))
            have z_49 : q_48.2.2.2.1 a_3 (v_2 : Int32).toNatClampNeg = 2 := by rw [eq_48, sg_pG_e]; exact if_pos rfl
            refine wa_aload_n B dX11_joined_135 rfl 2 rfl ?_
            have z_50 : q_48.2.2.1 a0 10 = a_3 := ((show q_48.2.2.1 a0 10 = q_36.2.2.1 a0 10 from by rw [eq_48]; rfl)).trans (z_38)
            refine wa_getR B (C := RX11) (T := TX11) (N := 16) iq_X11_joined_X11 ha0 ka0 (by decide) rfl 10 (by decide) (by decide) (by decide +kernel) rfl (fun _ _ _ => rfl) (v := a_3) z_50 dX11_joined_136 ?_
            refine wa_iload_n B dX11_joined_139 rfl 1 rfl ?_
            refine wa_iaload B ha_3 ka_3 (by decide) (by decide) (show 0 ≤ v_2.toInt by omega) (show v_2.toInt < (h.2.1 a_3 : Int) by omega) (v := 2) z_49 dX11_joined_140 ?_
            exact hret _ _ _ _ dX11_joined_141 ⟨hV_q_48, hF_q_48⟩
  · refine wa_aload_n B dX11_joined_17 rfl 1 rfl ?_
    obtain ⟨a_51, ea_51, ha_51, ka_51, la_51⟩ := hV.refn (n := 12) (t := 403) ha0 ka0 9 rfl (by decide) rfl (by decide)
    refine wa_getR B (C := RX11) (T := TX11) (N := 16) iq_X11_joined_X11 ha0 ka0 (by decide) rfl 9 (by decide) (by decide) (by decide +kernel) rfl (fun _ _ _ => rfl) (v := a_51) ea_51 dX11_joined_18 ?_
    refine wa_iload_n B dX11_joined_21 rfl 2 rfl ?_
    obtain ⟨a_52, ea_52, ha_52, ka_52⟩ := hV.elem (t := 0) ha_51 ka_51 (by decide) rfl (zx_ix (i := n1) (show 0 ≤ n1.toInt by omega) (show n1.toInt < (h.2.1 a_51 : Int) by omega))
    refine wa_aaload B (t0 := 6) ha_51 ka_51 (by decide) rfl (show 0 ≤ n1.toInt by omega) (show n1.toInt < (h.2.1 a_51 : Int) by omega) (v := a_52) ea_52 dX11_joined_22 ?_
    refine wa_aload_n B dX11_joined_23 rfl 1 rfl ?_
    refine wa_getR B (C := RX11) (T := TX11) (N := 16) iq_X11_joined_X11 ha0 ka0 (by decide) rfl 9 (by decide) (by decide) (by decide +kernel) rfl (fun _ _ _ => rfl) (v := a_51) ea_51 dX11_joined_24 ?_
    refine wa_iload_n B dX11_joined_27 rfl 3 rfl ?_
    obtain ⟨a_53, ea_53, ha_53, ka_53⟩ := hV.elem (t := 0) ha_51 ka_51 (by decide) rfl (zx_ix (i := n2) (show 0 ≤ n2.toInt by omega) (show n2.toInt < (h.2.1 a_51 : Int) by omega))
    refine wa_aaload B (t0 := 6) ha_51 ka_51 (by decide) rfl (show 0 ≤ n2.toInt by omega) (show n2.toInt < (h.2.1 a_51 : Int) by omega) (v := a_53) ea_53 dX11_joined_28 ?_
    refine wa_callVi B (x := (RX0, TX0, 4)) (As := [.ref a_53]) (rest := []) (k_X0_goesLeftOf l dC dI h L hN q hV (a0 := a_52) ha_52 ka_52 (a1 := a_53) ha_53 ka_53  ) (cwV 1 B.1.2.2.2.2 gX11_joined_X0_goesLeftOf rfl rfl rfl (by decide +kernel) ⟨Nat.le_of_ble_eq_true rfl, Nat.le_of_ble_eq_true rfl⟩) ha_52 ka_52 (by decide) rfl rfl rfl (Nat.le_of_ble_eq_true rfl) dX11_joined_29 (fun r_55 q_54 w_56 => ?_)
    obtain ⟨ew_56, hw_56⟩ := w_56
    subst ew_56
    refine wa_if_ne B 42 dX11_joined_32 (by decide) (fun (t_57 : ¬ r_55.toInt = 0) => ?_) (fun (t_57 : r_55.toInt = 0) => ?_)
    · refine wa_aload_n B dX11_joined_42 rfl 1 rfl ?_
      refine wa_getR B (C := RX11) (T := TX11) (N := 16) iq_X11_joined_X11 ha0 ka0 (by decide) rfl 10 (by decide) (by decide) (by decide +kernel) rfl (fun _ _ _ => rfl) (v := a_3) ea_3 dX11_joined_43 ?_
      refine wa_iload_n B dX11_joined_46 rfl 0 rfl ?_
      refine wa_iaload B ha_3 ka_3 (by decide) (by decide) (show 0 ≤ v_2.toInt by omega) (show v_2.toInt < (h.2.1 a_3 : Int) by omega) (v := (q.2.2.2.1 a_3 (v_2 : Int32).toNatClampNeg)) rfl dX11_joined_47 ?_
      refine wa_iconst B (-1) dX11_joined_48 (by decide) ?_
      refine wa_icmp_ne B 135 dX11_joined_49 (by decide) (fun (t_58 : ¬ ((q.2.2.2.1 a_3 (v_2 : Int32).toNatClampNeg)).toInt = (-1)) => ?_) (fun (t_58 : ((q.2.2.2.1 a_3 (v_2 : Int32).toNatClampNeg)).toInt = (-1)) => ?_)
      · refine wa_aload_n B dX11_joined_135 rfl 1 rfl ?_
        refine wa_getR B (C := RX11) (T := TX11) (N := 16) iq_X11_joined_X11 ha0 ka0 (by decide) rfl 10 (by decide) (by decide) (by decide +kernel) rfl (fun _ _ _ => rfl) (v := a_3) ea_3 dX11_joined_136 ?_
        refine wa_iload_n B dX11_joined_139 rfl 0 rfl ?_
        refine wa_iaload B ha_3 ka_3 (by decide) (by decide) (show 0 ≤ v_2.toInt by omega) (show v_2.toInt < (h.2.1 a_3 : Int) by omega) (v := (q.2.2.2.1 a_3 (v_2 : Int32).toNatClampNeg)) rfl dX11_joined_140 ?_
        exact hret _ _ _ _ dX11_joined_141 ⟨hV, hF⟩
      · refine wa_aload_n B dX11_joined_52 rfl 1 rfl ?_
        refine wa_getR B (C := RX11) (T := TX11) (N := 16) iq_X11_joined_X11 ha0 ka0 (by decide) rfl 9 (by decide) (by decide) (by decide +kernel) rfl (fun _ _ _ => rfl) (v := a_51) ea_51 dX11_joined_53 ?_
        refine wa_iload_n B dX11_joined_56 rfl 2 rfl ?_
        refine wa_aaload B (t0 := 6) ha_51 ka_51 (by decide) rfl (show 0 ≤ n1.toInt by omega) (show n1.toInt < (h.2.1 a_51 : Int) by omega) (v := a_52) ea_52 dX11_joined_57 ?_
        refine wa_aload_n B dX11_joined_58 rfl 1 rfl ?_
        refine wa_getR B (C := RX11) (T := TX11) (N := 16) iq_X11_joined_X11 ha0 ka0 (by decide) rfl 9 (by decide) (by decide) (by decide +kernel) rfl (fun _ _ _ => rfl) (v := a_51) ea_51 dX11_joined_59 ?_
        refine wa_iload_n B dX11_joined_62 rfl 3 rfl ?_
        refine wa_aaload B (t0 := 6) ha_51 ka_51 (by decide) rfl (show 0 ≤ n2.toInt by omega) (show n2.toInt < (h.2.1 a_51 : Int) by omega) (v := a_53) ea_53 dX11_joined_63 ?_
        refine wa_aload_n B dX11_joined_64 rfl 1 rfl ?_
        refine wa_getR B (C := RX11) (T := TX11) (N := 16) iq_X11_joined_X11 ha0 ka0 (by decide) rfl 2 (by decide) (by decide) (by decide +kernel) rfl (fun _ _ _ => rfl) (v := s0) es0 dX11_joined_65 ?_
        obtain ⟨a_59, ea_59, ha_59, ka_59, la_59⟩ := hV.refn (n := 4) (t := 7) ha_52 ka_52 0 rfl (by decide) rfl (by decide)
        have ns0_a_59 : ¬ s0 = a_59 := fun z9 => absurd (z9 ▸ ls0 : h.2.1 a_59 = 3) (by rw [la_59]; decide)
        obtain ⟨a_60, ea_60, ha_60, ka_60, la_60⟩ := hV.refn (n := 4) (t := 7) ha_53 ka_53 0 rfl (by decide) rfl (by decide)
        have ns0_a_60 : ¬ s0 = a_60 := fun z9 => absurd (z9 ▸ ls0 : h.2.1 a_60 = 3) (by rw [la_60]; decide)
        refine wa_callVv B (x := (RX0, TX0, 4)) (As := [.ref a_53, .ref s0]) (rest := []) (k_X0_sayWith l dC dI h L hN q hV (a0 := a_52) ha_52 ka_52 (a1 := a_53) ha_53 ka_53 (a2 := s0) hs0 ks0 (t0 := a_59) ea_59 (t1 := a_60) ea_60 (b0 := sb) esb (by omega) (by omega)  ) (cwV 2 B.1.2.2.2.2 gX11_joined_X0_sayWith rfl rfl rfl (by decide +kernel) ⟨Nat.le_of_ble_eq_true rfl, Nat.le_of_ble_eq_true rfl⟩) ha_52 ka_52 (by decide) rfl rfl rfl (Nat.le_of_ble_eq_true rfl) dX11_joined_68 (fun q_61 w_62 => ?_)
        obtain ⟨hV_q_61, h2_q_61⟩ := w_62
        have hF_q_61 : sx_fr h L (fun a => h.1 a = 6 ∨ h.1 a = 8 ∨ h.1 a = 5 ∨ h.1 a = 2 ∨ h.1 a = 1 ∨ h.1 a = 4 ∨ a = s0 ∧ h.1 a = 7 ∨ a = sb ∧ h.1 a = 300) q q_61 := hF.tr (h2_q_61.mono (fun a (z : a = s0 ∧ h.1 a = 7 ∨ a = sb ∧ h.1 a = 300) => (show h.1 a = 6 ∨ h.1 a = 8 ∨ h.1 a = 5 ∨ h.1 a = 2 ∨ h.1 a = 1 ∨ h.1 a = 4 ∨ a = s0 ∧ h.1 a = 7 ∨ a = sb ∧ h.1 a = 300 from by omega)))
        refine wa_aload_n B dX11_joined_71 rfl 1 rfl ?_
        obtain ⟨a_63, ea_63, ha_63, ka_63⟩ := hV_q_61.ref (t := 6) ha0 ka0 4 rfl (by decide)
        refine wa_getR B (C := RX11) (T := TX11) (N := 16) iq_X11_joined_X11 ha0 ka0 (by decide) rfl 4 (by decide) (by decide) (by decide +kernel) rfl (fun _ _ _ => rfl) (v := a_63) ea_63 dX11_joined_72 ?_
        refine wa_aload_n B dX11_joined_75 rfl 1 rfl ?_
        have z_64 : q_61.2.2.1 a0 2 = s0 := (h2_q_61.R ha0 (show ¬ ((a0 = s0 ∧ h.1 a0 = 7 ∨ a0 = sb ∧ h.1 a0 = 300) ∧ (h.1 a0 = 8 ∨ h.1 a0 = 11)) from fun z9 => (show ¬ (a0 = s0 ∧ h.1 a0 = 7 ∨ a0 = sb ∧ h.1 a0 = 300) from by omega) z9.1) 2).trans (es0)
        refine wa_getR B (C := RX11) (T := TX11) (N := 16) iq_X11_joined_X11 ha0 ka0 (by decide) rfl 2 (by decide) (by decide) (by decide +kernel) rfl (fun _ _ _ => rfl) (v := s0) z_64 dX11_joined_76 ?_
        refine wa_aload_n B dX11_joined_79 rfl 1 rfl ?_
        obtain ⟨a_65, ea_65, ha_65, ka_65⟩ := hV_q_61.ref (t := 9) ha0 ka0 11 rfl (by decide)
        refine wa_getR B (C := RX11) (T := TX11) (N := 16) iq_X11_joined_X11 ha0 ka0 (by decide) rfl 11 (by decide) (by decide) (by decide +kernel) rfl (fun _ _ _ => rfl) (v := a_65) ea_65 dX11_joined_80 ?_
        refine wa_aload_n B dX11_joined_83 rfl 1 rfl ?_
        obtain ⟨a_66, ea_66, ha_66, ka_66⟩ := hV_q_61.ref (t := 5) ha0 ka0 8 rfl (by decide)
        refine wa_getR B (C := RX11) (T := TX11) (N := 16) iq_X11_joined_X11 ha0 ka0 (by decide) rfl 8 (by decide) (by decide) (by decide +kernel) rfl (fun _ _ _ => rfl) (v := a_66) ea_66 dX11_joined_84 ?_
        refine wa_callVi B (x := (RX6, TX6, 8)) (As := [.ref s0, .ref a_65, .ref a_66]) (rest := []) (k_X6_read l dC dI h L hN q_61 hV_q_61 (a0 := a_63) ha_63 ka_63 (a1 := s0) hs0 ks0 (a2 := a_65) ha_65 ka_65 (a3 := a_66) ha_66 ka_66  ) (cwV 3 B.1.2.2.2.2 gX11_joined_X6_read rfl rfl rfl (by decide +kernel) ⟨Nat.le_of_ble_eq_true rfl, Nat.le_of_ble_eq_true rfl⟩) ha_63 ka_63 (by decide) rfl rfl rfl (Nat.le_of_ble_eq_true rfl) dX11_joined_87 (fun r_68 q_67 w_69 => ?_)
        obtain ⟨hV_q_67, h2_q_67, hw_69⟩ := w_69
        have hF_q_67 : sx_fr h L (fun a => h.1 a = 6 ∨ h.1 a = 8 ∨ h.1 a = 5 ∨ h.1 a = 2 ∨ h.1 a = 1 ∨ h.1 a = 4 ∨ a = s0 ∧ h.1 a = 7 ∨ a = sb ∧ h.1 a = 300) q q_67 := hF_q_61.tr (h2_q_67.mono (fun a (z : h.1 a = 6 ∨ h.1 a = 8 ∨ h.1 a = 5 ∨ h.1 a = 2 ∨ h.1 a = 1) => (show h.1 a = 6 ∨ h.1 a = 8 ∨ h.1 a = 5 ∨ h.1 a = 2 ∨ h.1 a = 1 ∨ h.1 a = 4 ∨ a = s0 ∧ h.1 a = 7 ∨ a = sb ∧ h.1 a = 300 from by omega)))
        refine wa_istore B [(4, .int r_68), (3, .int v_2), (0, .ref a0), (1, .int n1), (2, .int n2)] dX11_joined_90 (by decide) rfl ?_
        refine wa_iload B dX11_joined_92 0 rfl ?_
        refine wa_if_eq B 109 dX11_joined_94 (by decide) (fun (t_70 : r_68.toInt = 0) => ?_) (fun (t_70 : ¬ r_68.toInt = 0) => ?_)
        · refine wa_aload_n B dX11_joined_109 rfl 2 rfl ?_
          have z_71 : q_67.2.2.1 a0 10 = a_3 := (h2_q_67.R ha0 (show ¬ ((h.1 a0 = 6 ∨ h.1 a0 = 8 ∨ h.1 a0 = 5 ∨ h.1 a0 = 2 ∨ h.1 a0 = 1) ∧ (h.1 a0 = 8 ∨ h.1 a0 = 11)) from fun z9 => (show ¬ (h.1 a0 = 6 ∨ h.1 a0 = 8 ∨ h.1 a0 = 5 ∨ h.1 a0 = 2 ∨ h.1 a0 = 1) from by omega) z9.1) 10).trans ((h2_q_61.R ha0 (show ¬ ((a0 = s0 ∧ h.1 a0 = 7 ∨ a0 = sb ∧ h.1 a0 = 300) ∧ (h.1 a0 = 8 ∨ h.1 a0 = 11)) from fun z9 => (show ¬ (a0 = s0 ∧ h.1 a0 = 7 ∨ a0 = sb ∧ h.1 a0 = 300) from by omega) z9.1) 10).trans (ea_3))
          refine wa_getR B (C := RX11) (T := TX11) (N := 16) iq_X11_joined_X11 ha0 ka0 (by decide) rfl 10 (by decide) (by decide) (by decide +kernel) rfl (fun _ _ _ => rfl) (v := a_3) z_71 dX11_joined_110 ?_
          refine wa_iload_n B dX11_joined_113 rfl 1 rfl ?_
          refine wa_iload B dX11_joined_114 0 rfl ?_
          refine wa_if_eq B 133 dX11_joined_116 (by decide) (fun (t_72 : r_68.toInt = 0) => ?_) (fun (t_72 : ¬ r_68.toInt = 0) => ?_)
          · refine wa_iconst B 1 dX11_joined_133 (by decide) ?_
            refine wa_iastore B ha_3 ka_3 (by decide) (by decide) (show 0 ≤ v_2.toInt by omega) (show v_2.toInt < (h.2.1 a_3 : Int) by omega) dX11_joined_134 (fun q_73 eq_73 => ?_)
            have hV_q_73 : sx_V h L q_73 := by rw [eq_73]; exact hV_q_67.up1 ha_3 ka_3 trivial
            have hF_q_73 : sx_fr h L (fun a => h.1 a = 6 ∨ h.1 a = 8 ∨ h.1 a = 5 ∨ h.1 a = 2 ∨ h.1 a = 1 ∨ h.1 a = 4 ∨ a = s0 ∧ h.1 a = 7 ∨ a = sb ∧ h.1 a = 300) q q_73 := hF_q_67.tr (by rw [eq_73]; exact sx_fr.pG (show h.1 a_3 = 100 ∨ (h.1 a_3 = 6 ∨ h.1 a_3 = 8 ∨ h.1 a_3 = 5 ∨ h.1 a_3 = 2 ∨ h.1 a_3 = 1 ∨ h.1 a_3 = 4 ∨ a_3 = s0 ∧ h.1 a_3 = 7 ∨ a_3 = sb ∧ h.1 a_3 = 300) from by omega))
            have z_74 : q_73.2.2.2.1 a_3 (v_2 : Int32).toNatClampNeg = 1 := by rw [eq_73, sg_pG_e]; exact if_pos rfl
            refine wa_aload_n B dX11_joined_135 rfl 2 rfl ?_
            have z_75 : q_73.2.2.1 a0 10 = a_3 := ((show q_73.2.2.1 a0 10 = q_67.2.2.1 a0 10 from by rw [eq_73]; rfl)).trans (z_71)
            refine wa_getR B (C := RX11) (T := TX11) (N := 16) iq_X11_joined_X11 ha0 ka0 (by decide) rfl 10 (by decide) (by decide) (by decide +kernel) rfl (fun _ _ _ => rfl) (v := a_3) z_75 dX11_joined_136 ?_
            refine wa_iload_n B dX11_joined_139 rfl 1 rfl ?_
            refine wa_iaload B ha_3 ka_3 (by decide) (by decide) (show 0 ≤ v_2.toInt by omega) (show v_2.toInt < (h.2.1 a_3 : Int) by omega) (v := 1) z_74 dX11_joined_140 ?_
            exact hret _ _ _ _ dX11_joined_141 ⟨hV_q_73, hF_q_73⟩
          · refine wa_aload_n B dX11_joined_119 rfl 2 rfl ?_
            have z_76 : q_67.2.2.1 a0 8 = a_66 := (h2_q_67.R ha0 (show ¬ ((h.1 a0 = 6 ∨ h.1 a0 = 8 ∨ h.1 a0 = 5 ∨ h.1 a0 = 2 ∨ h.1 a0 = 1) ∧ (h.1 a0 = 8 ∨ h.1 a0 = 11)) from fun z9 => (show ¬ (h.1 a0 = 6 ∨ h.1 a0 = 8 ∨ h.1 a0 = 5 ∨ h.1 a0 = 2 ∨ h.1 a0 = 1) from by omega) z9.1) 8).trans (ea_66)
            refine wa_getR B (C := RX11) (T := TX11) (N := 16) iq_X11_joined_X11 ha0 ka0 (by decide) rfl 8 (by decide) (by decide) (by decide +kernel) rfl (fun _ _ _ => rfl) (v := a_66) z_76 dX11_joined_120 ?_
            refine wa_getI B (C := RX5) (T := TX5) (N := 7) iq_X11_joined_X5 ha_66 ka_66 (by decide) rfl 5 (by decide) (by decide) (by decide +kernel) rfl (by decide) (v := (q_67.1 a_66 5)) rfl dX11_joined_123 ?_
            refine wa_if_le B 133 dX11_joined_126 (by decide) (fun (t_77 : (q_67.1 a_66 5).toInt ≤ 0) => ?_) (fun (t_77 : ¬ (q_67.1 a_66 5).toInt ≤ 0) => ?_)
            · refine wa_iconst B 1 dX11_joined_133 (by decide) ?_
              refine wa_iastore B ha_3 ka_3 (by decide) (by decide) (show 0 ≤ v_2.toInt by omega) (show v_2.toInt < (h.2.1 a_3 : Int) by omega) dX11_joined_134 (fun q_78 eq_78 => ?_)
              have hV_q_78 : sx_V h L q_78 := by rw [eq_78]; exact hV_q_67.up1 ha_3 ka_3 trivial
              have hF_q_78 : sx_fr h L (fun a => h.1 a = 6 ∨ h.1 a = 8 ∨ h.1 a = 5 ∨ h.1 a = 2 ∨ h.1 a = 1 ∨ h.1 a = 4 ∨ a = s0 ∧ h.1 a = 7 ∨ a = sb ∧ h.1 a = 300) q q_78 := hF_q_67.tr (by rw [eq_78]; exact sx_fr.pG (show h.1 a_3 = 100 ∨ (h.1 a_3 = 6 ∨ h.1 a_3 = 8 ∨ h.1 a_3 = 5 ∨ h.1 a_3 = 2 ∨ h.1 a_3 = 1 ∨ h.1 a_3 = 4 ∨ a_3 = s0 ∧ h.1 a_3 = 7 ∨ a_3 = sb ∧ h.1 a_3 = 300) from by omega))
              have z_79 : q_78.2.2.2.1 a_3 (v_2 : Int32).toNatClampNeg = 1 := by rw [eq_78, sg_pG_e]; exact if_pos rfl
              refine wa_aload_n B dX11_joined_135 rfl 2 rfl ?_
              have z_80 : q_78.2.2.1 a0 10 = a_3 := ((show q_78.2.2.1 a0 10 = q_67.2.2.1 a0 10 from by rw [eq_78]; rfl)).trans (z_71)
              refine wa_getR B (C := RX11) (T := TX11) (N := 16) iq_X11_joined_X11 ha0 ka0 (by decide) rfl 10 (by decide) (by decide) (by decide +kernel) rfl (fun _ _ _ => rfl) (v := a_3) z_80 dX11_joined_136 ?_
              refine wa_iload_n B dX11_joined_139 rfl 1 rfl ?_
              refine wa_iaload B ha_3 ka_3 (by decide) (by decide) (show 0 ≤ v_2.toInt by omega) (show v_2.toInt < (h.2.1 a_3 : Int) by omega) (v := 1) z_79 dX11_joined_140 ?_
              exact hret _ _ _ _ dX11_joined_141 ⟨hV_q_78, hF_q_78⟩
            · refine wa_iconst B 2 dX11_joined_129 (by decide) ?_
              refine wa_goto B 134 dX11_joined_130 (by decide) ?_
              refine wa_iastore B ha_3 ka_3 (by decide) (by decide) (show 0 ≤ v_2.toInt by omega) (show v_2.toInt < (h.2.1 a_3 : Int) by omega) dX11_joined_134 (fun q_81 eq_81 => ?_)
              have hV_q_81 : sx_V h L q_81 := by rw [eq_81]; exact hV_q_67.up1 ha_3 ka_3 trivial
              have hF_q_81 : sx_fr h L (fun a => h.1 a = 6 ∨ h.1 a = 8 ∨ h.1 a = 5 ∨ h.1 a = 2 ∨ h.1 a = 1 ∨ h.1 a = 4 ∨ a = s0 ∧ h.1 a = 7 ∨ a = sb ∧ h.1 a = 300) q q_81 := hF_q_67.tr (by rw [eq_81]; exact sx_fr.pG (show h.1 a_3 = 100 ∨ (h.1 a_3 = 6 ∨ h.1 a_3 = 8 ∨ h.1 a_3 = 5 ∨ h.1 a_3 = 2 ∨ h.1 a_3 = 1 ∨ h.1 a_3 = 4 ∨ a_3 = s0 ∧ h.1 a_3 = 7 ∨ a_3 = sb ∧ h.1 a_3 = 300) from by omega))
              have z_82 : q_81.2.2.2.1 a_3 (v_2 : Int32).toNatClampNeg = 2 := by rw [eq_81, sg_pG_e]; exact if_pos rfl
              refine wa_aload_n B dX11_joined_135 rfl 2 rfl ?_
              have z_83 : q_81.2.2.1 a0 10 = a_3 := ((show q_81.2.2.1 a0 10 = q_67.2.2.1 a0 10 from by rw [eq_81]; rfl)).trans (z_71)
              refine wa_getR B (C := RX11) (T := TX11) (N := 16) iq_X11_joined_X11 ha0 ka0 (by decide) rfl 10 (by decide) (by decide) (by decide +kernel) rfl (fun _ _ _ => rfl) (v := a_3) z_83 dX11_joined_136 ?_
              refine wa_iload_n B dX11_joined_139 rfl 1 rfl ?_
              refine wa_iaload B ha_3 ka_3 (by decide) (by decide) (show 0 ≤ v_2.toInt by omega) (show v_2.toInt < (h.2.1 a_3 : Int) by omega) (v := 2) z_82 dX11_joined_140 ?_
              exact hret _ _ _ _ dX11_joined_141 ⟨hV_q_81, hF_q_81⟩
        · refine wa_aload_n B dX11_joined_97 rfl 2 rfl ?_
          obtain ⟨a_84, ea_84, ha_84, ka_84⟩ := hV_q_67.ref (t := 4) ha0 ka0 5 rfl (by decide)
          refine wa_getR B (C := RX11) (T := TX11) (N := 16) iq_X11_joined_X11 ha0 ka0 (by decide) rfl 5 (by decide) (by decide) (by decide +kernel) rfl (fun _ _ _ => rfl) (v := a_84) ea_84 dX11_joined_98 ?_
          refine wa_aload_n B dX11_joined_101 rfl 2 rfl ?_
          have z_85 : q_67.2.2.1 a0 8 = a_66 := (h2_q_67.R ha0 (show ¬ ((h.1 a0 = 6 ∨ h.1 a0 = 8 ∨ h.1 a0 = 5 ∨ h.1 a0 = 2 ∨ h.1 a0 = 1) ∧ (h.1 a0 = 8 ∨ h.1 a0 = 11)) from fun z9 => (show ¬ (h.1 a0 = 6 ∨ h.1 a0 = 8 ∨ h.1 a0 = 5 ∨ h.1 a0 = 2 ∨ h.1 a0 = 1) from by omega) z9.1) 8).trans (ea_66)
          refine wa_getR B (C := RX11) (T := TX11) (N := 16) iq_X11_joined_X11 ha0 ka0 (by decide) rfl 8 (by decide) (by decide) (by decide +kernel) rfl (fun _ _ _ => rfl) (v := a_66) z_85 dX11_joined_102 ?_
          refine wa_iconst B 1 dX11_joined_105 (by decide) ?_
          refine wa_callVv B (x := (RX4, TX4, 7)) (As := [.ref a_66, .int 1]) (rest := []) (k_X4_solve l dC dI h L hN q_67 hV_q_67 (a0 := a_84) ha_84 ka_84 (a1 := a_66) ha_66 ka_66 1  (by first | assumption | omega | decide)) (cwV 2 B.1.2.2.2.2 gX11_joined_X4_solve rfl rfl rfl (by decide +kernel) ⟨Nat.le_of_ble_eq_true rfl, Nat.le_of_ble_eq_true rfl⟩) ha_84 ka_84 (by decide) rfl rfl rfl (Nat.le_of_ble_eq_true rfl) dX11_joined_106 (fun q_86 w_87 => ?_)
          obtain ⟨hV_q_86, h2_q_86⟩ := w_87
          have hF_q_86 : sx_fr h L (fun a => h.1 a = 6 ∨ h.1 a = 8 ∨ h.1 a = 5 ∨ h.1 a = 2 ∨ h.1 a = 1 ∨ h.1 a = 4 ∨ a = s0 ∧ h.1 a = 7 ∨ a = sb ∧ h.1 a = 300) q q_86 := hF_q_67.tr (h2_q_86.mono (fun a (z : a = a_84 ∧ h.1 a = 4 ∨ a = a_66 ∧ h.1 a = 5 ∨ h.1 a = 1 ∨ h.1 a = 2) => (show h.1 a = 6 ∨ h.1 a = 8 ∨ h.1 a = 5 ∨ h.1 a = 2 ∨ h.1 a = 1 ∨ h.1 a = 4 ∨ a = s0 ∧ h.1 a = 7 ∨ a = sb ∧ h.1 a = 300 from by omega)))
          refine wa_aload_n B dX11_joined_109 rfl 2 rfl ?_
          have z_88 : q_86.2.2.1 a0 10 = a_3 := (h2_q_86.R ha0 (show ¬ ((a0 = a_84 ∧ h.1 a0 = 4 ∨ a0 = a_66 ∧ h.1 a0 = 5 ∨ h.1 a0 = 1 ∨ h.1 a0 = 2) ∧ (h.1 a0 = 8 ∨ h.1 a0 = 11)) from fun z9 => (show ¬ (a0 = a_84 ∧ h.1 a0 = 4 ∨ a0 = a_66 ∧ h.1 a0 = 5 ∨ h.1 a0 = 1 ∨ h.1 a0 = 2) from by omega) z9.1) 10).trans ((h2_q_67.R ha0 (show ¬ ((h.1 a0 = 6 ∨ h.1 a0 = 8 ∨ h.1 a0 = 5 ∨ h.1 a0 = 2 ∨ h.1 a0 = 1) ∧ (h.1 a0 = 8 ∨ h.1 a0 = 11)) from fun z9 => (show ¬ (h.1 a0 = 6 ∨ h.1 a0 = 8 ∨ h.1 a0 = 5 ∨ h.1 a0 = 2 ∨ h.1 a0 = 1) from by omega) z9.1) 10).trans ((h2_q_61.R ha0 (show ¬ ((a0 = s0 ∧ h.1 a0 = 7 ∨ a0 = sb ∧ h.1 a0 = 300) ∧ (h.1 a0 = 8 ∨ h.1 a0 = 11)) from fun z9 => (show ¬ (a0 = s0 ∧ h.1 a0 = 7 ∨ a0 = sb ∧ h.1 a0 = 300) from by omega) z9.1) 10).trans (ea_3)))
          refine wa_getR B (C := RX11) (T := TX11) (N := 16) iq_X11_joined_X11 ha0 ka0 (by decide) rfl 10 (by decide) (by decide) (by decide +kernel) rfl (fun _ _ _ => rfl) (v := a_3) z_88 dX11_joined_110 ?_
          refine wa_iload_n B dX11_joined_113 rfl 1 rfl ?_
          refine wa_iload B dX11_joined_114 0 rfl ?_
          refine wa_if_eq B 133 dX11_joined_116 (by decide) (fun (t_89 : r_68.toInt = 0) => ?_) (fun (t_89 : ¬ r_68.toInt = 0) => ?_)
          · refine wa_iconst B 1 dX11_joined_133 (by decide) ?_
            refine wa_iastore B ha_3 ka_3 (by decide) (by decide) (show 0 ≤ v_2.toInt by omega) (show v_2.toInt < (h.2.1 a_3 : Int) by omega) dX11_joined_134 (fun q_90 eq_90 => ?_)
            have hV_q_90 : sx_V h L q_90 := by rw [eq_90]; exact hV_q_86.up1 ha_3 ka_3 trivial
            have hF_q_90 : sx_fr h L (fun a => h.1 a = 6 ∨ h.1 a = 8 ∨ h.1 a = 5 ∨ h.1 a = 2 ∨ h.1 a = 1 ∨ h.1 a = 4 ∨ a = s0 ∧ h.1 a = 7 ∨ a = sb ∧ h.1 a = 300) q q_90 := hF_q_86.tr (by rw [eq_90]; exact sx_fr.pG (show h.1 a_3 = 100 ∨ (h.1 a_3 = 6 ∨ h.1 a_3 = 8 ∨ h.1 a_3 = 5 ∨ h.1 a_3 = 2 ∨ h.1 a_3 = 1 ∨ h.1 a_3 = 4 ∨ a_3 = s0 ∧ h.1 a_3 = 7 ∨ a_3 = sb ∧ h.1 a_3 = 300) from by omega))
            have z_91 : q_90.2.2.2.1 a_3 (v_2 : Int32).toNatClampNeg = 1 := by rw [eq_90, sg_pG_e]; exact if_pos rfl
            refine wa_aload_n B dX11_joined_135 rfl 2 rfl ?_
            have z_92 : q_90.2.2.1 a0 10 = a_3 := ((show q_90.2.2.1 a0 10 = q_86.2.2.1 a0 10 from by rw [eq_90]; rfl)).trans (z_88)
            refine wa_getR B (C := RX11) (T := TX11) (N := 16) iq_X11_joined_X11 ha0 ka0 (by decide) rfl 10 (by decide) (by decide) (by decide +kernel) rfl (fun _ _ _ => rfl) (v := a_3) z_92 dX11_joined_136 ?_
            refine wa_iload_n B dX11_joined_139 rfl 1 rfl ?_
            refine wa_iaload B ha_3 ka_3 (by decide) (by decide) (show 0 ≤ v_2.toInt by omega) (show v_2.toInt < (h.2.1 a_3 : Int) by omega) (v := 1) z_91 dX11_joined_140 ?_
            exact hret _ _ _ _ dX11_joined_141 ⟨hV_q_90, hF_q_90⟩
          · refine wa_aload_n B dX11_joined_119 rfl 2 rfl ?_
            have z_93 : q_86.2.2.1 a0 8 = a_66 := (h2_q_86.R ha0 (show ¬ ((a0 = a_84 ∧ h.1 a0 = 4 ∨ a0 = a_66 ∧ h.1 a0 = 5 ∨ h.1 a0 = 1 ∨ h.1 a0 = 2) ∧ (h.1 a0 = 8 ∨ h.1 a0 = 11)) from fun z9 => (show ¬ (a0 = a_84 ∧ h.1 a0 = 4 ∨ a0 = a_66 ∧ h.1 a0 = 5 ∨ h.1 a0 = 1 ∨ h.1 a0 = 2) from by omega) z9.1) 8).trans (z_85)
            refine wa_getR B (C := RX11) (T := TX11) (N := 16) iq_X11_joined_X11 ha0 ka0 (by decide) rfl 8 (by decide) (by decide) (by decide +kernel) rfl (fun _ _ _ => rfl) (v := a_66) z_93 dX11_joined_120 ?_
            refine wa_getI B (C := RX5) (T := TX5) (N := 7) iq_X11_joined_X5 ha_66 ka_66 (by decide) rfl 5 (by decide) (by decide) (by decide +kernel) rfl (by decide) (v := (q_86.1 a_66 5)) rfl dX11_joined_123 ?_
            refine wa_if_le B 133 dX11_joined_126 (by decide) (fun (t_94 : (q_86.1 a_66 5).toInt ≤ 0) => ?_) (fun (t_94 : ¬ (q_86.1 a_66 5).toInt ≤ 0) => ?_)
            · refine wa_iconst B 1 dX11_joined_133 (by decide) ?_
              refine wa_iastore B ha_3 ka_3 (by decide) (by decide) (show 0 ≤ v_2.toInt by omega) (show v_2.toInt < (h.2.1 a_3 : Int) by omega) dX11_joined_134 (fun q_95 eq_95 => ?_)
              have hV_q_95 : sx_V h L q_95 := by rw [eq_95]; exact hV_q_86.up1 ha_3 ka_3 trivial
              have hF_q_95 : sx_fr h L (fun a => h.1 a = 6 ∨ h.1 a = 8 ∨ h.1 a = 5 ∨ h.1 a = 2 ∨ h.1 a = 1 ∨ h.1 a = 4 ∨ a = s0 ∧ h.1 a = 7 ∨ a = sb ∧ h.1 a = 300) q q_95 := hF_q_86.tr (by rw [eq_95]; exact sx_fr.pG (show h.1 a_3 = 100 ∨ (h.1 a_3 = 6 ∨ h.1 a_3 = 8 ∨ h.1 a_3 = 5 ∨ h.1 a_3 = 2 ∨ h.1 a_3 = 1 ∨ h.1 a_3 = 4 ∨ a_3 = s0 ∧ h.1 a_3 = 7 ∨ a_3 = sb ∧ h.1 a_3 = 300) from by omega))
              have z_96 : q_95.2.2.2.1 a_3 (v_2 : Int32).toNatClampNeg = 1 := by rw [eq_95, sg_pG_e]; exact if_pos rfl
              refine wa_aload_n B dX11_joined_135 rfl 2 rfl ?_
              have z_97 : q_95.2.2.1 a0 10 = a_3 := ((show q_95.2.2.1 a0 10 = q_86.2.2.1 a0 10 from by rw [eq_95]; rfl)).trans (z_88)
              refine wa_getR B (C := RX11) (T := TX11) (N := 16) iq_X11_joined_X11 ha0 ka0 (by decide) rfl 10 (by decide) (by decide) (by decide +kernel) rfl (fun _ _ _ => rfl) (v := a_3) z_97 dX11_joined_136 ?_
              refine wa_iload_n B dX11_joined_139 rfl 1 rfl ?_
              refine wa_iaload B ha_3 ka_3 (by decide) (by decide) (show 0 ≤ v_2.toInt by omega) (show v_2.toInt < (h.2.1 a_3 : Int) by omega) (v := 1) z_96 dX11_joined_140 ?_
              exact hret _ _ _ _ dX11_joined_141 ⟨hV_q_95, hF_q_95⟩
            · refine wa_iconst B 2 dX11_joined_129 (by decide) ?_
              refine wa_goto B 134 dX11_joined_130 (by decide) ?_
              refine wa_iastore B ha_3 ka_3 (by decide) (by decide) (show 0 ≤ v_2.toInt by omega) (show v_2.toInt < (h.2.1 a_3 : Int) by omega) dX11_joined_134 (fun q_98 eq_98 => ?_)
              have hV_q_98 : sx_V h L q_98 := by rw [eq_98]; exact hV_q_86.up1 ha_3 ka_3 trivial
              have hF_q_98 : sx_fr h L (fun a => h.1 a = 6 ∨ h.1 a = 8 ∨ h.1 a = 5 ∨ h.1 a = 2 ∨ h.1 a = 1 ∨ h.1 a = 4 ∨ a = s0 ∧ h.1 a = 7 ∨ a = sb ∧ h.1 a = 300) q q_98 := hF_q_86.tr (by rw [eq_98]; exact sx_fr.pG (show h.1 a_3 = 100 ∨ (h.1 a_3 = 6 ∨ h.1 a_3 = 8 ∨ h.1 a_3 = 5 ∨ h.1 a_3 = 2 ∨ h.1 a_3 = 1 ∨ h.1 a_3 = 4 ∨ a_3 = s0 ∧ h.1 a_3 = 7 ∨ a_3 = sb ∧ h.1 a_3 = 300) from by omega))
              have z_99 : q_98.2.2.2.1 a_3 (v_2 : Int32).toNatClampNeg = 2 := by rw [eq_98, sg_pG_e]; exact if_pos rfl
              refine wa_aload_n B dX11_joined_135 rfl 2 rfl ?_
              have z_100 : q_98.2.2.1 a0 10 = a_3 := ((show q_98.2.2.1 a0 10 = q_86.2.2.1 a0 10 from by rw [eq_98]; rfl)).trans (z_88)
              refine wa_getR B (C := RX11) (T := TX11) (N := 16) iq_X11_joined_X11 ha0 ka0 (by decide) rfl 10 (by decide) (by decide) (by decide +kernel) rfl (fun _ _ _ => rfl) (v := a_3) z_100 dX11_joined_136 ?_
              refine wa_iload_n B dX11_joined_139 rfl 1 rfl ?_
              refine wa_iaload B ha_3 ka_3 (by decide) (by decide) (show 0 ≤ v_2.toInt by omega) (show v_2.toInt < (h.2.1 a_3 : Int) by omega) (v := 2) z_99 dX11_joined_140 ?_
              exact hret _ _ _ _ dX11_joined_141 ⟨hV_q_98, hF_q_98⟩
    · refine wa_aload_n B dX11_joined_35 rfl 1 rfl ?_
      refine wa_getR B (C := RX11) (T := TX11) (N := 16) iq_X11_joined_X11 ha0 ka0 (by decide) rfl 10 (by decide) (by decide) (by decide +kernel) rfl (fun _ _ _ => rfl) (v := a_3) ea_3 dX11_joined_36 ?_
      refine wa_iload_n B dX11_joined_39 rfl 0 rfl ?_
      refine wa_iconst B 0 dX11_joined_40 (by decide) ?_
      refine wa_iastore B ha_3 ka_3 (by decide) (by decide) (show 0 ≤ v_2.toInt by omega) (show v_2.toInt < (h.2.1 a_3 : Int) by omega) dX11_joined_41 (fun q_101 eq_101 => ?_)
      have hV_q_101 : sx_V h L q_101 := by rw [eq_101]; exact hV.up1 ha_3 ka_3 trivial
      have hF_q_101 : sx_fr h L (fun a => h.1 a = 6 ∨ h.1 a = 8 ∨ h.1 a = 5 ∨ h.1 a = 2 ∨ h.1 a = 1 ∨ h.1 a = 4 ∨ a = s0 ∧ h.1 a = 7 ∨ a = sb ∧ h.1 a = 300) q q_101 := hF.tr (by rw [eq_101]; exact sx_fr.pG (show h.1 a_3 = 100 ∨ (h.1 a_3 = 6 ∨ h.1 a_3 = 8 ∨ h.1 a_3 = 5 ∨ h.1 a_3 = 2 ∨ h.1 a_3 = 1 ∨ h.1 a_3 = 4 ∨ a_3 = s0 ∧ h.1 a_3 = 7 ∨ a_3 = sb ∧ h.1 a_3 = 300) from by omega))
      have z_102 : q_101.2.2.2.1 a_3 (v_2 : Int32).toNatClampNeg = 0 := by rw [eq_101, sg_pG_e]; exact if_pos rfl
      refine wa_aload_n B dX11_joined_42 rfl 1 rfl ?_
      have z_103 : q_101.2.2.1 a0 10 = a_3 := ((show q_101.2.2.1 a0 10 = q.2.2.1 a0 10 from by rw [eq_101]; rfl)).trans (ea_3)
      refine wa_getR B (C := RX11) (T := TX11) (N := 16) iq_X11_joined_X11 ha0 ka0 (by decide) rfl 10 (by decide) (by decide) (by decide +kernel) rfl (fun _ _ _ => rfl) (v := a_3) z_103 dX11_joined_43 ?_
      refine wa_iload_n B dX11_joined_46 rfl 0 rfl ?_
      refine wa_iaload B ha_3 ka_3 (by decide) (by decide) (show 0 ≤ v_2.toInt by omega) (show v_2.toInt < (h.2.1 a_3 : Int) by omega) (v := 0) z_102 dX11_joined_47 ?_
      refine wa_iconst B (-1) dX11_joined_48 (by decide) ?_
      refine wa_icmp_ne B 135 dX11_joined_49 (by decide) (fun _ => ?_) (fun z => absurd z (by decide))
      refine wa_aload_n B dX11_joined_135 rfl 1 rfl ?_
      refine wa_getR B (C := RX11) (T := TX11) (N := 16) iq_X11_joined_X11 ha0 ka0 (by decide) rfl 10 (by decide) (by decide) (by decide +kernel) rfl (fun _ _ _ => rfl) (v := a_3) z_103 dX11_joined_136 ?_
      refine wa_iload_n B dX11_joined_139 rfl 0 rfl ?_
      refine wa_iaload B ha_3 ka_3 (by decide) (by decide) (show 0 ≤ v_2.toInt by omega) (show v_2.toInt < (h.2.1 a_3 : Int) by omega) (v := 0) z_102 dX11_joined_140 ?_
      exact hret _ _ _ _ dX11_joined_141 ⟨hV_q_101, hF_q_101⟩
set_option maxHeartbeats 4000000 in
set_option maxRecDepth 100000 in
theorem k_X11_systems_c (l : Launch) (dC : Nat → ClassId) (dI : Nat → Nat → Nat) (h : Sh) (L : List Nat) (hN : sx_nd L) (q : Sg) (hV : sx_V h L q) {a0 : Nat} (ha0 : a0 ∈ L) (ka0 : h.1 a0 = 11) {t0 : Nat} (et0 : q.2.2.1 a0 0 = t0) {tb : Nat} (etb : q.2.2.1 t0 0 = tb) {fa : Nat} (efa : q.2.2.1 a0 9 = fa)    : CMi l dC dI h L yX11_systems wsX11_systems ({ frames := 6, cells := 0, slots := 0, locals := 132 } : Room) q [.ref a0] (fun r q' => sx_V h L q' ∧ sx_fr h L (fun a => sx_c7 h a) q q' ∧ (q'.2.2.1 a0 0 = t0 ∧ (q'.1 t0 1).toInt = 0 ∧ (q'.1 a0 14).toInt = (q.1 a0 14).toInt ∧ q'.2.2.1 a0 9 = fa)) := by
  refine cm_i (cc := cX11_systems) (mL := 3) (own := RX11) hN (by decide) rfl rfl (Nat.le_of_ble_eq_true rfl) (fun Z B hret => ?_)
  have hF : sx_fr h L (fun a => sx_c7 h a) q q := sx_fr.rf
  obtain ⟨ht0, kt0, lt0⟩ : t0 ∈ L ∧ h.1 t0 = 7 ∧ h.2.1 t0 = 1 := by obtain ⟨r9, e9, z1, z2, z3⟩ := hV.refn (t := 7) (n := 1) ha0 ka0 0 rfl (by decide) rfl (by decide); rw [← et0, e9]; exact ⟨z1, z2, z3⟩
  obtain ⟨htb, ktb, ltb⟩ : tb ∈ L ∧ h.1 tb = 300 ∧ h.2.1 tb = 440 := by obtain ⟨r9, e9, z1, z2, z3⟩ := hV.refn (t := 300) (n := 440) ht0 kt0 0 rfl (by decide) (by rw [lt0]; rfl) (by decide); rw [← etb, e9]; exact ⟨z1, z2, z3⟩
  obtain ⟨hfa, kfa, lfa⟩ : fa ∈ L ∧ h.1 fa = 403 ∧ h.2.1 fa = 12 := by obtain ⟨r9, e9, z1, z2, z3⟩ := hV.refn (t := 403) (n := 12) ha0 ka0 9 rfl (by decide) rfl (by decide); rw [← efa, e9]; exact ⟨z1, z2, z3⟩
  show WA l dC dI h L ({ frames := 6, cells := 0, slots := 0, locals := 132 } : Room) 3 Z q 0 [(0, .ref a0)] []
  refine wa_aload_n B dX11_systems_0 rfl 0 rfl ?_
  obtain ⟨a_1, ea_1, ha_1, ka_1⟩ := hV.ref (t := 10) ha0 ka0 3 rfl (by decide)
  refine wa_getR B (C := RX11) (T := TX11) (N := 16) iq_X11_systems_X11 ha0 ka0 (by decide) rfl 3 (by decide) (by decide) (by decide +kernel) rfl (fun _ _ _ => rfl) (v := a_1) ea_1 dX11_systems_1 ?_
  refine wa_aload_n B dX11_systems_4 rfl 0 rfl ?_
  refine wa_getR B (C := RX11) (T := TX11) (N := 16) iq_X11_systems_X11 ha0 ka0 (by decide) rfl 0 (by decide) (by decide) (by decide +kernel) rfl (fun _ _ _ => rfl) (v := t0) et0 dX11_systems_5 ?_
  refine wa_aload_n B dX11_systems_8 rfl 0 rfl ?_
  obtain ⟨a_2, ea_2, ha_2, ka_2⟩ := hV.ref (t := 9) ha0 ka0 12 rfl (by decide)
  refine wa_getR B (C := RX11) (T := TX11) (N := 16) iq_X11_systems_X11 ha0 ka0 (by decide) rfl 12 (by decide) (by decide) (by decide +kernel) rfl (fun _ _ _ => rfl) (v := a_2) ea_2 dX11_systems_9 ?_
  refine wa_callVi B (x := (RX10, TX10, 3)) (As := [.ref t0, .ref a_2]) (rest := []) (k_X10_read l dC dI h L hN q hV (a0 := a_1) ha_1 ka_1 (a1 := t0) ht0 kt0 (a2 := a_2) ha_2 ka_2  ) (cwV 2 B.1.2.2.2.2 gX11_systems_X10_read rfl rfl rfl (by decide +kernel) ⟨Nat.le_of_ble_eq_true rfl, Nat.le_of_ble_eq_true rfl⟩) ha_1 ka_1 (by decide) rfl rfl rfl (Nat.le_of_ble_eq_true rfl) dX11_systems_12 (fun r_4 q_3 w_5 => ?_)
  obtain ⟨hV_q_3, h2_q_3, hw_5⟩ := w_5
  have hF_q_3 : sx_fr h L (fun a => sx_c7 h a) q q_3 := hF.tr (h2_q_3.mono (fun a (z : h.1 a = 10 ∨ h.1 a = 8 ∨ h.1 a = 9 ∨ h.1 a = 201 ∨ h.1 a = 101 ∨ h.1 a = 202 ∨ h.1 a = 102 ∨ h.1 a = 103 ∨ h.1 a = 104) => (show sx_c7 h a from by (try unfold sx_mk at *); (try unfold sx_ck at *); (try unfold sx_c7 at *); omega)))
  refine wa_istore_n B [(1, .int r_4), (0, .ref a0)] dX11_systems_15 rfl (by decide) rfl ?_
  refine wa_aload_n B dX11_systems_16 rfl 1 rfl ?_
  have z_6 : q_3.2.2.1 a0 0 = t0 := (h2_q_3.R ha0 (show ¬ ((h.1 a0 = 10 ∨ h.1 a0 = 8 ∨ h.1 a0 = 9 ∨ h.1 a0 = 201 ∨ h.1 a0 = 101 ∨ h.1 a0 = 202 ∨ h.1 a0 = 102 ∨ h.1 a0 = 103 ∨ h.1 a0 = 104) ∧ (h.1 a0 = 8 ∨ h.1 a0 = 11)) from fun z9 => (show ¬ (h.1 a0 = 10 ∨ h.1 a0 = 8 ∨ h.1 a0 = 9 ∨ h.1 a0 = 201 ∨ h.1 a0 = 101 ∨ h.1 a0 = 202 ∨ h.1 a0 = 102 ∨ h.1 a0 = 103 ∨ h.1 a0 = 104) from by omega) z9.1) 0).trans (et0)
  refine wa_getR B (C := RX11) (T := TX11) (N := 16) iq_X11_systems_X11 ha0 ka0 (by decide) rfl 0 (by decide) (by decide) (by decide +kernel) rfl (fun _ _ _ => rfl) (v := t0) z_6 dX11_systems_17 ?_
  refine wa_callVv B (x := (RX7, TX7, 2)) (As := []) (rest := []) (k_X7_clear l dC dI h L hN q_3 hV_q_3 (a0 := t0) ht0 kt0  ) (cwV 0 B.1.2.2.2.2 gX11_systems_X7_clear rfl rfl rfl (by decide +kernel) ⟨Nat.le_of_ble_eq_true rfl, Nat.le_of_ble_eq_true rfl⟩) ht0 kt0 (by decide) rfl rfl rfl (Nat.le_of_ble_eq_true rfl) dX11_systems_20 (fun q_7 w_8 => ?_)
  obtain ⟨hV_q_7, h2_q_7, hw_8⟩ := w_8
  have hF_q_7 : sx_fr h L (fun a => sx_c7 h a) q q_7 := hF_q_3.tr (h2_q_7.mono (fun a (z : a = t0 ∧ h.1 a = 7) => (show sx_c7 h a from by (try unfold sx_mk at *); (try unfold sx_ck at *); (try unfold sx_c7 at *); omega)))
  refine wa_aload_n B dX11_systems_23 rfl 1 rfl ?_
  refine wa_aload_n B dX11_systems_24 rfl 1 rfl ?_
  have z_9 : q_7.2.2.1 a0 3 = a_1 := (h2_q_7.R ha0 (show ¬ ((a0 = t0 ∧ h.1 a0 = 7) ∧ (h.1 a0 = 8 ∨ h.1 a0 = 11)) from fun z9 => (show ¬ (a0 = t0 ∧ h.1 a0 = 7) from by omega) z9.1) 3).trans ((h2_q_3.R ha0 (show ¬ ((h.1 a0 = 10 ∨ h.1 a0 = 8 ∨ h.1 a0 = 9 ∨ h.1 a0 = 201 ∨ h.1 a0 = 101 ∨ h.1 a0 = 202 ∨ h.1 a0 = 102 ∨ h.1 a0 = 103 ∨ h.1 a0 = 104) ∧ (h.1 a0 = 8 ∨ h.1 a0 = 11)) from fun z9 => (show ¬ (h.1 a0 = 10 ∨ h.1 a0 = 8 ∨ h.1 a0 = 9 ∨ h.1 a0 = 201 ∨ h.1 a0 = 101 ∨ h.1 a0 = 202 ∨ h.1 a0 = 102 ∨ h.1 a0 = 103 ∨ h.1 a0 = 104) from by omega) z9.1) 3).trans (ea_1))
  refine wa_getR B (C := RX11) (T := TX11) (N := 16) iq_X11_systems_X11 ha0 ka0 (by decide) rfl 3 (by decide) (by decide) (by decide +kernel) rfl (fun _ _ _ => rfl) (v := a_1) z_9 dX11_systems_25 ?_
  obtain ⟨a_10, ea_10, ha_10, ka_10⟩ := hV_q_7.ref (t := 8) ha_1 ka_1 0 rfl (by decide)
  refine wa_getR B (C := RX10) (T := TX10) (N := 3) iq_X11_systems_X10 ha_1 ka_1 (by decide) rfl 0 (by decide) (by decide) (by decide +kernel) rfl (fun _ _ _ => rfl) (v := a_10) ea_10 dX11_systems_28 ?_
  refine wa_getI B (C := RX8) (T := TX8) (N := 11) iq_X11_systems_X8 ha_10 ka_10 (by decide) rfl 5 (by decide) (by decide) (by decide +kernel) rfl (by decide) (v := (q_7.1 a_10 5)) rfl dX11_systems_31 ?_
  refine wa_putI B (C := RX11) (T := TX11) (N := 16) iq_X11_systems_X11 ha0 ka0 (by decide) rfl 15 (by decide) (by decide) (by decide +kernel) rfl (by decide) (v := (q_7.1 a_10 5)) (ty := .int) tyX11 tyX11_ok nmX11 rfl (by decide +kernel) rfl rfl dX11_systems_34 (fun q_11 eq_11 => ?_)
  have hV_q_11 : sx_V h L q_11 := by rw [eq_11]; exact hV_q_7.pI ka0 trivial
  have hF_q_11 : sx_fr h L (fun a => sx_c7 h a) q q_11 := hF_q_7.tr (by rw [eq_11]; exact sx_fr.pI (show sx_c7 h a0 from by (try unfold sx_mk at *); (try unfold sx_ck at *); (try unfold sx_c7 at *); omega))
  have z_12 : q_11.1 a0 15 = (q_7.1 a_10 5) := by rw [eq_11]; exact sg_pI_e
  refine wa_iload_n B dX11_systems_37 rfl 0 rfl ?_
  refine wa_if_ne B 54 dX11_systems_38 (by decide) (fun (t_13 : ¬ r_4.toInt = 0) => ?_) (fun (t_13 : r_4.toInt = 0) => ?_)
  · refine wa_aload_n B dX11_systems_54 rfl 1 rfl ?_
    obtain ⟨a_14, ea_14, ha_14, ka_14⟩ := hV_q_11.ref (t := 9) ha0 ka0 11 rfl (by decide)
    refine wa_getR B (C := RX11) (T := TX11) (N := 16) iq_X11_systems_X11 ha0 ka0 (by decide) rfl 11 (by decide) (by decide) (by decide +kernel) rfl (fun _ _ _ => rfl) (v := a_14) ea_14 dX11_systems_55 ?_
    refine wa_astore_n B [(2, .ref a_14), (1, .int r_4), (0, .ref a0)] dX11_systems_58 rfl (by decide) rfl ?_
    refine wa_aload_n B dX11_systems_59 rfl 2 rfl ?_
    refine wa_aload_n B dX11_systems_60 rfl 2 rfl ?_
    have z_15 : q_11.2.2.1 a0 12 = a_2 := ((show q_11.2.2.1 a0 12 = q_7.2.2.1 a0 12 from by rw [eq_11]; rfl)).trans ((h2_q_7.R ha0 (show ¬ ((a0 = t0 ∧ h.1 a0 = 7) ∧ (h.1 a0 = 8 ∨ h.1 a0 = 11)) from fun z9 => (show ¬ (a0 = t0 ∧ h.1 a0 = 7) from by omega) z9.1) 12).trans ((h2_q_3.R ha0 (show ¬ ((h.1 a0 = 10 ∨ h.1 a0 = 8 ∨ h.1 a0 = 9 ∨ h.1 a0 = 201 ∨ h.1 a0 = 101 ∨ h.1 a0 = 202 ∨ h.1 a0 = 102 ∨ h.1 a0 = 103 ∨ h.1 a0 = 104) ∧ (h.1 a0 = 8 ∨ h.1 a0 = 11)) from fun z9 => (show ¬ (h.1 a0 = 10 ∨ h.1 a0 = 8 ∨ h.1 a0 = 9 ∨ h.1 a0 = 201 ∨ h.1 a0 = 101 ∨ h.1 a0 = 202 ∨ h.1 a0 = 102 ∨ h.1 a0 = 103 ∨ h.1 a0 = 104) from by omega) z9.1) 12).trans (ea_2)))
    refine wa_getR B (C := RX11) (T := TX11) (N := 16) iq_X11_systems_X11 ha0 ka0 (by decide) rfl 12 (by decide) (by decide) (by decide +kernel) rfl (fun _ _ _ => rfl) (v := a_2) z_15 dX11_systems_61 ?_
    refine wa_putR B (C := RX11) (T := TX11) (N := 16) iq_X11_systems_X11 ha0 ka0 (by decide) rfl 11 (by decide) (by decide) (by decide +kernel) rfl (fun _ _ _ => rfl) (v := a_2) (ty := (.object "ClayAccounts$Units")) tyX11 tyX11_ok nmX11 rfl (by decide +kernel) rfl rfl dX11_systems_64 (fun q_16 eq_16 => ?_)
    have hV_q_16 : sx_V h L q_16 := by rw [eq_16]; exact hV_q_11.pR (by rw [ka0]; decide) (fun _ => ⟨ha_2, by rw [ka_2, ka0]; rfl, fun z => by rw [ka0] at z; exact absurd rfl z⟩)
    have hF_q_16 : sx_fr h L (fun a => sx_c7 h a) q q_16 := hF_q_11.tr (by rw [eq_16]; exact sx_fr.pR (show (sx_c7 h a0) ∧ (h.1 a0 = 8 ∨ h.1 a0 = 11) from by (try unfold sx_mk at *); (try unfold sx_ck at *); (try unfold sx_c7 at *); omega))
    have z_17 : q_16.2.2.1 a0 11 = a_2 := by rw [eq_16]; exact sg_pR_e
    refine wa_aload_n B dX11_systems_67 rfl 2 rfl ?_
    refine wa_aload_n B dX11_systems_68 rfl 0 rfl ?_
    refine wa_putR B (C := RX11) (T := TX11) (N := 16) iq_X11_systems_X11 ha0 ka0 (by decide) rfl 12 (by decide) (by decide) (by decide +kernel) rfl (fun _ _ _ => rfl) (v := a_14) (ty := (.object "ClayAccounts$Units")) tyX11 tyX11_ok nmX11 rfl (by decide +kernel) rfl rfl dX11_systems_69 (fun q_18 eq_18 => ?_)
    have hV_q_18 : sx_V h L q_18 := by rw [eq_18]; exact hV_q_16.pR (by rw [ka0]; decide) (fun _ => ⟨ha_14, by rw [ka_14, ka0]; rfl, fun z => by rw [ka0] at z; exact absurd rfl z⟩)
    have hF_q_18 : sx_fr h L (fun a => sx_c7 h a) q q_18 := hF_q_16.tr (by rw [eq_18]; exact sx_fr.pR (show (sx_c7 h a0) ∧ (h.1 a0 = 8 ∨ h.1 a0 = 11) from by (try unfold sx_mk at *); (try unfold sx_ck at *); (try unfold sx_c7 at *); omega))
    have z_19 : q_18.2.2.1 a0 12 = a_14 := by rw [eq_18]; exact sg_pR_e
    refine wa_aload_n B dX11_systems_72 rfl 2 rfl ?_
    refine wa_iconst B 0 dX11_systems_73 (by decide) ?_
    refine wa_putI B (C := RX11) (T := TX11) (N := 16) iq_X11_systems_X11 ha0 ka0 (by decide) rfl 13 (by decide) (by decide) (by decide +kernel) rfl (by decide) (v := 0) (ty := .int) tyX11 tyX11_ok nmX11 rfl (by decide +kernel) rfl rfl dX11_systems_74 (fun q_20 eq_20 => ?_)
    have hV_q_20 : sx_V h L q_20 := by rw [eq_20]; exact hV_q_18.pI ka0 (show sx_in 0 (0) 8 from ⟨by decide, by decide⟩)
    have hF_q_20 : sx_fr h L (fun a => sx_c7 h a) q q_20 := hF_q_18.tr (by rw [eq_20]; exact sx_fr.pI (show sx_c7 h a0 from by (try unfold sx_mk at *); (try unfold sx_ck at *); (try unfold sx_c7 at *); omega))
    have z_21 : q_20.1 a0 13 = 0 := by rw [eq_20]; exact sg_pI_e
    refine wa_aload_n B dX11_systems_77 rfl 2 rfl ?_
    obtain ⟨a_22, ea_22, ha_22, ka_22⟩ := hV_q_20.ref (t := 3) ha0 ka0 6 rfl (by decide)
    refine wa_getR B (C := RX11) (T := TX11) (N := 16) iq_X11_systems_X11 ha0 ka0 (by decide) rfl 6 (by decide) (by decide) (by decide +kernel) rfl (fun _ _ _ => rfl) (v := a_22) ea_22 dX11_systems_78 ?_
    refine wa_callVv B (x := (RX3, TX3, 5)) (As := []) (rest := []) (k_X3_forget l dC dI h L hN q_20 hV_q_20 (a0 := a_22) ha_22 ka_22  ) (cwV 0 B.1.2.2.2.2 gX11_systems_X3_forget rfl rfl rfl (by decide +kernel) ⟨Nat.le_of_ble_eq_true rfl, Nat.le_of_ble_eq_true rfl⟩) ha_22 ka_22 (by decide) rfl rfl rfl (Nat.le_of_ble_eq_true rfl) dX11_systems_81 (fun q_23 w_24 => ?_)
    obtain ⟨hV_q_23, h2_q_23⟩ := w_24
    have hF_q_23 : sx_fr h L (fun a => sx_c7 h a) q q_23 := hF_q_20.tr (h2_q_23.mono (fun a (z : a = a_22 ∧ h.1 a = 3) => (show sx_c7 h a from by (try unfold sx_mk at *); (try unfold sx_ck at *); (try unfold sx_c7 at *); omega)))
    refine wa_aload_n B dX11_systems_84 rfl 2 rfl ?_
    obtain ⟨a_25, ea_25, ha_25, ka_25, la_25⟩ := hV_q_23.refn (n := 144) (t := 100) ha0 ka0 10 rfl (by decide) rfl (by decide)
    refine wa_getR B (C := RX11) (T := TX11) (N := 16) iq_X11_systems_X11 ha0 ka0 (by decide) rfl 10 (by decide) (by decide) (by decide +kernel) rfl (fun _ _ _ => rfl) (v := a_25) ea_25 dX11_systems_85 ?_
    refine wa_iconst B (-1) dX11_systems_88 (by decide) ?_
    refine wa_callSv B (As := [.ref a_25, .int (-1)]) (rest := []) (k_J7_fill_53178 l dC dI h L hN q_23 hV_q_23 (a0 := a_25) ha_25 ka_25 (-1)  (by first | assumption | omega | decide) (by first | assumption | omega | decide) (show sx_E 100 (-1) from trivial)) (va_cwS 2 B.1.2.2.2.2 gX11_systems_J7_fill_53178 rfl rfl rfl (by decide +kernel) ⟨Nat.le_of_ble_eq_true rfl, Nat.le_of_ble_eq_true rfl⟩) rfl rfl (Nat.le_of_ble_eq_true rfl) dX11_systems_89 (fun q_26 w_27 => ?_)
    obtain ⟨hV_q_26, h2_q_26⟩ := w_27
    have hF_q_26 : sx_fr h L (fun a => sx_c7 h a) q q_26 := hF_q_23.tr (h2_q_26.mono (fun a (z : a = a_25 ∧ h.1 a = 100 ∧ ¬ 100 = 100) => (show sx_c7 h a from by (try unfold sx_mk at *); (try unfold sx_ck at *); (try unfold sx_c7 at *); omega)))
    refine wa_aload_n B dX11_systems_92 rfl 2 rfl ?_
    have z_28 : q_26.2.2.1 a0 11 = a_2 := (h2_q_26.R ha0 (show ¬ ((a0 = a_25 ∧ h.1 a0 = 100 ∧ ¬ 100 = 100) ∧ (h.1 a0 = 8 ∨ h.1 a0 = 11)) from fun z9 => (show ¬ (a0 = a_25 ∧ h.1 a0 = 100 ∧ ¬ 100 = 100) from by omega) z9.1) 11).trans ((h2_q_23.R ha0 (show ¬ ((a0 = a_22 ∧ h.1 a0 = 3) ∧ (h.1 a0 = 8 ∨ h.1 a0 = 11)) from fun z9 => (show ¬ (a0 = a_22 ∧ h.1 a0 = 3) from by omega) z9.1) 11).trans (((show q_20.2.2.1 a0 11 = q_18.2.2.1 a0 11 from by rw [eq_20]; rfl)).trans (((show q_18.2.2.1 a0 11 = q_16.2.2.1 a0 11 from by rw [eq_18]; exact sg_pR_k (by decide))).trans (z_17))))
    refine wa_getR B (C := RX11) (T := TX11) (N := 16) iq_X11_systems_X11 ha0 ka0 (by decide) rfl 11 (by decide) (by decide) (by decide +kernel) rfl (fun _ _ _ => rfl) (v := a_2) z_28 dX11_systems_93 ?_
    refine wa_getI B (C := RX9) (T := TX9) (N := 7) iq_X11_systems_X9 ha_2 ka_2 (by decide) rfl 6 (by decide) (by decide) (by decide +kernel) rfl (by decide) (v := (q_26.1 a_2 6)) rfl dX11_systems_96 ?_
    have g_29 : (0 : Int) ≤ (q_26.1 a_2 6).toInt ∧ (q_26.1 a_2 6).toInt ≤ 3 := hV_q_26.int ha_2 ka_2 6
    have z_30 : q_26.1 a0 14 = q.1 a0 14 := (h2_q_26.I ha0 (show ¬ (a0 = a_25 ∧ h.1 a0 = 100 ∧ ¬ 100 = 100) from by omega) 14).trans ((h2_q_23.I ha0 (show ¬ (a0 = a_22 ∧ h.1 a0 = 3) from by omega) 14).trans (((show q_20.1 a0 14 = q_18.1 a0 14 from by rw [eq_20]; exact sg_pI_k (by decide))).trans (((show q_18.1 a0 14 = q_16.1 a0 14 from by rw [eq_18]; rfl)).trans (((show q_16.1 a0 14 = q_11.1 a0 14 from by rw [eq_16]; rfl)).trans (((show q_11.1 a0 14 = q_7.1 a0 14 from by rw [eq_11]; exact sg_pI_k (by decide))).trans ((h2_q_7.I ha0 (show ¬ (a0 = t0 ∧ h.1 a0 = 7) from by omega) 14).trans (h2_q_3.I ha0 (show ¬ (h.1 a0 = 10 ∨ h.1 a0 = 8 ∨ h.1 a0 = 9 ∨ h.1 a0 = 201 ∨ h.1 a0 = 101 ∨ h.1 a0 = 202 ∨ h.1 a0 = 102 ∨ h.1 a0 = 103 ∨ h.1 a0 = 104) from by omega) 14)))))))
    have y_31 : (q_26.1 a0 14).toInt = (q.1 a0 14).toInt := by rw [z_30]
    have z_32 : q_26.1 t0 1 = 0 := (h2_q_26.I ht0 (show ¬ (t0 = a_25 ∧ h.1 t0 = 100 ∧ ¬ 100 = 100) from by omega) 1).trans ((h2_q_23.I ht0 (show ¬ (t0 = a_22 ∧ h.1 t0 = 3) from by omega) 1).trans (((show q_20.1 t0 1 = q_18.1 t0 1 from by rw [eq_20]; exact sg_pI_k (by decide))).trans (((show q_18.1 t0 1 = q_16.1 t0 1 from by rw [eq_18]; rfl)).trans (((show q_16.1 t0 1 = q_11.1 t0 1 from by rw [eq_16]; rfl)).trans (((show q_11.1 t0 1 = q_7.1 t0 1 from by rw [eq_11]; exact sg_pI_k (by decide))).trans (hw_8))))))
    have y_33 : (q_26.1 t0 1).toInt = 0 := by rw [z_32]; rfl
    have z_34 : q_26.2.2.1 a0 0 = t0 := (h2_q_26.R ha0 (show ¬ ((a0 = a_25 ∧ h.1 a0 = 100 ∧ ¬ 100 = 100) ∧ (h.1 a0 = 8 ∨ h.1 a0 = 11)) from fun z9 => (show ¬ (a0 = a_25 ∧ h.1 a0 = 100 ∧ ¬ 100 = 100) from by omega) z9.1) 0).trans ((h2_q_23.R ha0 (show ¬ ((a0 = a_22 ∧ h.1 a0 = 3) ∧ (h.1 a0 = 8 ∨ h.1 a0 = 11)) from fun z9 => (show ¬ (a0 = a_22 ∧ h.1 a0 = 3) from by omega) z9.1) 0).trans (((show q_20.2.2.1 a0 0 = q_18.2.2.1 a0 0 from by rw [eq_20]; rfl)).trans (((show q_18.2.2.1 a0 0 = q_16.2.2.1 a0 0 from by rw [eq_18]; exact sg_pR_k (by decide))).trans (((show q_16.2.2.1 a0 0 = q_11.2.2.1 a0 0 from by rw [eq_16]; exact sg_pR_k (by decide))).trans (((show q_11.2.2.1 a0 0 = q_7.2.2.1 a0 0 from by rw [eq_11]; rfl)).trans ((h2_q_7.R ha0 (show ¬ ((a0 = t0 ∧ h.1 a0 = 7) ∧ (h.1 a0 = 8 ∨ h.1 a0 = 11)) from fun z9 => (show ¬ (a0 = t0 ∧ h.1 a0 = 7) from by omega) z9.1) 0).trans (z_6)))))))
    have z_35 : q_26.2.2.1 a0 9 = fa := (h2_q_26.R ha0 (show ¬ ((a0 = a_25 ∧ h.1 a0 = 100 ∧ ¬ 100 = 100) ∧ (h.1 a0 = 8 ∨ h.1 a0 = 11)) from fun z9 => (show ¬ (a0 = a_25 ∧ h.1 a0 = 100 ∧ ¬ 100 = 100) from by omega) z9.1) 9).trans ((h2_q_23.R ha0 (show ¬ ((a0 = a_22 ∧ h.1 a0 = 3) ∧ (h.1 a0 = 8 ∨ h.1 a0 = 11)) from fun z9 => (show ¬ (a0 = a_22 ∧ h.1 a0 = 3) from by omega) z9.1) 9).trans (((show q_20.2.2.1 a0 9 = q_18.2.2.1 a0 9 from by rw [eq_20]; rfl)).trans (((show q_18.2.2.1 a0 9 = q_16.2.2.1 a0 9 from by rw [eq_18]; exact sg_pR_k (by decide))).trans (((show q_16.2.2.1 a0 9 = q_11.2.2.1 a0 9 from by rw [eq_16]; exact sg_pR_k (by decide))).trans (((show q_11.2.2.1 a0 9 = q_7.2.2.1 a0 9 from by rw [eq_11]; rfl)).trans ((h2_q_7.R ha0 (show ¬ ((a0 = t0 ∧ h.1 a0 = 7) ∧ (h.1 a0 = 8 ∨ h.1 a0 = 11)) from fun z9 => (show ¬ (a0 = t0 ∧ h.1 a0 = 7) from by omega) z9.1) 9).trans ((h2_q_3.R ha0 (show ¬ ((h.1 a0 = 10 ∨ h.1 a0 = 8 ∨ h.1 a0 = 9 ∨ h.1 a0 = 201 ∨ h.1 a0 = 101 ∨ h.1 a0 = 202 ∨ h.1 a0 = 102 ∨ h.1 a0 = 103 ∨ h.1 a0 = 104) ∧ (h.1 a0 = 8 ∨ h.1 a0 = 11)) from fun z9 => (show ¬ (h.1 a0 = 10 ∨ h.1 a0 = 8 ∨ h.1 a0 = 9 ∨ h.1 a0 = 201 ∨ h.1 a0 = 101 ∨ h.1 a0 = 202 ∨ h.1 a0 = 102 ∨ h.1 a0 = 103 ∨ h.1 a0 = 104) from by omega) z9.1) 9).trans (efa))))))))
    exact hret _ _ _ _ dX11_systems_99 ⟨hV_q_26, hF_q_26, ⟨z_34, by omega, by omega, z_35⟩⟩
  · refine wa_iconst B (-1) dX11_systems_41 (by decide) ?_
    refine wa_aload_n B dX11_systems_42 rfl 1 rfl ?_
    have z_36 : q_11.2.2.1 a0 3 = a_1 := ((show q_11.2.2.1 a0 3 = q_7.2.2.1 a0 3 from by rw [eq_11]; rfl)).trans (z_9)
    refine wa_getR B (C := RX11) (T := TX11) (N := 16) iq_X11_systems_X11 ha0 ka0 (by decide) rfl 3 (by decide) (by decide) (by decide +kernel) rfl (fun _ _ _ => rfl) (v := a_1) z_36 dX11_systems_43 ?_
    have z_37 : q_11.2.2.1 a_1 0 = a_10 := ((show q_11.2.2.1 a_1 0 = q_7.2.2.1 a_1 0 from by rw [eq_11]; rfl)).trans (ea_10)
    refine wa_getR B (C := RX10) (T := TX10) (N := 3) iq_X11_systems_X10 ha_1 ka_1 (by decide) rfl 0 (by decide) (by decide) (by decide +kernel) rfl (fun _ _ _ => rfl) (v := a_10) z_37 dX11_systems_46 ?_
    refine wa_getI B (C := RX8) (T := TX8) (N := 11) iq_X11_systems_X8 ha_10 ka_10 (by decide) rfl 6 (by decide) (by decide) (by decide +kernel) rfl (by decide) (v := (q_11.1 a_10 6)) rfl dX11_systems_49 ?_
    refine wa_isub B dX11_systems_52 (fun v_38 ev_38 => ?_)
    have tv_38 : v_38.toInt = (-1) - (q_11.1 a_10 6).toInt := by have b1 := zx_bd (q_11.1 a_10 6); rw [ev_38]; exact zx_sub (show (-2147483648 : Int) ≤ (-1) - (q_11.1 a_10 6).toInt by omega) (show (-1) - (q_11.1 a_10 6).toInt < (2147483648 : Int) by omega)
    have z_39 : q_11.1 a0 14 = q.1 a0 14 := ((show q_11.1 a0 14 = q_7.1 a0 14 from by rw [eq_11]; exact sg_pI_k (by decide))).trans ((h2_q_7.I ha0 (show ¬ (a0 = t0 ∧ h.1 a0 = 7) from by omega) 14).trans (h2_q_3.I ha0 (show ¬ (h.1 a0 = 10 ∨ h.1 a0 = 8 ∨ h.1 a0 = 9 ∨ h.1 a0 = 201 ∨ h.1 a0 = 101 ∨ h.1 a0 = 202 ∨ h.1 a0 = 102 ∨ h.1 a0 = 103 ∨ h.1 a0 = 104) from by omega) 14))
    have y_40 : (q_11.1 a0 14).toInt = (q.1 a0 14).toInt := by rw [z_39]
    have z_41 : q_11.1 t0 1 = 0 := ((show q_11.1 t0 1 = q_7.1 t0 1 from by rw [eq_11]; exact sg_pI_k (by decide))).trans (hw_8)
    have y_42 : (q_11.1 t0 1).toInt = 0 := by rw [z_41]; rfl
    have z_43 : q_11.2.2.1 a0 0 = t0 := ((show q_11.2.2.1 a0 0 = q_7.2.2.1 a0 0 from by rw [eq_11]; rfl)).trans ((h2_q_7.R ha0 (show ¬ ((a0 = t0 ∧ h.1 a0 = 7) ∧ (h.1 a0 = 8 ∨ h.1 a0 = 11)) from fun z9 => (show ¬ (a0 = t0 ∧ h.1 a0 = 7) from by omega) z9.1) 0).trans (z_6))
    have z_44 : q_11.2.2.1 a0 9 = fa := ((show q_11.2.2.1 a0 9 = q_7.2.2.1 a0 9 from by rw [eq_11]; rfl)).trans ((h2_q_7.R ha0 (show ¬ ((a0 = t0 ∧ h.1 a0 = 7) ∧ (h.1 a0 = 8 ∨ h.1 a0 = 11)) from fun z9 => (show ¬ (a0 = t0 ∧ h.1 a0 = 7) from by omega) z9.1) 9).trans ((h2_q_3.R ha0 (show ¬ ((h.1 a0 = 10 ∨ h.1 a0 = 8 ∨ h.1 a0 = 9 ∨ h.1 a0 = 201 ∨ h.1 a0 = 101 ∨ h.1 a0 = 202 ∨ h.1 a0 = 102 ∨ h.1 a0 = 103 ∨ h.1 a0 = 104) ∧ (h.1 a0 = 8 ∨ h.1 a0 = 11)) from fun z9 => (show ¬ (h.1 a0 = 10 ∨ h.1 a0 = 8 ∨ h.1 a0 = 9 ∨ h.1 a0 = 201 ∨ h.1 a0 = 101 ∨ h.1 a0 = 202 ∨ h.1 a0 = 102 ∨ h.1 a0 = 103 ∨ h.1 a0 = 104) from by omega) z9.1) 9).trans (efa)))
    exact hret _ _ _ _ dX11_systems_53 ⟨hV_q_11, hF_q_11, ⟨z_43, by omega, by omega, z_44⟩⟩
set_option maxHeartbeats 4000000 in
set_option maxRecDepth 100000 in
theorem k_X11_write_c (l : Launch) (dC : Nat → ClassId) (dI : Nat → Nat → Nat) (h : Sh) (L : List Nat) (hN : sx_nd L) (q : Sg) (hV : sx_V h L q) {a0 : Nat} (ha0 : a0 ∈ L) (ka0 : h.1 a0 = 11) (n1 : Int32) (n2 : Int32) {t0 : Nat} (et0 : q.2.2.1 a0 0 = t0) {tb : Nat} (etb : q.2.2.1 t0 0 = tb) {fa : Nat} (efa : q.2.2.1 a0 9 = fa)    : CMi l dC dI h L yX11_write wsX11_write ({ frames := 3, cells := 0, slots := 0, locals := 74 } : Room) q [.ref a0, .int n1, .int n2] (fun r q' => sx_V h L q' ∧ sx_fr h L (fun a => sx_c7 h a) q q' ∧ (q'.2.2.1 a0 0 = t0 ∧ (q'.1 t0 1).toInt = (q.1 t0 1).toInt ∧ (q'.1 a0 14).toInt = (q.1 a0 14).toInt ∧ q'.2.2.1 a0 9 = fa)) := by
  refine cm_i (cc := cX11_write) (mL := 3) (own := RX11) hN (by decide) rfl rfl (Nat.le_of_ble_eq_true rfl) (fun Z B hret => ?_)
  have hF : sx_fr h L (fun a => sx_c7 h a) q q := sx_fr.rf
  obtain ⟨ht0, kt0, lt0⟩ : t0 ∈ L ∧ h.1 t0 = 7 ∧ h.2.1 t0 = 1 := by obtain ⟨r9, e9, z1, z2, z3⟩ := hV.refn (t := 7) (n := 1) ha0 ka0 0 rfl (by decide) rfl (by decide); rw [← et0, e9]; exact ⟨z1, z2, z3⟩
  obtain ⟨htb, ktb, ltb⟩ : tb ∈ L ∧ h.1 tb = 300 ∧ h.2.1 tb = 440 := by obtain ⟨r9, e9, z1, z2, z3⟩ := hV.refn (t := 300) (n := 440) ht0 kt0 0 rfl (by decide) (by rw [lt0]; rfl) (by decide); rw [← etb, e9]; exact ⟨z1, z2, z3⟩
  obtain ⟨hfa, kfa, lfa⟩ : fa ∈ L ∧ h.1 fa = 403 ∧ h.2.1 fa = 12 := by obtain ⟨r9, e9, z1, z2, z3⟩ := hV.refn (t := 403) (n := 12) ha0 ka0 9 rfl (by decide) rfl (by decide); rw [← efa, e9]; exact ⟨z1, z2, z3⟩
  show WA l dC dI h L ({ frames := 3, cells := 0, slots := 0, locals := 74 } : Room) 3 Z q 0 [(0, .ref a0), (1, .int n1), (2, .int n2)] []
  refine wa_aload_n B dX11_write_0 rfl 0 rfl ?_
  refine wa_iload_n B dX11_write_1 rfl 1 rfl ?_
  refine wa_callVi B (x := (RX11, TX11, 16)) (As := [.int n1]) (rest := []) (k_X11_isSystem l dC dI h L hN q hV (a0 := a0) ha0 ka0 n1  ) (cwV 1 B.1.2.2.2.2 gX11_write_X11_isSystem rfl rfl rfl (by decide +kernel) ⟨Nat.le_of_ble_eq_true rfl, Nat.le_of_ble_eq_true rfl⟩) ha0 ka0 (by decide) rfl rfl rfl (Nat.le_of_ble_eq_true rfl) dX11_write_2 (fun r_2 q_1 w_3 => ?_)
  obtain ⟨ew_3, hw_3⟩ := w_3
  subst ew_3
  refine wa_if_eq B 25 dX11_write_5 (by decide) (fun (t_4 : r_2.toInt = 0) => ?_) (fun (t_4 : ¬ r_2.toInt = 0) => ?_)
  · refine wa_iconst B (-1) dX11_write_25 (by decide) ?_
    exact hret _ _ _ _ dX11_write_26 ⟨hV, hF, ⟨et0, by have h9 : ((-1) : Int32).toInt = (-1) := rfl; omega, by have h9 : ((-1) : Int32).toInt = (-1) := rfl; omega, efa⟩⟩
  · refine wa_iload_n B dX11_write_8 rfl 2 rfl ?_
    refine wa_iconst B 1 dX11_write_9 (by decide) ?_
    refine wa_icmp_lt B 25 dX11_write_10 (by decide) (fun (t_5 : n2.toInt < 1) => ?_) (fun (t_5 : ¬ n2.toInt < 1) => ?_)
    · refine wa_iconst B (-1) dX11_write_25 (by decide) ?_
      exact hret _ _ _ _ dX11_write_26 ⟨hV, hF, ⟨et0, by have h9 : ((-1) : Int32).toInt = (-1) := rfl; omega, by have h9 : ((-1) : Int32).toInt = (-1) := rfl; omega, efa⟩⟩
    · refine wa_aload_n B dX11_write_13 rfl 0 rfl ?_
      obtain ⟨a_6, ea_6, ha_6, ka_6⟩ := hV.ref (t := 9) ha0 ka0 11 rfl (by decide)
      refine wa_getR B (C := RX11) (T := TX11) (N := 16) iq_X11_write_X11 ha0 ka0 (by decide) rfl 11 (by decide) (by decide) (by decide +kernel) rfl (fun _ _ _ => rfl) (v := a_6) ea_6 dX11_write_14 ?_
      refine wa_iload_n B dX11_write_17 rfl 1 rfl ?_
      refine wa_iload_n B dX11_write_18 rfl 2 rfl ?_
      refine wa_callVi B (x := (RX9, TX9, 7)) (As := [.int n1, .int n2]) (rest := []) (k_X9_canWrite l dC dI h L hN q hV (a0 := a_6) ha_6 ka_6 n1 n2  (by first | assumption | omega | decide) (by first | assumption | omega | decide)) (cwV 2 B.1.2.2.2.2 gX11_write_X9_canWrite rfl rfl rfl (by decide +kernel) ⟨Nat.le_of_ble_eq_true rfl, Nat.le_of_ble_eq_true rfl⟩) ha_6 ka_6 (by decide) rfl rfl rfl (Nat.le_of_ble_eq_true rfl) dX11_write_19 (fun r_8 q_7 w_9 => ?_)
      obtain ⟨ew_9, hw_9⟩ := w_9
      subst ew_9
      refine wa_if_ne B 27 dX11_write_22 (by decide) (fun (t_10 : ¬ r_8.toInt = 0) => ?_) (fun (t_10 : r_8.toInt = 0) => ?_)
      · refine wa_aload_n B dX11_write_27 rfl 0 rfl ?_
        obtain ⟨a_11, ea_11, ha_11, ka_11, la_11⟩ := hV.refn (n := 2) (t := 7) ha0 ka0 1 rfl (by decide) rfl (by decide)
        have nt0_a_11 : ¬ t0 = a_11 := fun z9 => absurd (z9 ▸ lt0 : h.2.1 a_11 = 1) (by rw [la_11]; decide)
        refine wa_getR B (C := RX11) (T := TX11) (N := 16) iq_X11_write_X11 ha0 ka0 (by decide) rfl 1 (by decide) (by decide) (by decide +kernel) rfl (fun _ _ _ => rfl) (v := a_11) ea_11 dX11_write_28 ?_
        refine wa_callVv B (x := (RX7, TX7, 2)) (As := []) (rest := []) (k_X7_clear l dC dI h L hN q hV (a0 := a_11) ha_11 ka_11  ) (cwV 0 B.1.2.2.2.2 gX11_write_X7_clear rfl rfl rfl (by decide +kernel) ⟨Nat.le_of_ble_eq_true rfl, Nat.le_of_ble_eq_true rfl⟩) ha_11 ka_11 (by decide) rfl rfl rfl (Nat.le_of_ble_eq_true rfl) dX11_write_31 (fun q_12 w_13 => ?_)
        obtain ⟨hV_q_12, h2_q_12, hw_13⟩ := w_13
        have hF_q_12 : sx_fr h L (fun a => sx_c7 h a) q q_12 := hF.tr (h2_q_12.mono (fun a (z : a = a_11 ∧ h.1 a = 7) => (show sx_c7 h a from by (try unfold sx_mk at *); (try unfold sx_ck at *); (try unfold sx_c7 at *); omega)))
        refine wa_aload_n B dX11_write_34 rfl 0 rfl ?_
        have z_14 : q_12.2.2.1 a0 11 = a_6 := (h2_q_12.R ha0 (show ¬ ((a0 = a_11 ∧ h.1 a0 = 7) ∧ (h.1 a0 = 8 ∨ h.1 a0 = 11)) from fun z9 => (show ¬ (a0 = a_11 ∧ h.1 a0 = 7) from by omega) z9.1) 11).trans (ea_6)
        refine wa_getR B (C := RX11) (T := TX11) (N := 16) iq_X11_write_X11 ha0 ka0 (by decide) rfl 11 (by decide) (by decide) (by decide +kernel) rfl (fun _ _ _ => rfl) (v := a_6) z_14 dX11_write_35 ?_
        refine wa_aload_n B dX11_write_38 rfl 0 rfl ?_
        have z_15 : q_12.2.2.1 a0 1 = a_11 := (h2_q_12.R ha0 (show ¬ ((a0 = a_11 ∧ h.1 a0 = 7) ∧ (h.1 a0 = 8 ∨ h.1 a0 = 11)) from fun z9 => (show ¬ (a0 = a_11 ∧ h.1 a0 = 7) from by omega) z9.1) 1).trans (ea_11)
        refine wa_getR B (C := RX11) (T := TX11) (N := 16) iq_X11_write_X11 ha0 ka0 (by decide) rfl 1 (by decide) (by decide) (by decide +kernel) rfl (fun _ _ _ => rfl) (v := a_11) z_15 dX11_write_39 ?_
        refine wa_iload_n B dX11_write_42 rfl 1 rfl ?_
        refine wa_iload_n B dX11_write_43 rfl 2 rfl ?_
        obtain ⟨a_16, ea_16, ha_16, ka_16, la_16⟩ := hV_q_12.refn (n := 59) (t := 300) ha_11 ka_11 0 rfl (by decide) (by rw [la_11]; rfl) (by decide)
        refine wa_callVv B (x := (RX9, TX9, 7)) (As := [.ref a_11, .int n1, .int n2]) (rest := []) (k_X9_writeTo l dC dI h L hN q_12 hV_q_12 (a0 := a_6) ha_6 ka_6 (a1 := a_11) ha_11 ka_11 n1 n2 (b0 := a_16) ea_16  (by first | assumption | omega | decide) (by first | assumption | omega | decide)) (cwV 3 B.1.2.2.2.2 gX11_write_X9_writeTo rfl rfl rfl (by decide +kernel) ⟨Nat.le_of_ble_eq_true rfl, Nat.le_of_ble_eq_true rfl⟩) ha_6 ka_6 (by decide) rfl rfl rfl (Nat.le_of_ble_eq_true rfl) dX11_write_44 (fun q_17 w_18 => ?_)
        obtain ⟨hV_q_17, h2_q_17⟩ := w_18
        have hF_q_17 : sx_fr h L (fun a => sx_c7 h a) q q_17 := hF_q_12.tr (h2_q_17.mono (fun a (z : a = a_11 ∧ h.1 a = 7 ∨ a = a_16 ∧ h.1 a = 300) => (show sx_c7 h a from by (have c9_a_16 : a = a_16 → h.2.1 a = 59 := fun e9 => (congrArg h.2.1 e9).trans la_16); (try unfold sx_mk at *); (try unfold sx_ck at *); (try unfold sx_c7 at *); omega)))
        refine wa_aload_n B dX11_write_47 rfl 0 rfl ?_
        have z_19 : q_17.2.2.1 a0 1 = a_11 := (h2_q_17.R ha0 (show ¬ ((a0 = a_11 ∧ h.1 a0 = 7 ∨ a0 = a_16 ∧ h.1 a0 = 300) ∧ (h.1 a0 = 8 ∨ h.1 a0 = 11)) from fun z9 => (show ¬ (a0 = a_11 ∧ h.1 a0 = 7 ∨ a0 = a_16 ∧ h.1 a0 = 300) from by omega) z9.1) 1).trans (z_15)
        refine wa_getR B (C := RX11) (T := TX11) (N := 16) iq_X11_write_X11 ha0 ka0 (by decide) rfl 1 (by decide) (by decide) (by decide +kernel) rfl (fun _ _ _ => rfl) (v := a_11) z_19 dX11_write_48 ?_
        refine wa_getI B (C := RX7) (T := TX7) (N := 2) iq_X11_write_X7 ha_11 ka_11 (by decide) rfl 1 (by decide) (by decide) (by decide +kernel) rfl (by decide) (v := (q_17.1 a_11 1)) rfl dX11_write_51 ?_
        have z_21 : q_17.2.2.1 a_11 0 = a_16 := (h2_q_17.R ha_11 (fun z9 => absurd z9.2 (by omega)) 0).trans (ea_16)
        have g_20 : (0 : Int) ≤ (q_17.1 a_11 1).toInt ∧ (q_17.1 a_11 1).toInt ≤ (h.2.1 a_16 : Int) := by have z9 := hV_q_17.int ha_11 ka_11 1; rw [z_21] at z9; exact z9
        have z_22 : q_17.1 a0 14 = q.1 a0 14 := (h2_q_17.I ha0 (show ¬ (a0 = a_11 ∧ h.1 a0 = 7 ∨ a0 = a_16 ∧ h.1 a0 = 300) from by omega) 14).trans (h2_q_12.I ha0 (show ¬ (a0 = a_11 ∧ h.1 a0 = 7) from by omega) 14)
        have y_23 : (q_17.1 a0 14).toInt = (q.1 a0 14).toInt := by rw [z_22]
        have z_24 : q_17.1 t0 1 = q.1 t0 1 := (h2_q_17.I ht0 (show ¬ (t0 = a_11 ∧ h.1 t0 = 7 ∨ t0 = a_16 ∧ h.1 t0 = 300) from by omega) 1).trans (h2_q_12.I ht0 (show ¬ (t0 = a_11 ∧ h.1 t0 = 7) from by omega) 1)
        have y_25 : (q_17.1 t0 1).toInt = (q.1 t0 1).toInt := by rw [z_24]
        have z_26 : q_17.2.2.1 a0 0 = t0 := (h2_q_17.R ha0 (show ¬ ((a0 = a_11 ∧ h.1 a0 = 7 ∨ a0 = a_16 ∧ h.1 a0 = 300) ∧ (h.1 a0 = 8 ∨ h.1 a0 = 11)) from fun z9 => (show ¬ (a0 = a_11 ∧ h.1 a0 = 7 ∨ a0 = a_16 ∧ h.1 a0 = 300) from by omega) z9.1) 0).trans ((h2_q_12.R ha0 (show ¬ ((a0 = a_11 ∧ h.1 a0 = 7) ∧ (h.1 a0 = 8 ∨ h.1 a0 = 11)) from fun z9 => (show ¬ (a0 = a_11 ∧ h.1 a0 = 7) from by omega) z9.1) 0).trans (et0))
        have z_27 : q_17.2.2.1 a0 9 = fa := (h2_q_17.R ha0 (show ¬ ((a0 = a_11 ∧ h.1 a0 = 7 ∨ a0 = a_16 ∧ h.1 a0 = 300) ∧ (h.1 a0 = 8 ∨ h.1 a0 = 11)) from fun z9 => (show ¬ (a0 = a_11 ∧ h.1 a0 = 7 ∨ a0 = a_16 ∧ h.1 a0 = 300) from by omega) z9.1) 9).trans ((h2_q_12.R ha0 (show ¬ ((a0 = a_11 ∧ h.1 a0 = 7) ∧ (h.1 a0 = 8 ∨ h.1 a0 = 11)) from fun z9 => (show ¬ (a0 = a_11 ∧ h.1 a0 = 7) from by omega) z9.1) 9).trans (efa))
        exact hret _ _ _ _ dX11_write_54 ⟨hV_q_17, hF_q_17, ⟨z_26, by omega, by omega, z_27⟩⟩
      · refine wa_iconst B (-1) dX11_write_25 (by decide) ?_
        exact hret _ _ _ _ dX11_write_26 ⟨hV, hF, ⟨et0, by have h9 : ((-1) : Int32).toInt = (-1) := rfl; omega, by have h9 : ((-1) : Int32).toInt = (-1) := rfl; omega, efa⟩⟩
set_option maxHeartbeats 4000000 in
set_option maxRecDepth 100000 in
theorem k_X11_tablet_c (l : Launch) (dC : Nat → ClassId) (dI : Nat → Nat → Nat) (h : Sh) (L : List Nat) (hN : sx_nd L) (q : Sg) (hV : sx_V h L q) {a0 : Nat} (ha0 : a0 ∈ L) (ka0 : h.1 a0 = 11) {t0 : Nat} (et0 : q.2.2.1 a0 0 = t0) {tb : Nat} (etb : q.2.2.1 t0 0 = tb) {fa : Nat} (efa : q.2.2.1 a0 9 = fa)    : CMi l dC dI h L yX11_tablet wsX11_tablet ({ frames := 5, cells := 0, slots := 0, locals := 121 } : Room) q [.ref a0] (fun r q' => sx_V h L q' ∧ sx_fr h L (fun a => sx_c7 h a) q q' ∧ (q'.2.2.1 a0 0 = t0 ∧ (q'.1 t0 1).toInt = 0 ∧ (q'.1 a0 14).toInt = (q.1 a0 14).toInt ∧ q'.2.2.1 a0 9 = fa)) := by
  refine cm_i (cc := cX11_tablet) (mL := 3) (own := RX11) hN (by decide) rfl rfl (Nat.le_of_ble_eq_true rfl) (fun Z B hret => ?_)
  have hF : sx_fr h L (fun a => sx_c7 h a) q q := sx_fr.rf
  obtain ⟨ht0, kt0, lt0⟩ : t0 ∈ L ∧ h.1 t0 = 7 ∧ h.2.1 t0 = 1 := by obtain ⟨r9, e9, z1, z2, z3⟩ := hV.refn (t := 7) (n := 1) ha0 ka0 0 rfl (by decide) rfl (by decide); rw [← et0, e9]; exact ⟨z1, z2, z3⟩
  obtain ⟨htb, ktb, ltb⟩ : tb ∈ L ∧ h.1 tb = 300 ∧ h.2.1 tb = 440 := by obtain ⟨r9, e9, z1, z2, z3⟩ := hV.refn (t := 300) (n := 440) ht0 kt0 0 rfl (by decide) (by rw [lt0]; rfl) (by decide); rw [← etb, e9]; exact ⟨z1, z2, z3⟩
  obtain ⟨hfa, kfa, lfa⟩ : fa ∈ L ∧ h.1 fa = 403 ∧ h.2.1 fa = 12 := by obtain ⟨r9, e9, z1, z2, z3⟩ := hV.refn (t := 403) (n := 12) ha0 ka0 9 rfl (by decide) rfl (by decide); rw [← efa, e9]; exact ⟨z1, z2, z3⟩
  show WA l dC dI h L ({ frames := 5, cells := 0, slots := 0, locals := 121 } : Room) 3 Z q 0 [(0, .ref a0)] []
  refine wa_aload_n B dX11_tablet_0 rfl 0 rfl ?_
  refine wa_getI B (C := RX11) (T := TX11) (N := 16) iq_X11_tablet_X11 ha0 ka0 (by decide) rfl 13 (by decide) (by decide) (by decide +kernel) rfl (by decide) (v := (q.1 a0 13)) rfl dX11_tablet_1 ?_
  have g_1 : (0 : Int) ≤ (q.1 a0 13).toInt ∧ (q.1 a0 13).toInt ≤ 8 := hV.int ha0 ka0 13
  refine wa_bipush B 8 dX11_tablet_4 (by decide) ?_
  refine wa_icmp_ge B 23 dX11_tablet_6 (by decide) (fun (t_2 : 8 ≤ (q.1 a0 13).toInt) => ?_) (fun (t_2 : ¬ 8 ≤ (q.1 a0 13).toInt) => ?_)
  · refine wa_iconst B 0 dX11_tablet_23 (by decide) ?_
    refine wa_istore_n B [(1, .int 0), (0, .ref a0)] dX11_tablet_24 rfl (by decide) rfl ?_
    refine wa_iload_n B dX11_tablet_25 rfl 0 rfl ?_
    refine wa_if_eq B 60 dX11_tablet_26 (by decide) (fun _ => ?_) (fun z => absurd z (by decide))
    refine wa_iconst B 0 dX11_tablet_60 (by decide) ?_
    refine wa_istore_n B [(2, .int 0), (1, .int 0), (0, .ref a0)] dX11_tablet_61 rfl (by decide) rfl ?_
    refine wa_aload_n B dX11_tablet_62 rfl 2 rfl ?_
    refine wa_getR B (C := RX11) (T := TX11) (N := 16) iq_X11_tablet_X11 ha0 ka0 (by decide) rfl 0 (by decide) (by decide) (by decide +kernel) rfl (fun _ _ _ => rfl) (v := t0) et0 dX11_tablet_63 ?_
    refine wa_callVv B (x := (RX7, TX7, 2)) (As := []) (rest := []) (k_X7_clear l dC dI h L hN q hV (a0 := t0) ht0 kt0  ) (cwV 0 B.1.2.2.2.2 gX11_tablet_X7_clear rfl rfl rfl (by decide +kernel) ⟨Nat.le_of_ble_eq_true rfl, Nat.le_of_ble_eq_true rfl⟩) ht0 kt0 (by decide) rfl rfl rfl (Nat.le_of_ble_eq_true rfl) dX11_tablet_66 (fun q_3 w_4 => ?_)
    obtain ⟨hV_q_3, h2_q_3, hw_4⟩ := w_4
    have hF_q_3 : sx_fr h L (fun a => sx_c7 h a) q q_3 := hF.tr (h2_q_3.mono (fun a (z : a = t0 ∧ h.1 a = 7) => (show sx_c7 h a from by (try unfold sx_mk at *); (try unfold sx_ck at *); (try unfold sx_c7 at *); omega)))
    refine wa_iload_n B dX11_tablet_69 rfl 1 rfl ?_
    refine wa_if_ne B 77 dX11_tablet_70 (by decide) (fun z => absurd z (by decide)) (fun _ => ?_)
    refine wa_sipush B (-400) dX11_tablet_73 (by decide) ?_
    have z_5 : q_3.1 a0 14 = q.1 a0 14 := h2_q_3.I ha0 (show ¬ (a0 = t0 ∧ h.1 a0 = 7) from by omega) 14
    have y_6 : (q_3.1 a0 14).toInt = (q.1 a0 14).toInt := by rw [z_5]
    have y_7 : (q_3.1 t0 1).toInt = 0 := by rw [hw_4]; rfl
    have z_8 : q_3.2.2.1 a0 0 = t0 := (h2_q_3.R ha0 (show ¬ ((a0 = t0 ∧ h.1 a0 = 7) ∧ (h.1 a0 = 8 ∨ h.1 a0 = 11)) from fun z9 => (show ¬ (a0 = t0 ∧ h.1 a0 = 7) from by omega) z9.1) 0).trans (et0)
    have z_9 : q_3.2.2.1 a0 9 = fa := (h2_q_3.R ha0 (show ¬ ((a0 = t0 ∧ h.1 a0 = 7) ∧ (h.1 a0 = 8 ∨ h.1 a0 = 11)) from fun z9 => (show ¬ (a0 = t0 ∧ h.1 a0 = 7) from by omega) z9.1) 9).trans (efa)
    exact hret _ _ _ _ dX11_tablet_76 ⟨hV_q_3, hF_q_3, ⟨z_8, by have h9 : ((-400) : Int32).toInt = (-400) := rfl; omega, by have h9 : ((-400) : Int32).toInt = (-400) := rfl; omega, z_9⟩⟩
  · refine wa_aload_n B dX11_tablet_9 rfl 0 rfl ?_
    obtain ⟨a_10, ea_10, ha_10, ka_10⟩ := hV.ref (t := 9) ha0 ka0 11 rfl (by decide)
    refine wa_getR B (C := RX11) (T := TX11) (N := 16) iq_X11_tablet_X11 ha0 ka0 (by decide) rfl 11 (by decide) (by decide) (by decide +kernel) rfl (fun _ _ _ => rfl) (v := a_10) ea_10 dX11_tablet_10 ?_
    refine wa_getI B (C := RX9) (T := TX9) (N := 7) iq_X11_tablet_X9 ha_10 ka_10 (by decide) rfl 6 (by decide) (by decide) (by decide +kernel) rfl (by decide) (v := (q.1 a_10 6)) rfl dX11_tablet_13 ?_
    have g_11 : (0 : Int) ≤ (q.1 a_10 6).toInt ∧ (q.1 a_10 6).toInt ≤ 3 := hV.int ha_10 ka_10 6
    refine wa_if_le B 23 dX11_tablet_16 (by decide) (fun (t_12 : (q.1 a_10 6).toInt ≤ 0) => ?_) (fun (t_12 : ¬ (q.1 a_10 6).toInt ≤ 0) => ?_)
    · refine wa_iconst B 0 dX11_tablet_23 (by decide) ?_
      refine wa_istore_n B [(1, .int 0), (0, .ref a0)] dX11_tablet_24 rfl (by decide) rfl ?_
      refine wa_iload_n B dX11_tablet_25 rfl 0 rfl ?_
      refine wa_if_eq B 60 dX11_tablet_26 (by decide) (fun _ => ?_) (fun z => absurd z (by decide))
      refine wa_iconst B 0 dX11_tablet_60 (by decide) ?_
      refine wa_istore_n B [(2, .int 0), (1, .int 0), (0, .ref a0)] dX11_tablet_61 rfl (by decide) rfl ?_
      refine wa_aload_n B dX11_tablet_62 rfl 2 rfl ?_
      refine wa_getR B (C := RX11) (T := TX11) (N := 16) iq_X11_tablet_X11 ha0 ka0 (by decide) rfl 0 (by decide) (by decide) (by decide +kernel) rfl (fun _ _ _ => rfl) (v := t0) et0 dX11_tablet_63 ?_
      refine wa_callVv B (x := (RX7, TX7, 2)) (As := []) (rest := []) (k_X7_clear l dC dI h L hN q hV (a0 := t0) ht0 kt0  ) (cwV 0 B.1.2.2.2.2 gX11_tablet_X7_clear rfl rfl rfl (by decide +kernel) ⟨Nat.le_of_ble_eq_true rfl, Nat.le_of_ble_eq_true rfl⟩) ht0 kt0 (by decide) rfl rfl rfl (Nat.le_of_ble_eq_true rfl) dX11_tablet_66 (fun q_13 w_14 => ?_)
      obtain ⟨hV_q_13, h2_q_13, hw_14⟩ := w_14
      have hF_q_13 : sx_fr h L (fun a => sx_c7 h a) q q_13 := hF.tr (h2_q_13.mono (fun a (z : a = t0 ∧ h.1 a = 7) => (show sx_c7 h a from by (try unfold sx_mk at *); (try unfold sx_ck at *); (try unfold sx_c7 at *); omega)))
      refine wa_iload_n B dX11_tablet_69 rfl 1 rfl ?_
      refine wa_if_ne B 77 dX11_tablet_70 (by decide) (fun z => absurd z (by decide)) (fun _ => ?_)
      refine wa_sipush B (-400) dX11_tablet_73 (by decide) ?_
      have z_15 : q_13.1 a0 14 = q.1 a0 14 := h2_q_13.I ha0 (show ¬ (a0 = t0 ∧ h.1 a0 = 7) from by omega) 14
      have y_16 : (q_13.1 a0 14).toInt = (q.1 a0 14).toInt := by rw [z_15]
      have y_17 : (q_13.1 t0 1).toInt = 0 := by rw [hw_14]; rfl
      have z_18 : q_13.2.2.1 a0 0 = t0 := (h2_q_13.R ha0 (show ¬ ((a0 = t0 ∧ h.1 a0 = 7) ∧ (h.1 a0 = 8 ∨ h.1 a0 = 11)) from fun z9 => (show ¬ (a0 = t0 ∧ h.1 a0 = 7) from by omega) z9.1) 0).trans (et0)
      have z_19 : q_13.2.2.1 a0 9 = fa := (h2_q_13.R ha0 (show ¬ ((a0 = t0 ∧ h.1 a0 = 7) ∧ (h.1 a0 = 8 ∨ h.1 a0 = 11)) from fun z9 => (show ¬ (a0 = t0 ∧ h.1 a0 = 7) from by omega) z9.1) 9).trans (efa)
      exact hret _ _ _ _ dX11_tablet_76 ⟨hV_q_13, hF_q_13, ⟨z_18, by have h9 : ((-400) : Int32).toInt = (-400) := rfl; omega, by have h9 : ((-400) : Int32).toInt = (-400) := rfl; omega, z_19⟩⟩
    · refine wa_iconst B 1 dX11_tablet_19 (by decide) ?_
      refine wa_goto B 24 dX11_tablet_20 (by decide) ?_
      refine wa_istore_n B [(1, .int 1), (0, .ref a0)] dX11_tablet_24 rfl (by decide) rfl ?_
      refine wa_iload_n B dX11_tablet_25 rfl 0 rfl ?_
      refine wa_if_eq B 60 dX11_tablet_26 (by decide) (fun z => absurd z (by decide)) (fun _ => ?_)
      refine wa_aload_n B dX11_tablet_29 rfl 1 rfl ?_
      obtain ⟨a_20, ea_20, ha_20, ka_20⟩ := hV.ref (t := 6) ha0 ka0 4 rfl (by decide)
      refine wa_getR B (C := RX11) (T := TX11) (N := 16) iq_X11_tablet_X11 ha0 ka0 (by decide) rfl 4 (by decide) (by decide) (by decide +kernel) rfl (fun _ _ _ => rfl) (v := a_20) ea_20 dX11_tablet_30 ?_
      refine wa_aload_n B dX11_tablet_33 rfl 1 rfl ?_
      refine wa_getR B (C := RX11) (T := TX11) (N := 16) iq_X11_tablet_X11 ha0 ka0 (by decide) rfl 0 (by decide) (by decide) (by decide +kernel) rfl (fun _ _ _ => rfl) (v := t0) et0 dX11_tablet_34 ?_
      refine wa_aload_n B dX11_tablet_37 rfl 1 rfl ?_
      refine wa_getR B (C := RX11) (T := TX11) (N := 16) iq_X11_tablet_X11 ha0 ka0 (by decide) rfl 11 (by decide) (by decide) (by decide +kernel) rfl (fun _ _ _ => rfl) (v := a_10) ea_10 dX11_tablet_38 ?_
      refine wa_aload_n B dX11_tablet_41 rfl 1 rfl ?_
      obtain ⟨a_21, ea_21, ha_21, ka_21, la_21⟩ := hV.refn (n := 8) (t := 400) ha0 ka0 7 rfl (by decide) rfl (by decide)
      refine wa_getR B (C := RX11) (T := TX11) (N := 16) iq_X11_tablet_X11 ha0 ka0 (by decide) rfl 7 (by decide) (by decide) (by decide +kernel) rfl (fun _ _ _ => rfl) (v := a_21) ea_21 dX11_tablet_42 ?_
      refine wa_aload_n B dX11_tablet_45 rfl 1 rfl ?_
      refine wa_getI B (C := RX11) (T := TX11) (N := 16) iq_X11_tablet_X11 ha0 ka0 (by decide) rfl 13 (by decide) (by decide) (by decide +kernel) rfl (by decide) (v := (q.1 a0 13)) rfl dX11_tablet_46 ?_
      obtain ⟨a_22, ea_22, ha_22, ka_22⟩ := hV.elem (t := 5) ha_21 ka_21 (by decide) rfl (zx_ix (i := (q.1 a0 13)) (show 0 ≤ (q.1 a0 13).toInt by omega) (show (q.1 a0 13).toInt < (h.2.1 a_21 : Int) by omega))
      refine wa_aaload B (t0 := 3) ha_21 ka_21 (by decide) rfl (show 0 ≤ (q.1 a0 13).toInt by omega) (show (q.1 a0 13).toInt < (h.2.1 a_21 : Int) by omega) (v := a_22) ea_22 dX11_tablet_49 ?_
      refine wa_callVi B (x := (RX6, TX6, 8)) (As := [.ref t0, .ref a_10, .ref a_22]) (rest := []) (k_X6_read l dC dI h L hN q hV (a0 := a_20) ha_20 ka_20 (a1 := t0) ht0 kt0 (a2 := a_10) ha_10 ka_10 (a3 := a_22) ha_22 ka_22  ) (cwV 3 B.1.2.2.2.2 gX11_tablet_X6_read rfl rfl rfl (by decide +kernel) ⟨Nat.le_of_ble_eq_true rfl, Nat.le_of_ble_eq_true rfl⟩) ha_20 ka_20 (by decide) rfl rfl rfl (Nat.le_of_ble_eq_true rfl) dX11_tablet_50 (fun r_24 q_23 w_25 => ?_)
      obtain ⟨hV_q_23, h2_q_23, hw_25⟩ := w_25
      have hF_q_23 : sx_fr h L (fun a => sx_c7 h a) q q_23 := hF.tr (h2_q_23.mono (fun a (z : h.1 a = 6 ∨ h.1 a = 8 ∨ h.1 a = 5 ∨ h.1 a = 2 ∨ h.1 a = 1) => (show sx_c7 h a from by (try unfold sx_mk at *); (try unfold sx_ck at *); (try unfold sx_c7 at *); omega)))
      refine wa_if_eq B 60 dX11_tablet_53 (by decide) (fun (t_26 : r_24.toInt = 0) => ?_) (fun (t_26 : ¬ r_24.toInt = 0) => ?_)
      · refine wa_iconst B 0 dX11_tablet_60 (by decide) ?_
        refine wa_istore_n B [(2, .int 0), (1, .int 1), (0, .ref a0)] dX11_tablet_61 rfl (by decide) rfl ?_
        refine wa_aload_n B dX11_tablet_62 rfl 2 rfl ?_
        have z_27 : q_23.2.2.1 a0 0 = t0 := (h2_q_23.R ha0 (show ¬ ((h.1 a0 = 6 ∨ h.1 a0 = 8 ∨ h.1 a0 = 5 ∨ h.1 a0 = 2 ∨ h.1 a0 = 1) ∧ (h.1 a0 = 8 ∨ h.1 a0 = 11)) from fun z9 => (show ¬ (h.1 a0 = 6 ∨ h.1 a0 = 8 ∨ h.1 a0 = 5 ∨ h.1 a0 = 2 ∨ h.1 a0 = 1) from by omega) z9.1) 0).trans (et0)
        refine wa_getR B (C := RX11) (T := TX11) (N := 16) iq_X11_tablet_X11 ha0 ka0 (by decide) rfl 0 (by decide) (by decide) (by decide +kernel) rfl (fun _ _ _ => rfl) (v := t0) z_27 dX11_tablet_63 ?_
        refine wa_callVv B (x := (RX7, TX7, 2)) (As := []) (rest := []) (k_X7_clear l dC dI h L hN q_23 hV_q_23 (a0 := t0) ht0 kt0  ) (cwV 0 B.1.2.2.2.2 gX11_tablet_X7_clear rfl rfl rfl (by decide +kernel) ⟨Nat.le_of_ble_eq_true rfl, Nat.le_of_ble_eq_true rfl⟩) ht0 kt0 (by decide) rfl rfl rfl (Nat.le_of_ble_eq_true rfl) dX11_tablet_66 (fun q_28 w_29 => ?_)
        obtain ⟨hV_q_28, h2_q_28, hw_29⟩ := w_29
        have hF_q_28 : sx_fr h L (fun a => sx_c7 h a) q q_28 := hF_q_23.tr (h2_q_28.mono (fun a (z : a = t0 ∧ h.1 a = 7) => (show sx_c7 h a from by (try unfold sx_mk at *); (try unfold sx_ck at *); (try unfold sx_c7 at *); omega)))
        refine wa_iload_n B dX11_tablet_69 rfl 1 rfl ?_
        refine wa_if_ne B 77 dX11_tablet_70 (by decide) (fun _ => ?_) (fun z => absurd z (by decide))
        refine wa_aload_n B dX11_tablet_77 rfl 2 rfl ?_
        refine wa_aload_n B dX11_tablet_78 rfl 2 rfl ?_
        have z_30 : q_28.2.2.1 a0 4 = a_20 := (h2_q_28.R ha0 (show ¬ ((a0 = t0 ∧ h.1 a0 = 7) ∧ (h.1 a0 = 8 ∨ h.1 a0 = 11)) from fun z9 => (show ¬ (a0 = t0 ∧ h.1 a0 = 7) from by omega) z9.1) 4).trans ((h2_q_23.R ha0 (show ¬ ((h.1 a0 = 6 ∨ h.1 a0 = 8 ∨ h.1 a0 = 5 ∨ h.1 a0 = 2 ∨ h.1 a0 = 1) ∧ (h.1 a0 = 8 ∨ h.1 a0 = 11)) from fun z9 => (show ¬ (h.1 a0 = 6 ∨ h.1 a0 = 8 ∨ h.1 a0 = 5 ∨ h.1 a0 = 2 ∨ h.1 a0 = 1) from by omega) z9.1) 4).trans (ea_20))
        refine wa_getR B (C := RX11) (T := TX11) (N := 16) iq_X11_tablet_X11 ha0 ka0 (by decide) rfl 4 (by decide) (by decide) (by decide +kernel) rfl (fun _ _ _ => rfl) (v := a_20) z_30 dX11_tablet_79 ?_
        obtain ⟨a_31, ea_31, ha_31, ka_31⟩ := hV_q_28.ref (t := 8) ha_20 ka_20 0 rfl (by decide)
        refine wa_getR B (C := RX6) (T := TX6) (N := 8) iq_X11_tablet_X6 ha_20 ka_20 (by decide) rfl 0 (by decide) (by decide) (by decide +kernel) rfl (fun _ _ _ => rfl) (v := a_31) ea_31 dX11_tablet_82 ?_
        refine wa_getI B (C := RX8) (T := TX8) (N := 11) iq_X11_tablet_X8 ha_31 ka_31 (by decide) rfl 5 (by decide) (by decide) (by decide +kernel) rfl (by decide) (v := (q_28.1 a_31 5)) rfl dX11_tablet_85 ?_
        refine wa_putI B (C := RX11) (T := TX11) (N := 16) iq_X11_tablet_X11 ha0 ka0 (by decide) rfl 15 (by decide) (by decide) (by decide +kernel) rfl (by decide) (v := (q_28.1 a_31 5)) (ty := .int) tyX11 tyX11_ok nmX11 rfl (by decide +kernel) rfl rfl dX11_tablet_88 (fun q_32 eq_32 => ?_)
        have hV_q_32 : sx_V h L q_32 := by rw [eq_32]; exact hV_q_28.pI ka0 trivial
        have hF_q_32 : sx_fr h L (fun a => sx_c7 h a) q q_32 := hF_q_28.tr (by rw [eq_32]; exact sx_fr.pI (show sx_c7 h a0 from by (try unfold sx_mk at *); (try unfold sx_ck at *); (try unfold sx_c7 at *); omega))
        have z_33 : q_32.1 a0 15 = (q_28.1 a_31 5) := by rw [eq_32]; exact sg_pI_e
        refine wa_iload_n B dX11_tablet_91 rfl 0 rfl ?_
        refine wa_if_ne B 108 dX11_tablet_92 (by decide) (fun z => absurd z (by decide)) (fun _ => ?_)
        refine wa_iconst B (-1) dX11_tablet_95 (by decide) ?_
        refine wa_aload_n B dX11_tablet_96 rfl 2 rfl ?_
        have z_34 : q_32.2.2.1 a0 4 = a_20 := ((show q_32.2.2.1 a0 4 = q_28.2.2.1 a0 4 from by rw [eq_32]; rfl)).trans (z_30)
        refine wa_getR B (C := RX11) (T := TX11) (N := 16) iq_X11_tablet_X11 ha0 ka0 (by decide) rfl 4 (by decide) (by decide) (by decide +kernel) rfl (fun _ _ _ => rfl) (v := a_20) z_34 dX11_tablet_97 ?_
        have z_35 : q_32.2.2.1 a_20 0 = a_31 := ((show q_32.2.2.1 a_20 0 = q_28.2.2.1 a_20 0 from by rw [eq_32]; rfl)).trans (ea_31)
        refine wa_getR B (C := RX6) (T := TX6) (N := 8) iq_X11_tablet_X6 ha_20 ka_20 (by decide) rfl 0 (by decide) (by decide) (by decide +kernel) rfl (fun _ _ _ => rfl) (v := a_31) z_35 dX11_tablet_100 ?_
        refine wa_getI B (C := RX8) (T := TX8) (N := 11) iq_X11_tablet_X8 ha_31 ka_31 (by decide) rfl 6 (by decide) (by decide) (by decide +kernel) rfl (by decide) (v := (q_32.1 a_31 6)) rfl dX11_tablet_103 ?_
        refine wa_isub B dX11_tablet_106 (fun v_36 ev_36 => ?_)
        have tv_36 : v_36.toInt = (-1) - (q_32.1 a_31 6).toInt := by have b1 := zx_bd (q_32.1 a_31 6); rw [ev_36]; exact zx_sub (show (-2147483648 : Int) ≤ (-1) - (q_32.1 a_31 6).toInt by omega) (show (-1) - (q_32.1 a_31 6).toInt < (2147483648 : Int) by omega)
        have z_37 : q_32.1 a0 14 = q.1 a0 14 := ((show q_32.1 a0 14 = q_28.1 a0 14 from by rw [eq_32]; exact sg_pI_k (by decide))).trans ((h2_q_28.I ha0 (show ¬ (a0 = t0 ∧ h.1 a0 = 7) from by omega) 14).trans (h2_q_23.I ha0 (show ¬ (h.1 a0 = 6 ∨ h.1 a0 = 8 ∨ h.1 a0 = 5 ∨ h.1 a0 = 2 ∨ h.1 a0 = 1) from by omega) 14))
        have y_38 : (q_32.1 a0 14).toInt = (q.1 a0 14).toInt := by rw [z_37]
        have z_39 : q_32.1 t0 1 = 0 := ((show q_32.1 t0 1 = q_28.1 t0 1 from by rw [eq_32]; exact sg_pI_k (by decide))).trans (hw_29)
        have y_40 : (q_32.1 t0 1).toInt = 0 := by rw [z_39]; rfl
        have z_41 : q_32.2.2.1 a0 0 = t0 := ((show q_32.2.2.1 a0 0 = q_28.2.2.1 a0 0 from by rw [eq_32]; rfl)).trans ((h2_q_28.R ha0 (show ¬ ((a0 = t0 ∧ h.1 a0 = 7) ∧ (h.1 a0 = 8 ∨ h.1 a0 = 11)) from fun z9 => (show ¬ (a0 = t0 ∧ h.1 a0 = 7) from by omega) z9.1) 0).trans (z_27))
        have z_42 : q_32.2.2.1 a0 9 = fa := ((show q_32.2.2.1 a0 9 = q_28.2.2.1 a0 9 from by rw [eq_32]; rfl)).trans ((h2_q_28.R ha0 (show ¬ ((a0 = t0 ∧ h.1 a0 = 7) ∧ (h.1 a0 = 8 ∨ h.1 a0 = 11)) from fun z9 => (show ¬ (a0 = t0 ∧ h.1 a0 = 7) from by omega) z9.1) 9).trans ((h2_q_23.R ha0 (show ¬ ((h.1 a0 = 6 ∨ h.1 a0 = 8 ∨ h.1 a0 = 5 ∨ h.1 a0 = 2 ∨ h.1 a0 = 1) ∧ (h.1 a0 = 8 ∨ h.1 a0 = 11)) from fun z9 => (show ¬ (h.1 a0 = 6 ∨ h.1 a0 = 8 ∨ h.1 a0 = 5 ∨ h.1 a0 = 2 ∨ h.1 a0 = 1) from by omega) z9.1) 9).trans (efa)))
        exact hret _ _ _ _ dX11_tablet_107 ⟨hV_q_32, hF_q_32, ⟨z_41, by omega, by omega, z_42⟩⟩
      · refine wa_iconst B 1 dX11_tablet_56 (by decide) ?_
        refine wa_goto B 61 dX11_tablet_57 (by decide) ?_
        refine wa_istore_n B [(2, .int 1), (1, .int 1), (0, .ref a0)] dX11_tablet_61 rfl (by decide) rfl ?_
        refine wa_aload_n B dX11_tablet_62 rfl 2 rfl ?_
        have z_43 : q_23.2.2.1 a0 0 = t0 := (h2_q_23.R ha0 (show ¬ ((h.1 a0 = 6 ∨ h.1 a0 = 8 ∨ h.1 a0 = 5 ∨ h.1 a0 = 2 ∨ h.1 a0 = 1) ∧ (h.1 a0 = 8 ∨ h.1 a0 = 11)) from fun z9 => (show ¬ (h.1 a0 = 6 ∨ h.1 a0 = 8 ∨ h.1 a0 = 5 ∨ h.1 a0 = 2 ∨ h.1 a0 = 1) from by omega) z9.1) 0).trans (et0)
        refine wa_getR B (C := RX11) (T := TX11) (N := 16) iq_X11_tablet_X11 ha0 ka0 (by decide) rfl 0 (by decide) (by decide) (by decide +kernel) rfl (fun _ _ _ => rfl) (v := t0) z_43 dX11_tablet_63 ?_
        refine wa_callVv B (x := (RX7, TX7, 2)) (As := []) (rest := []) (k_X7_clear l dC dI h L hN q_23 hV_q_23 (a0 := t0) ht0 kt0  ) (cwV 0 B.1.2.2.2.2 gX11_tablet_X7_clear rfl rfl rfl (by decide +kernel) ⟨Nat.le_of_ble_eq_true rfl, Nat.le_of_ble_eq_true rfl⟩) ht0 kt0 (by decide) rfl rfl rfl (Nat.le_of_ble_eq_true rfl) dX11_tablet_66 (fun q_44 w_45 => ?_)
        obtain ⟨hV_q_44, h2_q_44, hw_45⟩ := w_45
        have hF_q_44 : sx_fr h L (fun a => sx_c7 h a) q q_44 := hF_q_23.tr (h2_q_44.mono (fun a (z : a = t0 ∧ h.1 a = 7) => (show sx_c7 h a from by (try unfold sx_mk at *); (try unfold sx_ck at *); (try unfold sx_c7 at *); omega)))
        refine wa_iload_n B dX11_tablet_69 rfl 1 rfl ?_
        refine wa_if_ne B 77 dX11_tablet_70 (by decide) (fun _ => ?_) (fun z => absurd z (by decide))
        refine wa_aload_n B dX11_tablet_77 rfl 2 rfl ?_
        refine wa_aload_n B dX11_tablet_78 rfl 2 rfl ?_
        have z_46 : q_44.2.2.1 a0 4 = a_20 := (h2_q_44.R ha0 (show ¬ ((a0 = t0 ∧ h.1 a0 = 7) ∧ (h.1 a0 = 8 ∨ h.1 a0 = 11)) from fun z9 => (show ¬ (a0 = t0 ∧ h.1 a0 = 7) from by omega) z9.1) 4).trans ((h2_q_23.R ha0 (show ¬ ((h.1 a0 = 6 ∨ h.1 a0 = 8 ∨ h.1 a0 = 5 ∨ h.1 a0 = 2 ∨ h.1 a0 = 1) ∧ (h.1 a0 = 8 ∨ h.1 a0 = 11)) from fun z9 => (show ¬ (h.1 a0 = 6 ∨ h.1 a0 = 8 ∨ h.1 a0 = 5 ∨ h.1 a0 = 2 ∨ h.1 a0 = 1) from by omega) z9.1) 4).trans (ea_20))
        refine wa_getR B (C := RX11) (T := TX11) (N := 16) iq_X11_tablet_X11 ha0 ka0 (by decide) rfl 4 (by decide) (by decide) (by decide +kernel) rfl (fun _ _ _ => rfl) (v := a_20) z_46 dX11_tablet_79 ?_
        obtain ⟨a_47, ea_47, ha_47, ka_47⟩ := hV_q_44.ref (t := 8) ha_20 ka_20 0 rfl (by decide)
        refine wa_getR B (C := RX6) (T := TX6) (N := 8) iq_X11_tablet_X6 ha_20 ka_20 (by decide) rfl 0 (by decide) (by decide) (by decide +kernel) rfl (fun _ _ _ => rfl) (v := a_47) ea_47 dX11_tablet_82 ?_
        refine wa_getI B (C := RX8) (T := TX8) (N := 11) iq_X11_tablet_X8 ha_47 ka_47 (by decide) rfl 5 (by decide) (by decide) (by decide +kernel) rfl (by decide) (v := (q_44.1 a_47 5)) rfl dX11_tablet_85 ?_
        refine wa_putI B (C := RX11) (T := TX11) (N := 16) iq_X11_tablet_X11 ha0 ka0 (by decide) rfl 15 (by decide) (by decide) (by decide +kernel) rfl (by decide) (v := (q_44.1 a_47 5)) (ty := .int) tyX11 tyX11_ok nmX11 rfl (by decide +kernel) rfl rfl dX11_tablet_88 (fun q_48 eq_48 => ?_)
        have hV_q_48 : sx_V h L q_48 := by rw [eq_48]; exact hV_q_44.pI ka0 trivial
        have hF_q_48 : sx_fr h L (fun a => sx_c7 h a) q q_48 := hF_q_44.tr (by rw [eq_48]; exact sx_fr.pI (show sx_c7 h a0 from by (try unfold sx_mk at *); (try unfold sx_ck at *); (try unfold sx_c7 at *); omega))
        have z_49 : q_48.1 a0 15 = (q_44.1 a_47 5) := by rw [eq_48]; exact sg_pI_e
        refine wa_iload_n B dX11_tablet_91 rfl 0 rfl ?_
        refine wa_if_ne B 108 dX11_tablet_92 (by decide) (fun _ => ?_) (fun z => absurd z (by decide))
        refine wa_aload_n B dX11_tablet_108 rfl 2 rfl ?_
        refine wa_dup B dX11_tablet_109 rfl ?_
        have z_50 : q_48.1 a0 13 = q.1 a0 13 := ((show q_48.1 a0 13 = q_44.1 a0 13 from by rw [eq_48]; exact sg_pI_k (by decide))).trans ((h2_q_44.I ha0 (show ¬ (a0 = t0 ∧ h.1 a0 = 7) from by omega) 13).trans (h2_q_23.I ha0 (show ¬ (h.1 a0 = 6 ∨ h.1 a0 = 8 ∨ h.1 a0 = 5 ∨ h.1 a0 = 2 ∨ h.1 a0 = 1) from by omega) 13))
        refine wa_getI B (C := RX11) (T := TX11) (N := 16) iq_X11_tablet_X11 ha0 ka0 (by decide) rfl 13 (by decide) (by decide) (by decide +kernel) rfl (by decide) (v := (q.1 a0 13)) z_50 dX11_tablet_110 ?_
        refine wa_iconst B 1 dX11_tablet_113 (by decide) ?_
        refine wa_iadd B dX11_tablet_114 (fun v_51 ev_51 => ?_)
        have tv_51 : v_51.toInt = (q.1 a0 13).toInt + 1 := by have b0 := zx_bd (q.1 a0 13); rw [ev_51]; exact zx_add (show (-2147483648 : Int) ≤ (q.1 a0 13).toInt + 1 by omega) (show (q.1 a0 13).toInt + 1 < (2147483648 : Int) by omega)
        refine wa_putI B (C := RX11) (T := TX11) (N := 16) iq_X11_tablet_X11 ha0 ka0 (by decide) rfl 13 (by decide) (by decide) (by decide +kernel) rfl (by decide) (v := v_51) (ty := .int) tyX11 tyX11_ok nmX11 rfl (by decide +kernel) rfl rfl dX11_tablet_115 (fun q_52 eq_52 => ?_)
        have hV_q_52 : sx_V h L q_52 := by rw [eq_52]; exact hV_q_48.pI ka0 (show sx_in v_51 (0) 8 from ⟨by omega, by omega⟩)
        have hF_q_52 : sx_fr h L (fun a => sx_c7 h a) q q_52 := hF_q_48.tr (by rw [eq_52]; exact sx_fr.pI (show sx_c7 h a0 from by (try unfold sx_mk at *); (try unfold sx_ck at *); (try unfold sx_c7 at *); omega))
        have z_53 : q_52.1 a0 13 = v_51 := by rw [eq_52]; exact sg_pI_e
        refine wa_aload_n B dX11_tablet_118 rfl 2 rfl ?_
        refine wa_getI B (C := RX11) (T := TX11) (N := 16) iq_X11_tablet_X11 ha0 ka0 (by decide) rfl 13 (by decide) (by decide) (by decide +kernel) rfl (by decide) (v := v_51) z_53 dX11_tablet_119 ?_
        have g_54 : (0 : Int) ≤ v_51.toInt ∧ v_51.toInt ≤ 8 := by rw [← z_53]; exact hV_q_52.int ha0 ka0 13
        refine wa_iconst B 1 dX11_tablet_122 (by decide) ?_
        refine wa_isub B dX11_tablet_123 (fun v_55 ev_55 => ?_)
        have tv_55 : v_55.toInt = v_51.toInt - 1 := by have b0 := zx_bd v_51; rw [ev_55]; exact zx_sub (show (-2147483648 : Int) ≤ v_51.toInt - 1 by omega) (show v_51.toInt - 1 < (2147483648 : Int) by omega)
        have z_56 : q_52.1 a0 14 = q.1 a0 14 := ((show q_52.1 a0 14 = q_48.1 a0 14 from by rw [eq_52]; exact sg_pI_k (by decide))).trans (((show q_48.1 a0 14 = q_44.1 a0 14 from by rw [eq_48]; exact sg_pI_k (by decide))).trans ((h2_q_44.I ha0 (show ¬ (a0 = t0 ∧ h.1 a0 = 7) from by omega) 14).trans (h2_q_23.I ha0 (show ¬ (h.1 a0 = 6 ∨ h.1 a0 = 8 ∨ h.1 a0 = 5 ∨ h.1 a0 = 2 ∨ h.1 a0 = 1) from by omega) 14)))
        have y_57 : (q_52.1 a0 14).toInt = (q.1 a0 14).toInt := by rw [z_56]
        have z_58 : q_52.1 t0 1 = 0 := ((show q_52.1 t0 1 = q_48.1 t0 1 from by rw [eq_52]; exact sg_pI_k (by decide))).trans (((show q_48.1 t0 1 = q_44.1 t0 1 from by rw [eq_48]; exact sg_pI_k (by decide))).trans (hw_45))
        have y_59 : (q_52.1 t0 1).toInt = 0 := by rw [z_58]; rfl
        have z_60 : q_52.2.2.1 a0 0 = t0 := ((show q_52.2.2.1 a0 0 = q_48.2.2.1 a0 0 from by rw [eq_52]; rfl)).trans (((show q_48.2.2.1 a0 0 = q_44.2.2.1 a0 0 from by rw [eq_48]; rfl)).trans ((h2_q_44.R ha0 (show ¬ ((a0 = t0 ∧ h.1 a0 = 7) ∧ (h.1 a0 = 8 ∨ h.1 a0 = 11)) from fun z9 => (show ¬ (a0 = t0 ∧ h.1 a0 = 7) from by omega) z9.1) 0).trans (z_43)))
        have z_61 : q_52.2.2.1 a0 9 = fa := ((show q_52.2.2.1 a0 9 = q_48.2.2.1 a0 9 from by rw [eq_52]; rfl)).trans (((show q_48.2.2.1 a0 9 = q_44.2.2.1 a0 9 from by rw [eq_48]; rfl)).trans ((h2_q_44.R ha0 (show ¬ ((a0 = t0 ∧ h.1 a0 = 7) ∧ (h.1 a0 = 8 ∨ h.1 a0 = 11)) from fun z9 => (show ¬ (a0 = t0 ∧ h.1 a0 = 7) from by omega) z9.1) 9).trans ((h2_q_23.R ha0 (show ¬ ((h.1 a0 = 6 ∨ h.1 a0 = 8 ∨ h.1 a0 = 5 ∨ h.1 a0 = 2 ∨ h.1 a0 = 1) ∧ (h.1 a0 = 8 ∨ h.1 a0 = 11)) from fun z9 => (show ¬ (h.1 a0 = 6 ∨ h.1 a0 = 8 ∨ h.1 a0 = 5 ∨ h.1 a0 = 2 ∨ h.1 a0 = 1) from by omega) z9.1) 9).trans (efa))))
        exact hret _ _ _ _ dX11_tablet_124 ⟨hV_q_52, hF_q_52, ⟨z_60, by omega, by omega, z_61⟩⟩
set_option maxHeartbeats 4000000 in
set_option maxRecDepth 100000 in
theorem k_X11_readings_c (l : Launch) (dC : Nat → ClassId) (dI : Nat → Nat → Nat) (h : Sh) (L : List Nat) (hN : sx_nd L) (q : Sg) (hV : sx_V h L q) {a0 : Nat} (ha0 : a0 ∈ L) (ka0 : h.1 a0 = 11) (n1 : Int32) {t0 : Nat} (et0 : q.2.2.1 a0 0 = t0) {tb : Nat} (etb : q.2.2.1 t0 0 = tb) {fa : Nat} (efa : q.2.2.1 a0 9 = fa)    : CMi l dC dI h L yX11_readings wsX11_readings ({ frames := 10, cells := 0, slots := 0, locals := 243 } : Room) q [.ref a0, .int n1] (fun r q' => sx_V h L q' ∧ sx_fr h L (fun a => sx_c7 h a) q q' ∧ (q'.2.2.1 a0 0 = t0 ∧ (q'.1 t0 1).toInt = (q.1 t0 1).toInt ∧ (q'.1 a0 14).toInt = (q.1 a0 14).toInt ∧ q'.2.2.1 a0 9 = fa)) := by
  refine cm_i (cc := cX11_readings) (mL := 2) (own := RX11) hN (by decide) rfl rfl (Nat.le_of_ble_eq_true rfl) (fun Z B hret => ?_)
  have hF : sx_fr h L (fun a => sx_c7 h a) q q := sx_fr.rf
  obtain ⟨ht0, kt0, lt0⟩ : t0 ∈ L ∧ h.1 t0 = 7 ∧ h.2.1 t0 = 1 := by obtain ⟨r9, e9, z1, z2, z3⟩ := hV.refn (t := 7) (n := 1) ha0 ka0 0 rfl (by decide) rfl (by decide); rw [← et0, e9]; exact ⟨z1, z2, z3⟩
  obtain ⟨htb, ktb, ltb⟩ : tb ∈ L ∧ h.1 tb = 300 ∧ h.2.1 tb = 440 := by obtain ⟨r9, e9, z1, z2, z3⟩ := hV.refn (t := 300) (n := 440) ht0 kt0 0 rfl (by decide) (by rw [lt0]; rfl) (by decide); rw [← etb, e9]; exact ⟨z1, z2, z3⟩
  obtain ⟨hfa, kfa, lfa⟩ : fa ∈ L ∧ h.1 fa = 403 ∧ h.2.1 fa = 12 := by obtain ⟨r9, e9, z1, z2, z3⟩ := hV.refn (t := 403) (n := 12) ha0 ka0 9 rfl (by decide) rfl (by decide); rw [← efa, e9]; exact ⟨z1, z2, z3⟩
  show WA l dC dI h L ({ frames := 10, cells := 0, slots := 0, locals := 243 } : Room) 2 Z q 0 [(0, .ref a0), (1, .int n1)] []
  refine wa_aload_n B dX11_readings_0 rfl 0 rfl ?_
  refine wa_iload_n B dX11_readings_1 rfl 1 rfl ?_
  refine wa_callVi B (x := (RX11, TX11, 16)) (As := [.int n1]) (rest := []) (k_X11_isTablet l dC dI h L hN q hV (a0 := a0) ha0 ka0 n1  ) (cwV 1 B.1.2.2.2.2 gX11_readings_X11_isTablet rfl rfl rfl (by decide +kernel) ⟨Nat.le_of_ble_eq_true rfl, Nat.le_of_ble_eq_true rfl⟩) ha0 ka0 (by decide) rfl rfl rfl (Nat.le_of_ble_eq_true rfl) dX11_readings_2 (fun r_2 q_1 w_3 => ?_)
  obtain ⟨ew_3, hw_3⟩ := w_3
  subst ew_3
  refine wa_if_eq B 19 dX11_readings_5 (by decide) (fun (t_4 : r_2.toInt = 0) => ?_) (fun (t_4 : ¬ r_2.toInt = 0) => ?_)
  · refine wa_iconst B (-1) dX11_readings_19 (by decide) ?_
    exact hret _ _ _ _ dX11_readings_20 ⟨hV, hF, ⟨et0, by have h9 : ((-1) : Int32).toInt = (-1) := rfl; omega, by have h9 : ((-1) : Int32).toInt = (-1) := rfl; omega, efa⟩⟩
  · refine wa_aload_n B dX11_readings_8 rfl 0 rfl ?_
    refine wa_iload_n B dX11_readings_9 rfl 1 rfl ?_
    refine wa_callVr B (x := (RX11, TX11, 16)) (As := [.int n1]) (rest := []) (k_X11_solved l dC dI h L hN q hV (a0 := a0) ha0 ka0 n1  (by first | assumption | omega | decide) (by first | assumption | omega | decide)) (cwV 1 B.1.2.2.2.2 gX11_readings_X11_solved rfl rfl rfl (by decide +kernel) ⟨Nat.le_of_ble_eq_true rfl, Nat.le_of_ble_eq_true rfl⟩) ha0 ka0 (by decide) rfl rfl rfl (Nat.le_of_ble_eq_true rfl) dX11_readings_10 (fun r_6 q_5 w_7 => ?_)
    obtain ⟨hV_q_5, h2_q_5, hw_7⟩ := w_7
    have hF_q_5 : sx_fr h L (fun a => sx_c7 h a) q q_5 := hF.tr (h2_q_5.mono (fun a (z : h.1 a = 4 ∨ h.1 a = 5 ∨ h.1 a = 1 ∨ h.1 a = 2) => (show sx_c7 h a from by (try unfold sx_mk at *); (try unfold sx_ck at *); (try unfold sx_c7 at *); omega)))
    obtain ⟨hr_6, kr_6⟩ := hw_7
    refine wa_getI B (C := RX5) (T := TX5) (N := 7) iq_X11_readings_X5 hr_6 kr_6 (by decide) rfl 5 (by decide) (by decide) (by decide +kernel) rfl (by decide) (v := (q_5.1 r_6 5)) rfl dX11_readings_13 ?_
    refine wa_goto B 20 dX11_readings_16 (by decide) ?_
    have z_8 : q_5.1 a0 14 = q.1 a0 14 := h2_q_5.I ha0 (show ¬ (h.1 a0 = 4 ∨ h.1 a0 = 5 ∨ h.1 a0 = 1 ∨ h.1 a0 = 2) from by omega) 14
    have y_9 : (q_5.1 a0 14).toInt = (q.1 a0 14).toInt := by rw [z_8]
    have z_10 : q_5.1 t0 1 = q.1 t0 1 := h2_q_5.I ht0 (show ¬ (h.1 t0 = 4 ∨ h.1 t0 = 5 ∨ h.1 t0 = 1 ∨ h.1 t0 = 2) from by omega) 1
    have y_11 : (q_5.1 t0 1).toInt = (q.1 t0 1).toInt := by rw [z_10]
    have z_12 : q_5.2.2.1 a0 0 = t0 := (h2_q_5.R ha0 (show ¬ ((h.1 a0 = 4 ∨ h.1 a0 = 5 ∨ h.1 a0 = 1 ∨ h.1 a0 = 2) ∧ (h.1 a0 = 8 ∨ h.1 a0 = 11)) from fun z9 => (show ¬ (h.1 a0 = 4 ∨ h.1 a0 = 5 ∨ h.1 a0 = 1 ∨ h.1 a0 = 2) from by omega) z9.1) 0).trans (et0)
    have z_13 : q_5.2.2.1 a0 9 = fa := (h2_q_5.R ha0 (show ¬ ((h.1 a0 = 4 ∨ h.1 a0 = 5 ∨ h.1 a0 = 1 ∨ h.1 a0 = 2) ∧ (h.1 a0 = 8 ∨ h.1 a0 = 11)) from fun z9 => (show ¬ (h.1 a0 = 4 ∨ h.1 a0 = 5 ∨ h.1 a0 = 1 ∨ h.1 a0 = 2) from by omega) z9.1) 9).trans (efa)
    exact hret _ _ _ _ dX11_readings_20 ⟨hV_q_5, hF_q_5, ⟨z_12, by omega, by omega, z_13⟩⟩
set_option maxHeartbeats 4000000 in
set_option maxRecDepth 100000 in
theorem k_X11_wrong_c (l : Launch) (dC : Nat → ClassId) (dI : Nat → Nat → Nat) (h : Sh) (L : List Nat) (hN : sx_nd L) (q : Sg) (hV : sx_V h L q) {a0 : Nat} (ha0 : a0 ∈ L) (ka0 : h.1 a0 = 11) (n1 : Int32) {t0 : Nat} (et0 : q.2.2.1 a0 0 = t0) {tb : Nat} (etb : q.2.2.1 t0 0 = tb) {fa : Nat} (efa : q.2.2.1 a0 9 = fa)    : CMi l dC dI h L yX11_wrong wsX11_wrong ({ frames := 10, cells := 0, slots := 0, locals := 243 } : Room) q [.ref a0, .int n1] (fun r q' => sx_V h L q' ∧ sx_fr h L (fun a => sx_c7 h a) q q' ∧ (q'.2.2.1 a0 0 = t0 ∧ (q'.1 t0 1).toInt = (q.1 t0 1).toInt ∧ (q'.1 a0 14).toInt = (q.1 a0 14).toInt ∧ q'.2.2.1 a0 9 = fa)) := by
  refine cm_i (cc := cX11_wrong) (mL := 2) (own := RX11) hN (by decide) rfl rfl (Nat.le_of_ble_eq_true rfl) (fun Z B hret => ?_)
  have hF : sx_fr h L (fun a => sx_c7 h a) q q := sx_fr.rf
  obtain ⟨ht0, kt0, lt0⟩ : t0 ∈ L ∧ h.1 t0 = 7 ∧ h.2.1 t0 = 1 := by obtain ⟨r9, e9, z1, z2, z3⟩ := hV.refn (t := 7) (n := 1) ha0 ka0 0 rfl (by decide) rfl (by decide); rw [← et0, e9]; exact ⟨z1, z2, z3⟩
  obtain ⟨htb, ktb, ltb⟩ : tb ∈ L ∧ h.1 tb = 300 ∧ h.2.1 tb = 440 := by obtain ⟨r9, e9, z1, z2, z3⟩ := hV.refn (t := 300) (n := 440) ht0 kt0 0 rfl (by decide) (by rw [lt0]; rfl) (by decide); rw [← etb, e9]; exact ⟨z1, z2, z3⟩
  obtain ⟨hfa, kfa, lfa⟩ : fa ∈ L ∧ h.1 fa = 403 ∧ h.2.1 fa = 12 := by obtain ⟨r9, e9, z1, z2, z3⟩ := hV.refn (t := 403) (n := 12) ha0 ka0 9 rfl (by decide) rfl (by decide); rw [← efa, e9]; exact ⟨z1, z2, z3⟩
  show WA l dC dI h L ({ frames := 10, cells := 0, slots := 0, locals := 243 } : Room) 2 Z q 0 [(0, .ref a0), (1, .int n1)] []
  refine wa_aload_n B dX11_wrong_0 rfl 0 rfl ?_
  refine wa_iload_n B dX11_wrong_1 rfl 1 rfl ?_
  refine wa_callVi B (x := (RX11, TX11, 16)) (As := [.int n1]) (rest := []) (k_X11_isTablet l dC dI h L hN q hV (a0 := a0) ha0 ka0 n1  ) (cwV 1 B.1.2.2.2.2 gX11_wrong_X11_isTablet rfl rfl rfl (by decide +kernel) ⟨Nat.le_of_ble_eq_true rfl, Nat.le_of_ble_eq_true rfl⟩) ha0 ka0 (by decide) rfl rfl rfl (Nat.le_of_ble_eq_true rfl) dX11_wrong_2 (fun r_2 q_1 w_3 => ?_)
  obtain ⟨ew_3, hw_3⟩ := w_3
  subst ew_3
  refine wa_if_eq B 19 dX11_wrong_5 (by decide) (fun (t_4 : r_2.toInt = 0) => ?_) (fun (t_4 : ¬ r_2.toInt = 0) => ?_)
  · refine wa_iconst B (-1) dX11_wrong_19 (by decide) ?_
    exact hret _ _ _ _ dX11_wrong_20 ⟨hV, hF, ⟨et0, by have h9 : ((-1) : Int32).toInt = (-1) := rfl; omega, by have h9 : ((-1) : Int32).toInt = (-1) := rfl; omega, efa⟩⟩
  · refine wa_aload_n B dX11_wrong_8 rfl 0 rfl ?_
    refine wa_iload_n B dX11_wrong_9 rfl 1 rfl ?_
    refine wa_callVr B (x := (RX11, TX11, 16)) (As := [.int n1]) (rest := []) (k_X11_solved l dC dI h L hN q hV (a0 := a0) ha0 ka0 n1  (by first | assumption | omega | decide) (by first | assumption | omega | decide)) (cwV 1 B.1.2.2.2.2 gX11_wrong_X11_solved rfl rfl rfl (by decide +kernel) ⟨Nat.le_of_ble_eq_true rfl, Nat.le_of_ble_eq_true rfl⟩) ha0 ka0 (by decide) rfl rfl rfl (Nat.le_of_ble_eq_true rfl) dX11_wrong_10 (fun r_6 q_5 w_7 => ?_)
    obtain ⟨hV_q_5, h2_q_5, hw_7⟩ := w_7
    have hF_q_5 : sx_fr h L (fun a => sx_c7 h a) q q_5 := hF.tr (h2_q_5.mono (fun a (z : h.1 a = 4 ∨ h.1 a = 5 ∨ h.1 a = 1 ∨ h.1 a = 2) => (show sx_c7 h a from by (try unfold sx_mk at *); (try unfold sx_ck at *); (try unfold sx_c7 at *); omega)))
    obtain ⟨hr_6, kr_6⟩ := hw_7
    refine wa_getI B (C := RX5) (T := TX5) (N := 7) iq_X11_wrong_X5 hr_6 kr_6 (by decide) rfl 6 (by decide) (by decide) (by decide +kernel) rfl (by decide) (v := (q_5.1 r_6 6)) rfl dX11_wrong_13 ?_
    refine wa_goto B 20 dX11_wrong_16 (by decide) ?_
    have z_8 : q_5.1 a0 14 = q.1 a0 14 := h2_q_5.I ha0 (show ¬ (h.1 a0 = 4 ∨ h.1 a0 = 5 ∨ h.1 a0 = 1 ∨ h.1 a0 = 2) from by omega) 14
    have y_9 : (q_5.1 a0 14).toInt = (q.1 a0 14).toInt := by rw [z_8]
    have z_10 : q_5.1 t0 1 = q.1 t0 1 := h2_q_5.I ht0 (show ¬ (h.1 t0 = 4 ∨ h.1 t0 = 5 ∨ h.1 t0 = 1 ∨ h.1 t0 = 2) from by omega) 1
    have y_11 : (q_5.1 t0 1).toInt = (q.1 t0 1).toInt := by rw [z_10]
    have z_12 : q_5.2.2.1 a0 0 = t0 := (h2_q_5.R ha0 (show ¬ ((h.1 a0 = 4 ∨ h.1 a0 = 5 ∨ h.1 a0 = 1 ∨ h.1 a0 = 2) ∧ (h.1 a0 = 8 ∨ h.1 a0 = 11)) from fun z9 => (show ¬ (h.1 a0 = 4 ∨ h.1 a0 = 5 ∨ h.1 a0 = 1 ∨ h.1 a0 = 2) from by omega) z9.1) 0).trans (et0)
    have z_13 : q_5.2.2.1 a0 9 = fa := (h2_q_5.R ha0 (show ¬ ((h.1 a0 = 4 ∨ h.1 a0 = 5 ∨ h.1 a0 = 1 ∨ h.1 a0 = 2) ∧ (h.1 a0 = 8 ∨ h.1 a0 = 11)) from fun z9 => (show ¬ (h.1 a0 = 4 ∨ h.1 a0 = 5 ∨ h.1 a0 = 1 ∨ h.1 a0 = 2) from by omega) z9.1) 9).trans (efa)
    exact hret _ _ _ _ dX11_wrong_20 ⟨hV_q_5, hF_q_5, ⟨z_12, by omega, by omega, z_13⟩⟩
set_option maxHeartbeats 4000000 in
set_option maxRecDepth 100000 in
theorem k_X11_join_c (l : Launch) (dC : Nat → ClassId) (dI : Nat → Nat → Nat) (h : Sh) (L : List Nat) (hN : sx_nd L) (q : Sg) (hV : sx_V h L q) {a0 : Nat} (ha0 : a0 ∈ L) (ka0 : h.1 a0 = 11) (n1 : Int32) (n2 : Int32) {t0 : Nat} (et0 : q.2.2.1 a0 0 = t0) {tb : Nat} (etb : q.2.2.1 t0 0 = tb) {fa : Nat} (efa : q.2.2.1 a0 9 = fa)    : CMi l dC dI h L yX11_join wsX11_join ({ frames := 10, cells := 0, slots := 0, locals := 245 } : Room) q [.ref a0, .int n1, .int n2] (fun r q' => sx_V h L q' ∧ sx_fr h L (fun a => sx_c7 h a) q q' ∧ (q'.2.2.1 a0 0 = t0 ∧ (q'.1 t0 1).toInt = (q.1 t0 1).toInt ∧ (q'.1 a0 14).toInt = (q.1 a0 14).toInt ∧ q'.2.2.1 a0 9 = fa)) := by
  refine cm_i (cc := cX11_join) (mL := 3) (own := RX11) hN (by decide) rfl rfl (Nat.le_of_ble_eq_true rfl) (fun Z B hret => ?_)
  have hF : sx_fr h L (fun a => sx_c7 h a) q q := sx_fr.rf
  obtain ⟨ht0, kt0, lt0⟩ : t0 ∈ L ∧ h.1 t0 = 7 ∧ h.2.1 t0 = 1 := by obtain ⟨r9, e9, z1, z2, z3⟩ := hV.refn (t := 7) (n := 1) ha0 ka0 0 rfl (by decide) rfl (by decide); rw [← et0, e9]; exact ⟨z1, z2, z3⟩
  obtain ⟨htb, ktb, ltb⟩ : tb ∈ L ∧ h.1 tb = 300 ∧ h.2.1 tb = 440 := by obtain ⟨r9, e9, z1, z2, z3⟩ := hV.refn (t := 300) (n := 440) ht0 kt0 0 rfl (by decide) (by rw [lt0]; rfl) (by decide); rw [← etb, e9]; exact ⟨z1, z2, z3⟩
  obtain ⟨hfa, kfa, lfa⟩ : fa ∈ L ∧ h.1 fa = 403 ∧ h.2.1 fa = 12 := by obtain ⟨r9, e9, z1, z2, z3⟩ := hV.refn (t := 403) (n := 12) ha0 ka0 9 rfl (by decide) rfl (by decide); rw [← efa, e9]; exact ⟨z1, z2, z3⟩
  show WA l dC dI h L ({ frames := 10, cells := 0, slots := 0, locals := 245 } : Room) 3 Z q 0 [(0, .ref a0), (1, .int n1), (2, .int n2)] []
  refine wa_aload_n B dX11_join_0 rfl 0 rfl ?_
  refine wa_iload_n B dX11_join_1 rfl 1 rfl ?_
  refine wa_callVi B (x := (RX11, TX11, 16)) (As := [.int n1]) (rest := []) (k_X11_isFragment l dC dI h L hN q hV (a0 := a0) ha0 ka0 n1  ) (cwV 1 B.1.2.2.2.2 gX11_join_X11_isFragment rfl rfl rfl (by decide +kernel) ⟨Nat.le_of_ble_eq_true rfl, Nat.le_of_ble_eq_true rfl⟩) ha0 ka0 (by decide) rfl rfl rfl (Nat.le_of_ble_eq_true rfl) dX11_join_2 (fun r_2 q_1 w_3 => ?_)
  obtain ⟨ew_3, hw_3⟩ := w_3
  subst ew_3
  refine wa_if_eq B 21 dX11_join_5 (by decide) (fun (t_4 : r_2.toInt = 0) => ?_) (fun (t_4 : ¬ r_2.toInt = 0) => ?_)
  · refine wa_iconst B (-1) dX11_join_21 (by decide) ?_
    exact hret _ _ _ _ dX11_join_22 ⟨hV, hF, ⟨et0, by have h9 : ((-1) : Int32).toInt = (-1) := rfl; omega, by have h9 : ((-1) : Int32).toInt = (-1) := rfl; omega, efa⟩⟩
  · refine wa_aload_n B dX11_join_8 rfl 0 rfl ?_
    refine wa_iload_n B dX11_join_9 rfl 2 rfl ?_
    refine wa_callVi B (x := (RX11, TX11, 16)) (As := [.int n2]) (rest := []) (k_X11_isFragment l dC dI h L hN q hV (a0 := a0) ha0 ka0 n2  ) (cwV 1 B.1.2.2.2.2 gX11_join_X11_isFragment rfl rfl rfl (by decide +kernel) ⟨Nat.le_of_ble_eq_true rfl, Nat.le_of_ble_eq_true rfl⟩) ha0 ka0 (by decide) rfl rfl rfl (Nat.le_of_ble_eq_true rfl) dX11_join_10 (fun r_6 q_5 w_7 => ?_)
    obtain ⟨ew_7, hw_7⟩ := w_7
    subst ew_7
    refine wa_if_eq B 21 dX11_join_13 (by decide) (fun (t_8 : r_6.toInt = 0) => ?_) (fun (t_8 : ¬ r_6.toInt = 0) => ?_)
    · refine wa_iconst B (-1) dX11_join_21 (by decide) ?_
      exact hret _ _ _ _ dX11_join_22 ⟨hV, hF, ⟨et0, by have h9 : ((-1) : Int32).toInt = (-1) := rfl; omega, by have h9 : ((-1) : Int32).toInt = (-1) := rfl; omega, efa⟩⟩
    · refine wa_iload_n B dX11_join_16 rfl 1 rfl ?_
      refine wa_iload_n B dX11_join_17 rfl 2 rfl ?_
      refine wa_icmp_ne B 23 dX11_join_18 (by decide) (fun (t_9 : ¬ n1.toInt = n2.toInt) => ?_) (fun (t_9 : n1.toInt = n2.toInt) => ?_)
      · refine wa_aload_n B dX11_join_23 rfl 0 rfl ?_
        refine wa_iload_n B dX11_join_24 rfl 1 rfl ?_
        refine wa_iload_n B dX11_join_25 rfl 2 rfl ?_
        obtain ⟨a_10, ea_10, ha_10, ka_10, la_10⟩ := hV.refn (n := 3) (t := 7) ha0 ka0 2 rfl (by decide) rfl (by decide)
        have nt0_a_10 : ¬ t0 = a_10 := fun z9 => absurd (z9 ▸ lt0 : h.2.1 a_10 = 1) (by rw [la_10]; decide)
        obtain ⟨a_11, ea_11, ha_11, ka_11, la_11⟩ := hV.refn (n := 402) (t := 300) ha_10 ka_10 0 rfl (by decide) (by rw [la_10]; rfl) (by decide)
        refine wa_callVi B (x := (RX11, TX11, 16)) (As := [.int n1, .int n2]) (rest := []) (k_X11_joined_c l dC dI h L hN q hV (a0 := a0) ha0 ka0 n1 n2 (s0 := a_10) ea_10 (sb := a_11) ea_11  (by first | assumption | omega | decide) (by first | assumption | omega | decide) (by first | assumption | omega | decide) (by first | assumption | omega | decide)) (cwV 2 B.1.2.2.2.2 gX11_join_X11_joined rfl rfl rfl (by decide +kernel) ⟨Nat.le_of_ble_eq_true rfl, Nat.le_of_ble_eq_true rfl⟩) ha0 ka0 (by decide) rfl rfl rfl (Nat.le_of_ble_eq_true rfl) dX11_join_26 (fun r_13 q_12 w_14 => ?_)
        obtain ⟨hV_q_12, h2_q_12⟩ := w_14
        have hF_q_12 : sx_fr h L (fun a => sx_c7 h a) q q_12 := hF.tr (h2_q_12.mono (fun a (z : h.1 a = 6 ∨ h.1 a = 8 ∨ h.1 a = 5 ∨ h.1 a = 2 ∨ h.1 a = 1 ∨ h.1 a = 4 ∨ a = a_10 ∧ h.1 a = 7 ∨ a = a_11 ∧ h.1 a = 300) => (show sx_c7 h a from by (have c9_a_11 : a = a_11 → h.2.1 a = 402 := fun e9 => (congrArg h.2.1 e9).trans la_11); (try unfold sx_mk at *); (try unfold sx_ck at *); (try unfold sx_c7 at *); omega)))
        have z_15 : q_12.1 a0 14 = q.1 a0 14 := h2_q_12.I ha0 (show ¬ (h.1 a0 = 6 ∨ h.1 a0 = 8 ∨ h.1 a0 = 5 ∨ h.1 a0 = 2 ∨ h.1 a0 = 1 ∨ h.1 a0 = 4 ∨ a0 = a_10 ∧ h.1 a0 = 7 ∨ a0 = a_11 ∧ h.1 a0 = 300) from by omega) 14
        have y_16 : (q_12.1 a0 14).toInt = (q.1 a0 14).toInt := by rw [z_15]
        have z_17 : q_12.1 t0 1 = q.1 t0 1 := h2_q_12.I ht0 (show ¬ (h.1 t0 = 6 ∨ h.1 t0 = 8 ∨ h.1 t0 = 5 ∨ h.1 t0 = 2 ∨ h.1 t0 = 1 ∨ h.1 t0 = 4 ∨ t0 = a_10 ∧ h.1 t0 = 7 ∨ t0 = a_11 ∧ h.1 t0 = 300) from by omega) 1
        have y_18 : (q_12.1 t0 1).toInt = (q.1 t0 1).toInt := by rw [z_17]
        have z_19 : q_12.2.2.1 a0 0 = t0 := (h2_q_12.R ha0 (show ¬ ((h.1 a0 = 6 ∨ h.1 a0 = 8 ∨ h.1 a0 = 5 ∨ h.1 a0 = 2 ∨ h.1 a0 = 1 ∨ h.1 a0 = 4 ∨ a0 = a_10 ∧ h.1 a0 = 7 ∨ a0 = a_11 ∧ h.1 a0 = 300) ∧ (h.1 a0 = 8 ∨ h.1 a0 = 11)) from fun z9 => (show ¬ (h.1 a0 = 6 ∨ h.1 a0 = 8 ∨ h.1 a0 = 5 ∨ h.1 a0 = 2 ∨ h.1 a0 = 1 ∨ h.1 a0 = 4 ∨ a0 = a_10 ∧ h.1 a0 = 7 ∨ a0 = a_11 ∧ h.1 a0 = 300) from by omega) z9.1) 0).trans (et0)
        have z_20 : q_12.2.2.1 a0 9 = fa := (h2_q_12.R ha0 (show ¬ ((h.1 a0 = 6 ∨ h.1 a0 = 8 ∨ h.1 a0 = 5 ∨ h.1 a0 = 2 ∨ h.1 a0 = 1 ∨ h.1 a0 = 4 ∨ a0 = a_10 ∧ h.1 a0 = 7 ∨ a0 = a_11 ∧ h.1 a0 = 300) ∧ (h.1 a0 = 8 ∨ h.1 a0 = 11)) from fun z9 => (show ¬ (h.1 a0 = 6 ∨ h.1 a0 = 8 ∨ h.1 a0 = 5 ∨ h.1 a0 = 2 ∨ h.1 a0 = 1 ∨ h.1 a0 = 4 ∨ a0 = a_10 ∧ h.1 a0 = 7 ∨ a0 = a_11 ∧ h.1 a0 = 300) from by omega) z9.1) 9).trans (efa)
        exact hret _ _ _ _ dX11_join_29 ⟨hV_q_12, hF_q_12, ⟨z_19, by omega, by omega, z_20⟩⟩
      · refine wa_iconst B (-1) dX11_join_21 (by decide) ?_
        exact hret _ _ _ _ dX11_join_22 ⟨hV, hF, ⟨et0, by have h9 : ((-1) : Int32).toInt = (-1) := rfl; omega, by have h9 : ((-1) : Int32).toInt = (-1) := rfl; omega, efa⟩⟩
set_option maxHeartbeats 4000000 in
set_option maxRecDepth 100000 in
theorem k_X11_match_c (l : Launch) (dC : Nat → ClassId) (dI : Nat → Nat → Nat) (h : Sh) (L : List Nat) (hN : sx_nd L) (q : Sg) (hV : sx_V h L q) {a0 : Nat} (ha0 : a0 ∈ L) (ka0 : h.1 a0 = 11) {t0 : Nat} (et0 : q.2.2.1 a0 0 = t0) {tb : Nat} (etb : q.2.2.1 t0 0 = tb) {fa : Nat} (efa : q.2.2.1 a0 9 = fa)    : CMi l dC dI h L yX11_match wsX11_match ({ frames := 10, cells := 0, slots := 0, locals := 245 } : Room) q [.ref a0] (fun r q' => sx_V h L q' ∧ sx_fr h L (fun a => sx_c7 h a) q q' ∧ (q'.2.2.1 a0 0 = t0 ∧ (q'.1 t0 1).toInt = (q.1 t0 1).toInt ∧ (q'.1 a0 14).toInt = (q.1 a0 14).toInt ∧ q'.2.2.1 a0 9 = fa)) := by
  refine cm_i (cc := cX11_match) (mL := 3) (own := RX11) hN (by decide) rfl rfl (Nat.le_of_ble_eq_true rfl) (fun Z B hret => ?_)
  have hF : sx_fr h L (fun a => sx_c7 h a) q q := sx_fr.rf
  obtain ⟨ht0, kt0, lt0⟩ : t0 ∈ L ∧ h.1 t0 = 7 ∧ h.2.1 t0 = 1 := by obtain ⟨r9, e9, z1, z2, z3⟩ := hV.refn (t := 7) (n := 1) ha0 ka0 0 rfl (by decide) rfl (by decide); rw [← et0, e9]; exact ⟨z1, z2, z3⟩
  obtain ⟨htb, ktb, ltb⟩ : tb ∈ L ∧ h.1 tb = 300 ∧ h.2.1 tb = 440 := by obtain ⟨r9, e9, z1, z2, z3⟩ := hV.refn (t := 300) (n := 440) ht0 kt0 0 rfl (by decide) (by rw [lt0]; rfl) (by decide); rw [← etb, e9]; exact ⟨z1, z2, z3⟩
  obtain ⟨hfa, kfa, lfa⟩ : fa ∈ L ∧ h.1 fa = 403 ∧ h.2.1 fa = 12 := by obtain ⟨r9, e9, z1, z2, z3⟩ := hV.refn (t := 403) (n := 12) ha0 ka0 9 rfl (by decide) rfl (by decide); rw [← efa, e9]; exact ⟨z1, z2, z3⟩
  show WA l dC dI h L ({ frames := 10, cells := 0, slots := 0, locals := 245 } : Room) 3 Z q 0 [(0, .ref a0)] []
  refine wa_iconst B 0 dX11_match_0 (by decide) ?_
  refine wa_istore_n B [(1, .int 0), (0, .ref a0)] dX11_match_1 rfl (by decide) rfl ?_
  have Lp_2_4 : ∀ (n : Nat) (v_1 : Int32) (q_2 : Sg), sx_V h L q_2 → sx_fr h L (fun a => sx_c7 h a) q q_2 → q_2.1 a0 14 = (q.1 a0 14) → q_2.1 t0 1 = (q.1 t0 1) → q_2.2.2.1 a0 0 = t0 → q_2.2.2.1 t0 0 = tb → q_2.2.2.1 a0 9 = fa → 0 ≤ v_1.toInt → ((q_2.1 a0 14).toInt - v_1.toInt : Int).toNat < n → WA l dC dI h L ({ frames := 10, cells := 0, slots := 0, locals := 245 } : Room) 3 Z q_2 2 [(1, .int v_1), (0, .ref a0)] [] := by
    intro n
    induction n with
    | zero =>
      intro v_1 q_2 hV_q_2 hF_q_2 p0_q_2 p1_q_2 p2_q_2 p3_q_2 p4_q_2 x_3 hn
      exact absurd hn (Nat.not_lt_zero _)
    | succ n ih_6 =>
      intro v_1 q_2 hV_q_2 hF_q_2 p0_q_2 p1_q_2 p2_q_2 p3_q_2 p4_q_2 x_3 hn
      have y_5 : (q_2.1 a0 14).toInt = (q.1 a0 14).toInt := by rw [p0_q_2]
      refine wa_iload_n B dX11_match_2 rfl 0 rfl ?_
      refine wa_aload_n B dX11_match_3 rfl 1 rfl ?_
      refine wa_getI B (C := RX11) (T := TX11) (N := 16) iq_X11_match_X11 ha0 ka0 (by decide) rfl 14 (by decide) (by decide) (by decide +kernel) rfl (by decide) (v := (q.1 a0 14)) p0_q_2 dX11_match_4 ?_
      have g_7 : (0 : Int) ≤ (q.1 a0 14).toInt ∧ (q.1 a0 14).toInt ≤ 12 := by rw [← p0_q_2]; exact hV_q_2.int ha0 ka0 14
      refine wa_icmp_ge B 58 dX11_match_7 (by decide) (fun (t_8 : (q.1 a0 14).toInt ≤ v_1.toInt) => ?_) (fun (t_8 : ¬ (q.1 a0 14).toInt ≤ v_1.toInt) => ?_)
      · refine wa_aload_n B dX11_match_58 rfl 1 rfl ?_
        obtain ⟨a_9, ea_9, ha_9, ka_9⟩ := hV_q_2.ref (t := 3) ha0 ka0 6 rfl (by decide)
        refine wa_getR B (C := RX11) (T := TX11) (N := 16) iq_X11_match_X11 ha0 ka0 (by decide) rfl 6 (by decide) (by decide) (by decide +kernel) rfl (fun _ _ _ => rfl) (v := a_9) ea_9 dX11_match_59 ?_
        refine wa_aload_n B dX11_match_62 rfl 1 rfl ?_
        refine wa_getI B (C := RX11) (T := TX11) (N := 16) iq_X11_match_X11 ha0 ka0 (by decide) rfl 14 (by decide) (by decide) (by decide +kernel) rfl (by decide) (v := (q.1 a0 14)) p0_q_2 dX11_match_63 ?_
        refine wa_callVv B (x := (RX3, TX3, 5)) (As := [.int (q.1 a0 14)]) (rest := []) (k_X3_pairUp l dC dI h L hN q_2 hV_q_2 (a0 := a_9) ha_9 ka_9 (q.1 a0 14)  (by first | assumption | omega | decide) (by first | assumption | omega | decide)) (cwV 1 B.1.2.2.2.2 gX11_match_X3_pairUp rfl rfl rfl (by decide +kernel) ⟨Nat.le_of_ble_eq_true rfl, Nat.le_of_ble_eq_true rfl⟩) ha_9 ka_9 (by decide) rfl rfl rfl (Nat.le_of_ble_eq_true rfl) dX11_match_66 (fun q_10 w_11 => ?_)
        obtain ⟨hV_q_10, h2_q_10⟩ := w_11
        have hF_q_10 : sx_fr h L (fun a => sx_c7 h a) q q_10 := hF_q_2.tr (h2_q_10.mono (fun a (z : a = a_9 ∧ h.1 a = 3) => (show sx_c7 h a from by (try unfold sx_mk at *); (try unfold sx_ck at *); (try unfold sx_c7 at *); omega)))
        refine wa_aload_n B dX11_match_69 rfl 1 rfl ?_
        have z_12 : q_10.2.2.1 a0 6 = a_9 := (h2_q_10.R ha0 (show ¬ ((a0 = a_9 ∧ h.1 a0 = 3) ∧ (h.1 a0 = 8 ∨ h.1 a0 = 11)) from fun z9 => (show ¬ (a0 = a_9 ∧ h.1 a0 = 3) from by omega) z9.1) 6).trans (ea_9)
        refine wa_getR B (C := RX11) (T := TX11) (N := 16) iq_X11_match_X11 ha0 ka0 (by decide) rfl 6 (by decide) (by decide) (by decide +kernel) rfl (fun _ _ _ => rfl) (v := a_9) z_12 dX11_match_70 ?_
        refine wa_getI B (C := RX3) (T := TX3) (N := 5) iq_X11_match_X3 ha_9 ka_9 (by decide) rfl 1 (by decide) (by decide) (by decide +kernel) rfl (by decide) (v := (q_10.1 a_9 1)) rfl dX11_match_73 ?_
        have z_13 : q_10.1 a0 14 = (q.1 a0 14) := (h2_q_10.I ha0 (show ¬ (a0 = a_9 ∧ h.1 a0 = 3) from by omega) 14).trans (p0_q_2)
        have y_14 : (q_10.1 a0 14).toInt = (q.1 a0 14).toInt := by rw [z_13]
        have z_15 : q_10.1 t0 1 = (q.1 t0 1) := (h2_q_10.I ht0 (show ¬ (t0 = a_9 ∧ h.1 t0 = 3) from by omega) 1).trans (p1_q_2)
        have y_16 : (q_10.1 t0 1).toInt = (q.1 t0 1).toInt := by rw [z_15]
        have z_17 : q_10.2.2.1 a0 0 = t0 := (h2_q_10.R ha0 (show ¬ ((a0 = a_9 ∧ h.1 a0 = 3) ∧ (h.1 a0 = 8 ∨ h.1 a0 = 11)) from fun z9 => (show ¬ (a0 = a_9 ∧ h.1 a0 = 3) from by omega) z9.1) 0).trans (p2_q_2)
        have z_18 : q_10.2.2.1 a0 9 = fa := (h2_q_10.R ha0 (show ¬ ((a0 = a_9 ∧ h.1 a0 = 3) ∧ (h.1 a0 = 8 ∨ h.1 a0 = 11)) from fun z9 => (show ¬ (a0 = a_9 ∧ h.1 a0 = 3) from by omega) z9.1) 9).trans (p4_q_2)
        exact hret _ _ _ _ dX11_match_76 ⟨hV_q_10, hF_q_10, ⟨z_17, by omega, by omega, z_18⟩⟩
      · refine wa_iload_n B dX11_match_10 rfl 0 rfl ?_
        refine wa_iconst B 1 dX11_match_11 (by decide) ?_
        refine wa_iadd B dX11_match_12 (fun v_19 ev_19 => ?_)
        refine wa_istore_n B [(2, .int v_19), (1, .int v_1), (0, .ref a0)] dX11_match_13 rfl (by decide) rfl ?_
        have Lp_14_24 : ∀ (n : Nat) (v_20 : Int32) (q_21 : Sg), sx_V h L q_21 → sx_fr h L (fun a => sx_c7 h a) q q_21 → q_21.1 a0 14 = (q.1 a0 14) → q_21.1 t0 1 = (q.1 t0 1) → q_21.2.2.1 a0 0 = t0 → q_21.2.2.1 t0 0 = tb → q_21.2.2.1 a0 9 = fa → 0 ≤ v_20.toInt → v_1.toInt < (q_21.1 a0 14).toInt → ((q_21.1 a0 14).toInt - v_20.toInt : Int).toNat < n → WA l dC dI h L ({ frames := 10, cells := 0, slots := 0, locals := 245 } : Room) 3 Z q_21 14 [(2, .int v_20), (1, .int v_1), (0, .ref a0)] [] := by
          intro n
          induction n with
          | zero =>
            intro v_20 q_21 hV_q_21 hF_q_21 p0_q_21 p1_q_21 p2_q_21 p3_q_21 p4_q_21 x_22 x_23 hn
            exact absurd hn (Nat.not_lt_zero _)
          | succ n ih_26 =>
            intro v_20 q_21 hV_q_21 hF_q_21 p0_q_21 p1_q_21 p2_q_21 p3_q_21 p4_q_21 x_22 x_23 hn
            have y_25 : (q_21.1 a0 14).toInt = (q.1 a0 14).toInt := by rw [p0_q_21]
            refine wa_iload_n B dX11_match_14 rfl 0 rfl ?_
            refine wa_aload_n B dX11_match_15 rfl 2 rfl ?_
            refine wa_getI B (C := RX11) (T := TX11) (N := 16) iq_X11_match_X11 ha0 ka0 (by decide) rfl 14 (by decide) (by decide) (by decide +kernel) rfl (by decide) (v := (q.1 a0 14)) p0_q_21 dX11_match_16 ?_
            have g_27 : (0 : Int) ≤ (q.1 a0 14).toInt ∧ (q.1 a0 14).toInt ≤ 12 := by rw [← p0_q_21]; exact hV_q_21.int ha0 ka0 14
            refine wa_icmp_ge B 52 dX11_match_19 (by decide) (fun (t_28 : (q.1 a0 14).toInt ≤ v_20.toInt) => ?_) (fun (t_28 : ¬ (q.1 a0 14).toInt ≤ v_20.toInt) => ?_)
            · obtain ⟨v_29, ev_29⟩ : ∃ z : Int32, z = v_1 + 1 := ⟨_, rfl⟩
              refine wa_iinc B [(1, .int v_29), (2, .int v_20), (0, .ref a0)] v_29 dX11_match_52 1 rfl (by rw [ev_29]; rfl) (by decide) rfl ?_
              refine wa_goto B 2 dX11_match_55 (by decide) ?_
              have tv_29 : v_29.toInt = v_1.toInt + 1 := by have b0 := zx_bd v_1; rw [ev_29]; exact zx_add (show (-2147483648 : Int) ≤ v_1.toInt + 1 by omega) (show v_1.toInt + 1 < (2147483648 : Int) by omega)
              have y_30 : (q_21.1 a0 14).toInt = (q.1 a0 14).toInt := by rw [p0_q_21]
              refine WA.sub [0, 2] rfl ?_
              exact ih_6 v_29 q_21 hV_q_21 hF_q_21 p0_q_21 p1_q_21 p2_q_21 p3_q_21 p4_q_21 (show 0 ≤ v_29.toInt from by first | assumption | omega | decide) (show ((q_21.1 a0 14).toInt - v_29.toInt : Int).toNat < _ from by omega)
            · refine wa_aload_n B dX11_match_22 rfl 2 rfl ?_
              obtain ⟨a_31, ea_31, ha_31, ka_31⟩ := hV_q_21.ref (t := 3) ha0 ka0 6 rfl (by decide)
              refine wa_getR B (C := RX11) (T := TX11) (N := 16) iq_X11_match_X11 ha0 ka0 (by decide) rfl 6 (by decide) (by decide) (by decide +kernel) rfl (fun _ _ _ => rfl) (v := a_31) ea_31 dX11_match_23 ?_
              refine wa_iload_n B dX11_match_26 rfl 1 rfl ?_
              refine wa_iload_n B dX11_match_27 rfl 0 rfl ?_
              refine wa_aload_n B dX11_match_28 rfl 2 rfl ?_
              refine wa_iload_n B dX11_match_29 rfl 1 rfl ?_
              refine wa_iload_n B dX11_match_30 rfl 0 rfl ?_
              obtain ⟨a_32, ea_32, ha_32, ka_32, la_32⟩ := hV_q_21.refn (n := 3) (t := 7) ha0 ka0 2 rfl (by decide) rfl (by decide)
              have nt0_a_32 : ¬ t0 = a_32 := fun z9 => absurd (z9 ▸ lt0 : h.2.1 a_32 = 1) (by rw [la_32]; decide)
              obtain ⟨a_33, ea_33, ha_33, ka_33, la_33⟩ := hV_q_21.refn (n := 402) (t := 300) ha_32 ka_32 0 rfl (by decide) (by rw [la_32]; rfl) (by decide)
              refine wa_callVi B (x := (RX11, TX11, 16)) (As := [.int v_1, .int v_20]) (rest := [.int v_20, .int v_1, .ref a_31]) (k_X11_joined_c l dC dI h L hN q_21 hV_q_21 (a0 := a0) ha0 ka0 v_1 v_20 (s0 := a_32) ea_32 (sb := a_33) ea_33  (by first | assumption | omega | decide) (by first | assumption | omega | decide) (by first | assumption | omega | decide) (by first | assumption | omega | decide)) (cwV 2 B.1.2.2.2.2 gX11_match_X11_joined rfl rfl rfl (by decide +kernel) ⟨Nat.le_of_ble_eq_true rfl, Nat.le_of_ble_eq_true rfl⟩) ha0 ka0 (by decide) rfl rfl rfl (Nat.le_of_ble_eq_true rfl) dX11_match_31 (fun r_35 q_34 w_36 => ?_)
              obtain ⟨hV_q_34, h2_q_34⟩ := w_36
              have hF_q_34 : sx_fr h L (fun a => sx_c7 h a) q q_34 := hF_q_21.tr (h2_q_34.mono (fun a (z : h.1 a = 6 ∨ h.1 a = 8 ∨ h.1 a = 5 ∨ h.1 a = 2 ∨ h.1 a = 1 ∨ h.1 a = 4 ∨ a = a_32 ∧ h.1 a = 7 ∨ a = a_33 ∧ h.1 a = 300) => (show sx_c7 h a from by (have c9_a_33 : a = a_33 → h.2.1 a = 402 := fun e9 => (congrArg h.2.1 e9).trans la_33); (try unfold sx_mk at *); (try unfold sx_ck at *); (try unfold sx_c7 at *); omega)))
              refine wa_aload_n B dX11_match_34 rfl 2 rfl ?_
              refine wa_iload_n B dX11_match_35 rfl 0 rfl ?_
              refine wa_iload_n B dX11_match_36 rfl 1 rfl ?_
              have z_37 : q_34.2.2.1 a0 2 = a_32 := (h2_q_34.R ha0 (show ¬ ((h.1 a0 = 6 ∨ h.1 a0 = 8 ∨ h.1 a0 = 5 ∨ h.1 a0 = 2 ∨ h.1 a0 = 1 ∨ h.1 a0 = 4 ∨ a0 = a_32 ∧ h.1 a0 = 7 ∨ a0 = a_33 ∧ h.1 a0 = 300) ∧ (h.1 a0 = 8 ∨ h.1 a0 = 11)) from fun z9 => (show ¬ (h.1 a0 = 6 ∨ h.1 a0 = 8 ∨ h.1 a0 = 5 ∨ h.1 a0 = 2 ∨ h.1 a0 = 1 ∨ h.1 a0 = 4 ∨ a0 = a_32 ∧ h.1 a0 = 7 ∨ a0 = a_33 ∧ h.1 a0 = 300) from by omega) z9.1) 2).trans (ea_32)
              have z_38 : q_34.2.2.1 a_32 0 = a_33 := (h2_q_34.R ha_32 (fun z9 => absurd z9.2 (by omega)) 0).trans (ea_33)
              refine wa_callVi B (x := (RX11, TX11, 16)) (As := [.int v_20, .int v_1]) (rest := [.int r_35, .int v_20, .int v_1, .ref a_31]) (k_X11_joined_c l dC dI h L hN q_34 hV_q_34 (a0 := a0) ha0 ka0 v_20 v_1 (s0 := a_32) z_37 (sb := a_33) z_38  (by first | assumption | omega | decide) (by first | assumption | omega | decide) (by first | assumption | omega | decide) (by first | assumption | omega | decide)) (cwV 2 B.1.2.2.2.2 gX11_match_X11_joined rfl rfl rfl (by decide +kernel) ⟨Nat.le_of_ble_eq_true rfl, Nat.le_of_ble_eq_true rfl⟩) ha0 ka0 (by decide) rfl rfl rfl (Nat.le_of_ble_eq_true rfl) dX11_match_37 (fun r_40 q_39 w_41 => ?_)
              obtain ⟨hV_q_39, h2_q_39⟩ := w_41
              have hF_q_39 : sx_fr h L (fun a => sx_c7 h a) q q_39 := hF_q_34.tr (h2_q_39.mono (fun a (z : h.1 a = 6 ∨ h.1 a = 8 ∨ h.1 a = 5 ∨ h.1 a = 2 ∨ h.1 a = 1 ∨ h.1 a = 4 ∨ a = a_32 ∧ h.1 a = 7 ∨ a = a_33 ∧ h.1 a = 300) => (show sx_c7 h a from by (have c9_a_33 : a = a_33 → h.2.1 a = 402 := fun e9 => (congrArg h.2.1 e9).trans la_33); (try unfold sx_mk at *); (try unfold sx_ck at *); (try unfold sx_c7 at *); omega)))
              refine wa_mmax B (by decide +kernel) (by decide +kernel) (by decide +kernel) (by decide +kernel) (Nat.le_of_ble_eq_true rfl) (Nat.le_of_ble_eq_true rfl) dX11_match_40 (fun v_42 ev_42 => ?_)
              have gv_42 : (v_42.toInt = r_35.toInt ∨ v_42.toInt = r_40.toInt) ∧ r_35.toInt ≤ v_42.toInt ∧ r_40.toInt ≤ v_42.toInt := by rw [ev_42]; exact zx_max
              refine wa_callVv B (x := (RX3, TX3, 5)) (As := [.int v_1, .int v_20, .int v_42]) (rest := []) (k_X3_tell l dC dI h L hN q_39 hV_q_39 (a0 := a_31) ha_31 ka_31 v_1 v_20 v_42  (by first | assumption | omega | decide) (by first | assumption | omega | decide) (by first | assumption | omega | decide) (by first | assumption | omega | decide)) (cwV 3 B.1.2.2.2.2 gX11_match_X3_tell rfl rfl rfl (by decide +kernel) ⟨Nat.le_of_ble_eq_true rfl, Nat.le_of_ble_eq_true rfl⟩) ha_31 ka_31 (by decide) rfl rfl rfl (Nat.le_of_ble_eq_true rfl) dX11_match_43 (fun q_43 w_44 => ?_)
              obtain ⟨hV_q_43, h2_q_43⟩ := w_44
              have hF_q_43 : sx_fr h L (fun a => sx_c7 h a) q q_43 := hF_q_39.tr (h2_q_43.mono (fun a (z : False) => z.elim))
              obtain ⟨v_45, ev_45⟩ : ∃ z : Int32, z = v_20 + 1 := ⟨_, rfl⟩
              refine wa_iinc B [(2, .int v_45), (1, .int v_1), (0, .ref a0)] v_45 dX11_match_46 0 rfl (by rw [ev_45]; rfl) (by decide) rfl ?_
              refine wa_goto B 14 dX11_match_49 (by decide) ?_
              have tv_45 : v_45.toInt = v_20.toInt + 1 := by have b0 := zx_bd v_20; rw [ev_45]; exact zx_add (show (-2147483648 : Int) ≤ v_20.toInt + 1 by omega) (show v_20.toInt + 1 < (2147483648 : Int) by omega)
              have z_46 : q_43.1 a0 14 = (q.1 a0 14) := (h2_q_43.I ha0 (show ¬ (False) from id) 14).trans ((h2_q_39.I ha0 (show ¬ (h.1 a0 = 6 ∨ h.1 a0 = 8 ∨ h.1 a0 = 5 ∨ h.1 a0 = 2 ∨ h.1 a0 = 1 ∨ h.1 a0 = 4 ∨ a0 = a_32 ∧ h.1 a0 = 7 ∨ a0 = a_33 ∧ h.1 a0 = 300) from by omega) 14).trans ((h2_q_34.I ha0 (show ¬ (h.1 a0 = 6 ∨ h.1 a0 = 8 ∨ h.1 a0 = 5 ∨ h.1 a0 = 2 ∨ h.1 a0 = 1 ∨ h.1 a0 = 4 ∨ a0 = a_32 ∧ h.1 a0 = 7 ∨ a0 = a_33 ∧ h.1 a0 = 300) from by omega) 14).trans (p0_q_21)))
              have y_47 : (q_43.1 a0 14).toInt = (q.1 a0 14).toInt := by rw [z_46]
              have z_48 : q_43.1 t0 1 = (q.1 t0 1) := (h2_q_43.I ht0 (show ¬ (False) from id) 1).trans ((h2_q_39.I ht0 (show ¬ (h.1 t0 = 6 ∨ h.1 t0 = 8 ∨ h.1 t0 = 5 ∨ h.1 t0 = 2 ∨ h.1 t0 = 1 ∨ h.1 t0 = 4 ∨ t0 = a_32 ∧ h.1 t0 = 7 ∨ t0 = a_33 ∧ h.1 t0 = 300) from by omega) 1).trans ((h2_q_34.I ht0 (show ¬ (h.1 t0 = 6 ∨ h.1 t0 = 8 ∨ h.1 t0 = 5 ∨ h.1 t0 = 2 ∨ h.1 t0 = 1 ∨ h.1 t0 = 4 ∨ t0 = a_32 ∧ h.1 t0 = 7 ∨ t0 = a_33 ∧ h.1 t0 = 300) from by omega) 1).trans (p1_q_21)))
              have z_49 : q_43.2.2.1 a0 0 = t0 := (h2_q_43.R ha0 (show ¬ ((False) ∧ (h.1 a0 = 8 ∨ h.1 a0 = 11)) from fun z9 => (show ¬ (False) from id) z9.1) 0).trans ((h2_q_39.R ha0 (show ¬ ((h.1 a0 = 6 ∨ h.1 a0 = 8 ∨ h.1 a0 = 5 ∨ h.1 a0 = 2 ∨ h.1 a0 = 1 ∨ h.1 a0 = 4 ∨ a0 = a_32 ∧ h.1 a0 = 7 ∨ a0 = a_33 ∧ h.1 a0 = 300) ∧ (h.1 a0 = 8 ∨ h.1 a0 = 11)) from fun z9 => (show ¬ (h.1 a0 = 6 ∨ h.1 a0 = 8 ∨ h.1 a0 = 5 ∨ h.1 a0 = 2 ∨ h.1 a0 = 1 ∨ h.1 a0 = 4 ∨ a0 = a_32 ∧ h.1 a0 = 7 ∨ a0 = a_33 ∧ h.1 a0 = 300) from by omega) z9.1) 0).trans ((h2_q_34.R ha0 (show ¬ ((h.1 a0 = 6 ∨ h.1 a0 = 8 ∨ h.1 a0 = 5 ∨ h.1 a0 = 2 ∨ h.1 a0 = 1 ∨ h.1 a0 = 4 ∨ a0 = a_32 ∧ h.1 a0 = 7 ∨ a0 = a_33 ∧ h.1 a0 = 300) ∧ (h.1 a0 = 8 ∨ h.1 a0 = 11)) from fun z9 => (show ¬ (h.1 a0 = 6 ∨ h.1 a0 = 8 ∨ h.1 a0 = 5 ∨ h.1 a0 = 2 ∨ h.1 a0 = 1 ∨ h.1 a0 = 4 ∨ a0 = a_32 ∧ h.1 a0 = 7 ∨ a0 = a_33 ∧ h.1 a0 = 300) from by omega) z9.1) 0).trans (p2_q_21)))
              have z_50 : q_43.2.2.1 t0 0 = tb := (h2_q_43.R ht0 (fun z9 => absurd z9.2 (by omega)) 0).trans ((h2_q_39.R ht0 (fun z9 => absurd z9.2 (by omega)) 0).trans ((h2_q_34.R ht0 (fun z9 => absurd z9.2 (by omega)) 0).trans (p3_q_21)))
              have z_51 : q_43.2.2.1 a0 9 = fa := (h2_q_43.R ha0 (show ¬ ((False) ∧ (h.1 a0 = 8 ∨ h.1 a0 = 11)) from fun z9 => (show ¬ (False) from id) z9.1) 9).trans ((h2_q_39.R ha0 (show ¬ ((h.1 a0 = 6 ∨ h.1 a0 = 8 ∨ h.1 a0 = 5 ∨ h.1 a0 = 2 ∨ h.1 a0 = 1 ∨ h.1 a0 = 4 ∨ a0 = a_32 ∧ h.1 a0 = 7 ∨ a0 = a_33 ∧ h.1 a0 = 300) ∧ (h.1 a0 = 8 ∨ h.1 a0 = 11)) from fun z9 => (show ¬ (h.1 a0 = 6 ∨ h.1 a0 = 8 ∨ h.1 a0 = 5 ∨ h.1 a0 = 2 ∨ h.1 a0 = 1 ∨ h.1 a0 = 4 ∨ a0 = a_32 ∧ h.1 a0 = 7 ∨ a0 = a_33 ∧ h.1 a0 = 300) from by omega) z9.1) 9).trans ((h2_q_34.R ha0 (show ¬ ((h.1 a0 = 6 ∨ h.1 a0 = 8 ∨ h.1 a0 = 5 ∨ h.1 a0 = 2 ∨ h.1 a0 = 1 ∨ h.1 a0 = 4 ∨ a0 = a_32 ∧ h.1 a0 = 7 ∨ a0 = a_33 ∧ h.1 a0 = 300) ∧ (h.1 a0 = 8 ∨ h.1 a0 = 11)) from fun z9 => (show ¬ (h.1 a0 = 6 ∨ h.1 a0 = 8 ∨ h.1 a0 = 5 ∨ h.1 a0 = 2 ∨ h.1 a0 = 1 ∨ h.1 a0 = 4 ∨ a0 = a_32 ∧ h.1 a0 = 7 ∨ a0 = a_33 ∧ h.1 a0 = 300) from by omega) z9.1) 9).trans (p4_q_21)))
              exact ih_26 v_45 q_43 hV_q_43 hF_q_43 z_46 z_48 z_49 z_50 z_51 (show 0 ≤ v_45.toInt from by first | assumption | omega | decide) (show v_1.toInt < (q_43.1 a0 14).toInt from by first | assumption | omega | decide) (show ((q_43.1 a0 14).toInt - v_45.toInt : Int).toNat < _ from by omega)
        have tv_19 : v_19.toInt = v_1.toInt + 1 := by have b0 := zx_bd v_1; rw [ev_19]; exact zx_add (show (-2147483648 : Int) ≤ v_1.toInt + 1 by omega) (show v_1.toInt + 1 < (2147483648 : Int) by omega)
        have y_52 : (q_2.1 a0 14).toInt = (q.1 a0 14).toInt := by rw [p0_q_2]
        exact Lp_14_24 _ v_19 q_2 hV_q_2 hF_q_2 p0_q_2 p1_q_2 p2_q_2 p3_q_2 p4_q_2 (show 0 ≤ v_19.toInt from by first | assumption | omega | decide) (show v_1.toInt < (q_2.1 a0 14).toInt from by first | assumption | omega | decide) (Nat.lt_succ_self _)
  exact Lp_2_4 _ 0 q hV hF rfl rfl et0 etb efa (show 0 ≤ 0 from by first | assumption | omega | decide) (Nat.lt_succ_self _)
