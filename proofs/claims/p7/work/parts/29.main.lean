theorem iq_X11_feed_X11 : ∀ w ∈ wsX110, w ∈ wsX11_feed := fun _ h => List.mem_cons_of_mem _ (List.mem_append_left _ (List.mem_append_right _ h))
theorem iq_X11_feed_X7 : ∀ w ∈ wsX70, w ∈ wsX11_feed := fun _ h => List.mem_cons_of_mem _ (List.mem_append_right _ h)
set_option maxHeartbeats 4000000 in
set_option maxRecDepth 100000 in
theorem k_X11_feed (l : Launch) (dC : Nat → ClassId) (dI : Nat → Nat → Nat) (h : Sh) (L : List Nat) (hN : sx_nd L) (q : Sg) (hV : sx_V h L q) {a0 : Nat} (ha0 : a0 ∈ L) (ka0 : h.1 a0 = 11) (n1 : Int32) (n2 : Int32) (n3 : Int32) (n4 : Int32) (n5 : Int32) {t0 : Nat} (et0 : q.2.2.1 a0 0 = t0)   : CMi l dC dI h L yX11_feed wsX11_feed ({ frames := 2, cells := 0, slots := 0, locals := 42 } : Room) q [.ref a0, .int n1, .int n2, .int n3, .int n4, .int n5] (fun r q' => sx_V h L q' ∧ sx_fr h L (fun a => sx_ck (h.1 a)) q q' ∧ (q'.2.2.1 a0 0 = t0 ∧ ((q.1 t0 1).toInt + 20 ≤ 440 ∧ (q'.1 t0 1).toInt = (q.1 t0 1).toInt + 20 ∨ 440 < (q.1 t0 1).toInt + 20 ∧ (q'.1 t0 1).toInt = (q.1 t0 1).toInt) ∧ (q'.1 a0 14).toInt = (q.1 a0 14).toInt ∧ ((q.1 t0 1).toInt + 20 ≤ 440 ∧ r.toInt = (q.1 t0 1).toInt + 20 ∨ 440 < (q.1 t0 1).toInt + 20 ∧ r.toInt = -1))) := by
  refine cm_i (cc := cX11_feed) (mL := 6) (own := RX11) hN (by decide) rfl rfl (Nat.le_of_ble_eq_true rfl) (fun Z B hret => ?_)
  have hF : sx_fr h L (fun a => sx_ck (h.1 a)) q q := sx_fr.rf
  obtain ⟨ht0, kt0, lt0⟩ : t0 ∈ L ∧ h.1 t0 = 7 ∧ h.2.1 t0 = 1 := by obtain ⟨r9, e9, z1, z2, z3⟩ := hV.refn (t := 7) (n := 1) ha0 ka0 0 rfl (by decide) rfl (by decide); rw [← et0, e9]; exact ⟨z1, z2, z3⟩
  show WA l dC dI h L ({ frames := 2, cells := 0, slots := 0, locals := 42 } : Room) 6 Z q 0 [(0, .ref a0), (1, .int n1), (2, .int n2), (3, .int n3), (4, .int n4), (5, .int n5)] []
  refine wa_aload_n B dX11_feed_0 rfl 0 rfl ?_
  refine wa_getR B (C := RX11) (T := TX11) (N := 16) iq_X11_feed_X11 ha0 ka0 (by decide) rfl 0 (by decide) (by decide) (by decide +kernel) rfl (fun _ _ _ => rfl) (v := t0) et0 dX11_feed_1 ?_
  refine wa_getI B (C := RX7) (T := TX7) (N := 2) iq_X11_feed_X7 ht0 kt0 (by decide) rfl 1 (by decide) (by decide) (by decide +kernel) rfl (by decide) (v := (q.1 t0 1)) rfl dX11_feed_4 ?_
  obtain ⟨a_2, ea_2, ha_2, ka_2, la_2⟩ := hV.refn (n := 440) (t := 300) ht0 kt0 0 rfl (by decide) (by rw [lt0]; rfl) (by decide)
  have g_1 : (0 : Int) ≤ (q.1 t0 1).toInt ∧ (q.1 t0 1).toInt ≤ (h.2.1 a_2 : Int) := by have z9 := hV.int ht0 kt0 1; rw [ea_2] at z9; exact z9
  refine wa_bipush B 20 dX11_feed_7 (by decide) ?_
  refine wa_iadd B dX11_feed_9 (fun v_3 ev_3 => ?_)
  refine wa_sipush B 440 dX11_feed_10 (by decide) ?_
  have tv_3 : v_3.toInt = (q.1 t0 1).toInt + 20 := by have b0 := zx_bd (q.1 t0 1); rw [ev_3]; exact zx_add (show (-2147483648 : Int) ≤ (q.1 t0 1).toInt + 20 by omega) (show (q.1 t0 1).toInt + 20 < (2147483648 : Int) by omega)
  refine wa_icmp_le B 18 dX11_feed_13 (by decide) (fun (t_4 : v_3.toInt ≤ 440) => ?_) (fun (t_4 : ¬ v_3.toInt ≤ 440) => ?_)
  · refine wa_aload_n B dX11_feed_18 rfl 0 rfl ?_
    refine wa_getR B (C := RX11) (T := TX11) (N := 16) iq_X11_feed_X11 ha0 ka0 (by decide) rfl 0 (by decide) (by decide) (by decide +kernel) rfl (fun _ _ _ => rfl) (v := t0) et0 dX11_feed_19 ?_
    refine wa_iload_n B dX11_feed_22 rfl 1 rfl ?_
    refine wa_callVv B (x := (RX7, TX7, 2)) (As := [.int n1]) (rest := []) (k_X7_putFour l dC dI h L hN q hV (a0 := t0) ht0 kt0 n1 (b0 := a_2) ea_2  ) (cwV 1 B.1.2.2.2.2 gX11_feed_X7_putFour rfl rfl rfl (by decide +kernel) ⟨Nat.le_of_ble_eq_true rfl, Nat.le_of_ble_eq_true rfl⟩) ht0 kt0 (by decide) rfl rfl rfl (Nat.le_of_ble_eq_true rfl) dX11_feed_23 (fun q_5 w_6 => ?_)
    obtain ⟨hV_q_5, h2_q_5, hw_6⟩ := w_6
    have hF_q_5 : sx_fr h L (fun a => sx_ck (h.1 a)) q q_5 := hF.tr (h2_q_5.mono (fun a (z : a = t0 ∧ h.1 a = 7 ∨ a = a_2 ∧ h.1 a = 300) => (show sx_ck (h.1 a) from by (try unfold sx_mk at *); (try unfold sx_ck at *); omega)))
    refine wa_aload_n B dX11_feed_26 rfl 0 rfl ?_
    have z_7 : q_5.2.2.1 a0 0 = t0 := (h2_q_5.R ha0 (show ¬ ((a0 = t0 ∧ h.1 a0 = 7 ∨ a0 = a_2 ∧ h.1 a0 = 300) ∧ (h.1 a0 = 8 ∨ h.1 a0 = 11)) from fun z9 => (show ¬ (a0 = t0 ∧ h.1 a0 = 7 ∨ a0 = a_2 ∧ h.1 a0 = 300) from by omega) z9.1) 0).trans (et0)
    refine wa_getR B (C := RX11) (T := TX11) (N := 16) iq_X11_feed_X11 ha0 ka0 (by decide) rfl 0 (by decide) (by decide) (by decide +kernel) rfl (fun _ _ _ => rfl) (v := t0) z_7 dX11_feed_27 ?_
    refine wa_iload_n B dX11_feed_30 rfl 2 rfl ?_
    have z_8 : q_5.2.2.1 t0 0 = a_2 := (h2_q_5.R ht0 (show ¬ ((t0 = t0 ∧ h.1 t0 = 7 ∨ t0 = a_2 ∧ h.1 t0 = 300) ∧ (h.1 t0 = 8 ∨ h.1 t0 = 11)) from by omega) 0).trans (ea_2)
    refine wa_callVv B (x := (RX7, TX7, 2)) (As := [.int n2]) (rest := []) (k_X7_putFour l dC dI h L hN q_5 hV_q_5 (a0 := t0) ht0 kt0 n2 (b0 := a_2) z_8  ) (cwV 1 B.1.2.2.2.2 gX11_feed_X7_putFour rfl rfl rfl (by decide +kernel) ⟨Nat.le_of_ble_eq_true rfl, Nat.le_of_ble_eq_true rfl⟩) ht0 kt0 (by decide) rfl rfl rfl (Nat.le_of_ble_eq_true rfl) dX11_feed_31 (fun q_9 w_10 => ?_)
    obtain ⟨hV_q_9, h2_q_9, hw_10⟩ := w_10
    have hF_q_9 : sx_fr h L (fun a => sx_ck (h.1 a)) q q_9 := hF_q_5.tr (h2_q_9.mono (fun a (z : a = t0 ∧ h.1 a = 7 ∨ a = a_2 ∧ h.1 a = 300) => (show sx_ck (h.1 a) from by (try unfold sx_mk at *); (try unfold sx_ck at *); omega)))
    refine wa_aload_n B dX11_feed_34 rfl 0 rfl ?_
    have z_11 : q_9.2.2.1 a0 0 = t0 := (h2_q_9.R ha0 (show ¬ ((a0 = t0 ∧ h.1 a0 = 7 ∨ a0 = a_2 ∧ h.1 a0 = 300) ∧ (h.1 a0 = 8 ∨ h.1 a0 = 11)) from fun z9 => (show ¬ (a0 = t0 ∧ h.1 a0 = 7 ∨ a0 = a_2 ∧ h.1 a0 = 300) from by omega) z9.1) 0).trans (z_7)
    refine wa_getR B (C := RX11) (T := TX11) (N := 16) iq_X11_feed_X11 ha0 ka0 (by decide) rfl 0 (by decide) (by decide) (by decide +kernel) rfl (fun _ _ _ => rfl) (v := t0) z_11 dX11_feed_35 ?_
    refine wa_iload_n B dX11_feed_38 rfl 3 rfl ?_
    have z_12 : q_9.2.2.1 t0 0 = a_2 := (h2_q_9.R ht0 (show ¬ ((t0 = t0 ∧ h.1 t0 = 7 ∨ t0 = a_2 ∧ h.1 t0 = 300) ∧ (h.1 t0 = 8 ∨ h.1 t0 = 11)) from by omega) 0).trans (z_8)
    refine wa_callVv B (x := (RX7, TX7, 2)) (As := [.int n3]) (rest := []) (k_X7_putFour l dC dI h L hN q_9 hV_q_9 (a0 := t0) ht0 kt0 n3 (b0 := a_2) z_12  ) (cwV 1 B.1.2.2.2.2 gX11_feed_X7_putFour rfl rfl rfl (by decide +kernel) ⟨Nat.le_of_ble_eq_true rfl, Nat.le_of_ble_eq_true rfl⟩) ht0 kt0 (by decide) rfl rfl rfl (Nat.le_of_ble_eq_true rfl) dX11_feed_39 (fun q_13 w_14 => ?_)
    obtain ⟨hV_q_13, h2_q_13, hw_14⟩ := w_14
    have hF_q_13 : sx_fr h L (fun a => sx_ck (h.1 a)) q q_13 := hF_q_9.tr (h2_q_13.mono (fun a (z : a = t0 ∧ h.1 a = 7 ∨ a = a_2 ∧ h.1 a = 300) => (show sx_ck (h.1 a) from by (try unfold sx_mk at *); (try unfold sx_ck at *); omega)))
    refine wa_aload_n B dX11_feed_42 rfl 0 rfl ?_
    have z_15 : q_13.2.2.1 a0 0 = t0 := (h2_q_13.R ha0 (show ¬ ((a0 = t0 ∧ h.1 a0 = 7 ∨ a0 = a_2 ∧ h.1 a0 = 300) ∧ (h.1 a0 = 8 ∨ h.1 a0 = 11)) from fun z9 => (show ¬ (a0 = t0 ∧ h.1 a0 = 7 ∨ a0 = a_2 ∧ h.1 a0 = 300) from by omega) z9.1) 0).trans (z_11)
    refine wa_getR B (C := RX11) (T := TX11) (N := 16) iq_X11_feed_X11 ha0 ka0 (by decide) rfl 0 (by decide) (by decide) (by decide +kernel) rfl (fun _ _ _ => rfl) (v := t0) z_15 dX11_feed_43 ?_
    refine wa_iload B dX11_feed_46 4 rfl ?_
    have z_16 : q_13.2.2.1 t0 0 = a_2 := (h2_q_13.R ht0 (show ¬ ((t0 = t0 ∧ h.1 t0 = 7 ∨ t0 = a_2 ∧ h.1 t0 = 300) ∧ (h.1 t0 = 8 ∨ h.1 t0 = 11)) from by omega) 0).trans (z_12)
    refine wa_callVv B (x := (RX7, TX7, 2)) (As := [.int n4]) (rest := []) (k_X7_putFour l dC dI h L hN q_13 hV_q_13 (a0 := t0) ht0 kt0 n4 (b0 := a_2) z_16  ) (cwV 1 B.1.2.2.2.2 gX11_feed_X7_putFour rfl rfl rfl (by decide +kernel) ⟨Nat.le_of_ble_eq_true rfl, Nat.le_of_ble_eq_true rfl⟩) ht0 kt0 (by decide) rfl rfl rfl (Nat.le_of_ble_eq_true rfl) dX11_feed_48 (fun q_17 w_18 => ?_)
    obtain ⟨hV_q_17, h2_q_17, hw_18⟩ := w_18
    have hF_q_17 : sx_fr h L (fun a => sx_ck (h.1 a)) q q_17 := hF_q_13.tr (h2_q_17.mono (fun a (z : a = t0 ∧ h.1 a = 7 ∨ a = a_2 ∧ h.1 a = 300) => (show sx_ck (h.1 a) from by (try unfold sx_mk at *); (try unfold sx_ck at *); omega)))
    refine wa_aload_n B dX11_feed_51 rfl 0 rfl ?_
    have z_19 : q_17.2.2.1 a0 0 = t0 := (h2_q_17.R ha0 (show ¬ ((a0 = t0 ∧ h.1 a0 = 7 ∨ a0 = a_2 ∧ h.1 a0 = 300) ∧ (h.1 a0 = 8 ∨ h.1 a0 = 11)) from fun z9 => (show ¬ (a0 = t0 ∧ h.1 a0 = 7 ∨ a0 = a_2 ∧ h.1 a0 = 300) from by omega) z9.1) 0).trans (z_15)
    refine wa_getR B (C := RX11) (T := TX11) (N := 16) iq_X11_feed_X11 ha0 ka0 (by decide) rfl 0 (by decide) (by decide) (by decide +kernel) rfl (fun _ _ _ => rfl) (v := t0) z_19 dX11_feed_52 ?_
    refine wa_iload B dX11_feed_55 5 rfl ?_
    have z_20 : q_17.2.2.1 t0 0 = a_2 := (h2_q_17.R ht0 (show ¬ ((t0 = t0 ∧ h.1 t0 = 7 ∨ t0 = a_2 ∧ h.1 t0 = 300) ∧ (h.1 t0 = 8 ∨ h.1 t0 = 11)) from by omega) 0).trans (z_16)
    refine wa_callVv B (x := (RX7, TX7, 2)) (As := [.int n5]) (rest := []) (k_X7_putFour l dC dI h L hN q_17 hV_q_17 (a0 := t0) ht0 kt0 n5 (b0 := a_2) z_20  ) (cwV 1 B.1.2.2.2.2 gX11_feed_X7_putFour rfl rfl rfl (by decide +kernel) ⟨Nat.le_of_ble_eq_true rfl, Nat.le_of_ble_eq_true rfl⟩) ht0 kt0 (by decide) rfl rfl rfl (Nat.le_of_ble_eq_true rfl) dX11_feed_57 (fun q_21 w_22 => ?_)
    obtain ⟨hV_q_21, h2_q_21, hw_22⟩ := w_22
    have hF_q_21 : sx_fr h L (fun a => sx_ck (h.1 a)) q q_21 := hF_q_17.tr (h2_q_21.mono (fun a (z : a = t0 ∧ h.1 a = 7 ∨ a = a_2 ∧ h.1 a = 300) => (show sx_ck (h.1 a) from by (try unfold sx_mk at *); (try unfold sx_ck at *); omega)))
    refine wa_aload_n B dX11_feed_60 rfl 0 rfl ?_
    have z_23 : q_21.2.2.1 a0 0 = t0 := (h2_q_21.R ha0 (show ¬ ((a0 = t0 ∧ h.1 a0 = 7 ∨ a0 = a_2 ∧ h.1 a0 = 300) ∧ (h.1 a0 = 8 ∨ h.1 a0 = 11)) from fun z9 => (show ¬ (a0 = t0 ∧ h.1 a0 = 7 ∨ a0 = a_2 ∧ h.1 a0 = 300) from by omega) z9.1) 0).trans (z_19)
    refine wa_getR B (C := RX11) (T := TX11) (N := 16) iq_X11_feed_X11 ha0 ka0 (by decide) rfl 0 (by decide) (by decide) (by decide +kernel) rfl (fun _ _ _ => rfl) (v := t0) z_23 dX11_feed_61 ?_
    refine wa_getI B (C := RX7) (T := TX7) (N := 2) iq_X11_feed_X7 ht0 kt0 (by decide) rfl 1 (by decide) (by decide) (by decide +kernel) rfl (by decide) (v := (q_21.1 t0 1)) rfl dX11_feed_64 ?_
    have z_25 : q_21.2.2.1 t0 0 = a_2 := (h2_q_21.R ht0 (show ¬ ((t0 = t0 ∧ h.1 t0 = 7 ∨ t0 = a_2 ∧ h.1 t0 = 300) ∧ (h.1 t0 = 8 ∨ h.1 t0 = 11)) from by omega) 0).trans (z_20)
    have g_24 : (0 : Int) ≤ (q_21.1 t0 1).toInt ∧ (q_21.1 t0 1).toInt ≤ (h.2.1 a_2 : Int) := by have z9 := hV_q_21.int ht0 kt0 1; rw [z_25] at z9; exact z9
    have z_26 : q_21.1 a0 14 = q.1 a0 14 := (h2_q_21.I ha0 (show ¬ (a0 = t0 ∧ h.1 a0 = 7 ∨ a0 = a_2 ∧ h.1 a0 = 300) from by omega) 14).trans ((h2_q_17.I ha0 (show ¬ (a0 = t0 ∧ h.1 a0 = 7 ∨ a0 = a_2 ∧ h.1 a0 = 300) from by omega) 14).trans ((h2_q_13.I ha0 (show ¬ (a0 = t0 ∧ h.1 a0 = 7 ∨ a0 = a_2 ∧ h.1 a0 = 300) from by omega) 14).trans ((h2_q_9.I ha0 (show ¬ (a0 = t0 ∧ h.1 a0 = 7 ∨ a0 = a_2 ∧ h.1 a0 = 300) from by omega) 14).trans (h2_q_5.I ha0 (show ¬ (a0 = t0 ∧ h.1 a0 = 7 ∨ a0 = a_2 ∧ h.1 a0 = 300) from by omega) 14))))
    have y_27 : (q_21.1 a0 14).toInt = (q.1 a0 14).toInt := by rw [z_26]
    exact hret _ _ _ _ dX11_feed_67 ⟨hV_q_21, hF_q_21, ⟨z_23, by omega, by omega, by omega⟩⟩
  · refine wa_iconst B (-1) dX11_feed_16 (by decide) ?_
    exact hret _ _ _ _ dX11_feed_17 ⟨hV, hF, ⟨et0, by have h9 : ((-1) : Int32).toInt = (-1) := rfl; omega, by have h9 : ((-1) : Int32).toInt = (-1) := rfl; omega, by have h9 : ((-1) : Int32).toInt = (-1) := rfl; omega⟩⟩
theorem iq_X11_end_X11 : ∀ w ∈ wsX110, w ∈ wsX11_end := fun _ h => List.mem_cons_of_mem _ (List.mem_append_left _ (List.mem_append_right _ h))
theorem iq_X11_end_X7 : ∀ w ∈ wsX70, w ∈ wsX11_end := fun _ h => List.mem_cons_of_mem _ (List.mem_append_right _ h)
set_option maxHeartbeats 4000000 in
set_option maxRecDepth 100000 in
theorem k_X11_end (l : Launch) (dC : Nat → ClassId) (dI : Nat → Nat → Nat) (h : Sh) (L : List Nat) (hN : sx_nd L) (q : Sg) (hV : sx_V h L q) {a0 : Nat} (ha0 : a0 ∈ L) (ka0 : h.1 a0 = 11) (n1 : Int32) {t0 : Nat} (et0 : q.2.2.1 a0 0 = t0)   : CMi l dC dI h L yX11_end wsX11_end ({ frames := 0, cells := 0, slots := 0, locals := 0 } : Room) q [.ref a0, .int n1] (fun r q' => sx_V h L q' ∧ sx_fr h L (fun a => sx_ck (h.1 a)) q q' ∧ (q'.2.2.1 a0 0 = t0 ∧ ((0 ≤ n1.toInt ∧ n1.toInt ≤ (q.1 t0 1).toInt) ∧ (q'.1 t0 1).toInt = n1.toInt ∧ r.toInt = 1 ∨ ¬ (0 ≤ n1.toInt ∧ n1.toInt ≤ (q.1 t0 1).toInt) ∧ (q'.1 t0 1).toInt = (q.1 t0 1).toInt ∧ r.toInt = 0) ∧ (q'.1 a0 14).toInt = (q.1 a0 14).toInt)) := by
  refine cm_z (cc := cX11_end) (mL := 2) (own := RX11) hN (by decide) rfl rfl (Nat.le_of_ble_eq_true rfl) (fun Z B hret => ?_)
  have hF : sx_fr h L (fun a => sx_ck (h.1 a)) q q := sx_fr.rf
  obtain ⟨ht0, kt0, lt0⟩ : t0 ∈ L ∧ h.1 t0 = 7 ∧ h.2.1 t0 = 1 := by obtain ⟨r9, e9, z1, z2, z3⟩ := hV.refn (t := 7) (n := 1) ha0 ka0 0 rfl (by decide) rfl (by decide); rw [← et0, e9]; exact ⟨z1, z2, z3⟩
  show WA l dC dI h L ({ frames := 0, cells := 0, slots := 0, locals := 0 } : Room) 2 Z q 0 [(0, .ref a0), (1, .int n1)] []
  refine wa_iload_n B dX11_end_0 rfl 1 rfl ?_
  refine wa_if_lt B 15 dX11_end_1 (by decide) (fun (t_1 : n1.toInt < 0) => ?_) (fun (t_1 : ¬ n1.toInt < 0) => ?_)
  · refine wa_iconst B 0 dX11_end_15 (by decide) ?_
    exact hret _ _ _ _ dX11_end_16 (Or.inl rfl) ⟨hV, hF, ⟨et0, by have h9 : (0 : Int32).toInt = 0 := rfl; omega, by have h9 : (0 : Int32).toInt = 0 := rfl; omega⟩⟩
  · refine wa_iload_n B dX11_end_4 rfl 1 rfl ?_
    refine wa_aload_n B dX11_end_5 rfl 0 rfl ?_
    refine wa_getR B (C := RX11) (T := TX11) (N := 16) iq_X11_end_X11 ha0 ka0 (by decide) rfl 0 (by decide) (by decide) (by decide +kernel) rfl (fun _ _ _ => rfl) (v := t0) et0 dX11_end_6 ?_
    refine wa_getI B (C := RX7) (T := TX7) (N := 2) iq_X11_end_X7 ht0 kt0 (by decide) rfl 1 (by decide) (by decide) (by decide +kernel) rfl (by decide) (v := (q.1 t0 1)) rfl dX11_end_9 ?_
    obtain ⟨a_3, ea_3, ha_3, ka_3, la_3⟩ := hV.refn (n := 440) (t := 300) ht0 kt0 0 rfl (by decide) (by rw [lt0]; rfl) (by decide)
    have g_2 : (0 : Int) ≤ (q.1 t0 1).toInt ∧ (q.1 t0 1).toInt ≤ (h.2.1 a_3 : Int) := by have z9 := hV.int ht0 kt0 1; rw [ea_3] at z9; exact z9
    refine wa_icmp_le B 17 dX11_end_12 (by decide) (fun (t_4 : n1.toInt ≤ (q.1 t0 1).toInt) => ?_) (fun (t_4 : ¬ n1.toInt ≤ (q.1 t0 1).toInt) => ?_)
    · refine wa_aload_n B dX11_end_17 rfl 0 rfl ?_
      refine wa_getR B (C := RX11) (T := TX11) (N := 16) iq_X11_end_X11 ha0 ka0 (by decide) rfl 0 (by decide) (by decide) (by decide +kernel) rfl (fun _ _ _ => rfl) (v := t0) et0 dX11_end_18 ?_
      refine wa_iload_n B dX11_end_21 rfl 1 rfl ?_
      refine wa_putI B (C := RX7) (T := TX7) (N := 2) iq_X11_end_X7 ht0 kt0 (by decide) rfl 1 (by decide) (by decide) (by decide +kernel) rfl (by decide) (v := n1) (ty := .int) tyX7 tyX7_ok nmX7 rfl (by decide +kernel) rfl rfl dX11_end_22 (fun q_5 eq_5 => ?_)
      have hV_q_5 : sx_V h L q_5 := by rw [eq_5]; exact hV.pI kt0 (show sx_in n1 0 ((h.2.1 (q.2.2.1 t0 0) : Nat) : Int) from ⟨by omega, by rw [ea_3]; omega⟩)
      have hF_q_5 : sx_fr h L (fun a => sx_ck (h.1 a)) q q_5 := hF.tr (by rw [eq_5]; exact sx_fr.pI (show sx_ck (h.1 t0) from by (try unfold sx_mk at *); (try unfold sx_ck at *); omega))
      have z_6 : q_5.1 t0 1 = n1 := by rw [eq_5]; exact sg_pI_e
      refine wa_iconst B 1 dX11_end_25 (by decide) ?_
      have z_7 : q_5.1 a0 14 = q.1 a0 14 := (show q_5.1 a0 14 = q.1 a0 14 from by rw [eq_5]; exact sg_pI_k (by decide))
      have y_8 : (q_5.1 a0 14).toInt = (q.1 a0 14).toInt := by rw [z_7]
      have y_9 : (q_5.1 t0 1).toInt = n1.toInt := by rw [z_6]
      have z_10 : q_5.2.2.1 a0 0 = t0 := ((show q_5.2.2.1 a0 0 = q.2.2.1 a0 0 from by rw [eq_5]; rfl)).trans (et0)
      exact hret _ _ _ _ dX11_end_26 (Or.inr rfl) ⟨hV_q_5, hF_q_5, ⟨z_10, by have h9 : (1 : Int32).toInt = 1 := rfl; omega, by have h9 : (1 : Int32).toInt = 1 := rfl; omega⟩⟩
    · refine wa_iconst B 0 dX11_end_15 (by decide) ?_
      exact hret _ _ _ _ dX11_end_16 (Or.inl rfl) ⟨hV, hF, ⟨et0, by have h9 : (0 : Int32).toInt = 0 := rfl; omega, by have h9 : (0 : Int32).toInt = 0 := rfl; omega⟩⟩
theorem iq_X11_systems_X10 : ∀ w ∈ wsX100, w ∈ wsX11_systems := fun _ h => List.mem_cons_of_mem _ (List.mem_append_left _ (List.mem_append_left _ (List.mem_append_left _ (List.mem_append_left _ (List.mem_append_right _ h)))))
theorem iq_X11_systems_X11 : ∀ w ∈ wsX110, w ∈ wsX11_systems := fun _ h => List.mem_cons_of_mem _ (List.mem_append_left _ (List.mem_append_left _ (List.mem_append_left _ (List.mem_append_left _ (List.mem_append_left _ (List.mem_append_right _ h))))))
theorem iq_X11_systems_X8 : ∀ w ∈ wsX80, w ∈ wsX11_systems := fun _ h => List.mem_cons_of_mem _ (List.mem_append_left _ (List.mem_append_left _ (List.mem_append_left _ (List.mem_append_right _ h))))
theorem iq_X11_systems_X9 : ∀ w ∈ wsX90, w ∈ wsX11_systems := fun _ h => List.mem_cons_of_mem _ (List.mem_append_left _ (List.mem_append_left _ (List.mem_append_right _ h)))
set_option maxHeartbeats 4000000 in
set_option maxRecDepth 100000 in
theorem k_X11_systems (l : Launch) (dC : Nat → ClassId) (dI : Nat → Nat → Nat) (h : Sh) (L : List Nat) (hN : sx_nd L) (q : Sg) (hV : sx_V h L q) {a0 : Nat} (ha0 : a0 ∈ L) (ka0 : h.1 a0 = 11) {t0 : Nat} (et0 : q.2.2.1 a0 0 = t0)   : CMi l dC dI h L yX11_systems wsX11_systems ({ frames := 6, cells := 0, slots := 0, locals := 132 } : Room) q [.ref a0] (fun r q' => sx_V h L q' ∧ sx_fr h L (fun a => sx_ck (h.1 a)) q q' ∧ (q'.2.2.1 a0 0 = t0 ∧ (q'.1 t0 1).toInt = 0 ∧ (q'.1 a0 14).toInt = (q.1 a0 14).toInt)) := by
  refine cm_i (cc := cX11_systems) (mL := 3) (own := RX11) hN (by decide) rfl rfl (Nat.le_of_ble_eq_true rfl) (fun Z B hret => ?_)
  have hF : sx_fr h L (fun a => sx_ck (h.1 a)) q q := sx_fr.rf
  obtain ⟨ht0, kt0, lt0⟩ : t0 ∈ L ∧ h.1 t0 = 7 ∧ h.2.1 t0 = 1 := by obtain ⟨r9, e9, z1, z2, z3⟩ := hV.refn (t := 7) (n := 1) ha0 ka0 0 rfl (by decide) rfl (by decide); rw [← et0, e9]; exact ⟨z1, z2, z3⟩
  show WA l dC dI h L ({ frames := 6, cells := 0, slots := 0, locals := 132 } : Room) 3 Z q 0 [(0, .ref a0)] []
  refine wa_aload_n B dX11_systems_0 rfl 0 rfl ?_
  obtain ⟨a_1, ea_1, ha_1, ka_1⟩ := hV.ref (t := 10) ha0 ka0 3 rfl (by decide)
  refine wa_getR B (C := RX11) (T := TX11) (N := 16) iq_X11_systems_X11 ha0 ka0 (by decide) rfl 3 (by decide) (by decide) (by decide +kernel) rfl (fun _ _ _ => rfl) (v := a_1) ea_1 dX11_systems_1 ?_
  refine wa_aload_n B dX11_systems_4 rfl 0 rfl ?_
  refine wa_getR B (C := RX11) (T := TX11) (N := 16) iq_X11_systems_X11 ha0 ka0 (by decide) rfl 0 (by decide) (by decide) (by decide +kernel) rfl (fun _ _ _ => rfl) (v := t0) et0 dX11_systems_5 ?_
  refine wa_aload_n B dX11_systems_8 rfl 0 rfl ?_
  obtain ⟨a_2, ea_2, ha_2, ka_2⟩ := hV.ref (t := 9) ha0 ka0 12 rfl (by decide)
  refine wa_getR B (C := RX11) (T := TX11) (N := 16) iq_X11_systems_X11 ha0 ka0 (by decide) rfl 12 (by decide) (by decide) (by decide +kernel) rfl (fun _ _ _ => rfl) (v := a_2) ea_2 dX11_systems_9 ?_
  refine wa_callVi B (x := (RX10, TX10, 3)) (As := [.ref t0, .ref a_2]) (rest := []) (k_X10_read l dC dI h L hN q hV (a0 := a_1) ha_1 ka_1 (a1 := t0) ht0 kt0 (a2 := a_2) ha_2 ka_2  ) (cwV 2 B.1.2.2.2.2 gX11_systems_X10_read rfl rfl rfl (by decide +kernel) ⟨Nat.le_of_ble_eq_true rfl, Nat.le_of_ble_eq_true rfl⟩) ha_1 ka_1 (by decide) rfl rfl rfl (Nat.le_of_ble_eq_true rfl) dX11_systems_12 (fun r_4 q_3 w_5 => ?_)
  obtain ⟨hV_q_3, h2_q_3, hw_5⟩ := w_5
  have hF_q_3 : sx_fr h L (fun a => sx_ck (h.1 a)) q q_3 := hF.tr (h2_q_3.mono (fun a (z : h.1 a = 10 ∨ h.1 a = 8 ∨ h.1 a = 9 ∨ h.1 a = 201 ∨ h.1 a = 101 ∨ h.1 a = 202 ∨ h.1 a = 102 ∨ h.1 a = 103 ∨ h.1 a = 104) => (show sx_ck (h.1 a) from by (try unfold sx_mk at *); (try unfold sx_ck at *); omega)))
  refine wa_istore_n B [(1, .int r_4), (0, .ref a0)] dX11_systems_15 rfl (by decide) rfl ?_
  refine wa_aload_n B dX11_systems_16 rfl 1 rfl ?_
  have z_6 : q_3.2.2.1 a0 0 = t0 := (h2_q_3.R ha0 (show ¬ ((h.1 a0 = 10 ∨ h.1 a0 = 8 ∨ h.1 a0 = 9 ∨ h.1 a0 = 201 ∨ h.1 a0 = 101 ∨ h.1 a0 = 202 ∨ h.1 a0 = 102 ∨ h.1 a0 = 103 ∨ h.1 a0 = 104) ∧ (h.1 a0 = 8 ∨ h.1 a0 = 11)) from fun z9 => (show ¬ (h.1 a0 = 10 ∨ h.1 a0 = 8 ∨ h.1 a0 = 9 ∨ h.1 a0 = 201 ∨ h.1 a0 = 101 ∨ h.1 a0 = 202 ∨ h.1 a0 = 102 ∨ h.1 a0 = 103 ∨ h.1 a0 = 104) from by omega) z9.1) 0).trans (et0)
  refine wa_getR B (C := RX11) (T := TX11) (N := 16) iq_X11_systems_X11 ha0 ka0 (by decide) rfl 0 (by decide) (by decide) (by decide +kernel) rfl (fun _ _ _ => rfl) (v := t0) z_6 dX11_systems_17 ?_
  refine wa_callVv B (x := (RX7, TX7, 2)) (As := []) (rest := []) (k_X7_clear l dC dI h L hN q_3 hV_q_3 (a0 := t0) ht0 kt0  ) (cwV 0 B.1.2.2.2.2 gX11_systems_X7_clear rfl rfl rfl (by decide +kernel) ⟨Nat.le_of_ble_eq_true rfl, Nat.le_of_ble_eq_true rfl⟩) ht0 kt0 (by decide) rfl rfl rfl (Nat.le_of_ble_eq_true rfl) dX11_systems_20 (fun q_7 w_8 => ?_)
  obtain ⟨hV_q_7, h2_q_7, hw_8⟩ := w_8
  have hF_q_7 : sx_fr h L (fun a => sx_ck (h.1 a)) q q_7 := hF_q_3.tr (h2_q_7.mono (fun a (z : a = t0 ∧ h.1 a = 7) => (show sx_ck (h.1 a) from by (try unfold sx_mk at *); (try unfold sx_ck at *); omega)))
  refine wa_aload_n B dX11_systems_23 rfl 1 rfl ?_
  refine wa_aload_n B dX11_systems_24 rfl 1 rfl ?_
  have z_9 : q_7.2.2.1 a0 3 = a_1 := (h2_q_7.R ha0 (show ¬ ((a0 = t0 ∧ h.1 a0 = 7) ∧ (h.1 a0 = 8 ∨ h.1 a0 = 11)) from fun z9 => (show ¬ (a0 = t0 ∧ h.1 a0 = 7) from by omega) z9.1) 3).trans ((h2_q_3.R ha0 (show ¬ ((h.1 a0 = 10 ∨ h.1 a0 = 8 ∨ h.1 a0 = 9 ∨ h.1 a0 = 201 ∨ h.1 a0 = 101 ∨ h.1 a0 = 202 ∨ h.1 a0 = 102 ∨ h.1 a0 = 103 ∨ h.1 a0 = 104) ∧ (h.1 a0 = 8 ∨ h.1 a0 = 11)) from fun z9 => (show ¬ (h.1 a0 = 10 ∨ h.1 a0 = 8 ∨ h.1 a0 = 9 ∨ h.1 a0 = 201 ∨ h.1 a0 = 101 ∨ h.1 a0 = 202 ∨ h.1 a0 = 102 ∨ h.1 a0 = 103 ∨ h.1 a0 = 104) from by omega) z9.1) 3).trans (ea_1))
  refine wa_getR B (C := RX11) (T := TX11) (N := 16) iq_X11_systems_X11 ha0 ka0 (by decide) rfl 3 (by decide) (by decide) (by decide +kernel) rfl (fun _ _ _ => rfl) (v := a_1) z_9 dX11_systems_25 ?_
  obtain ⟨a_10, ea_10, ha_10, ka_10⟩ := hV_q_7.ref (t := 8) ha_1 ka_1 0 rfl (by decide)
  refine wa_getR B (C := RX10) (T := TX10) (N := 3) iq_X11_systems_X10 ha_1 ka_1 (by decide) rfl 0 (by decide) (by decide) (by decide +kernel) rfl (fun _ _ _ => rfl) (v := a_10) ea_10 dX11_systems_28 ?_
  refine wa_getI B (C := RX8) (T := TX8) (N := 11) iq_X11_systems_X8 ha_10 ka_10 (by decide) rfl 5 (by decide) (by decide) (by decide +kernel) rfl (by decide) (v := (q_7.1 a_10 5)) rfl dX11_systems_31 ?_
  refine wa_putI B (C := RX11) (T := TX11) (N := 16) iq_X11_systems_X11 ha0 ka0 (by decide) rfl 15 (by decide) (by decide) (by decide +kernel) rfl (by decide) (v := (q_7.1 a_10 5)) (ty := .int) tyX11 tyX11_ok nmX11 rfl (by decide +kernel) rfl rfl dX11_systems_34 (fun q_11 eq_11 => ?_)
  have hV_q_11 : sx_V h L q_11 := by rw [eq_11]; exact hV_q_7.pI ka0 trivial
  have hF_q_11 : sx_fr h L (fun a => sx_ck (h.1 a)) q q_11 := hF_q_7.tr (by rw [eq_11]; exact sx_fr.pI (show sx_ck (h.1 a0) from by (try unfold sx_mk at *); (try unfold sx_ck at *); omega))
  have z_12 : q_11.1 a0 15 = (q_7.1 a_10 5) := by rw [eq_11]; exact sg_pI_e
  refine wa_iload_n B dX11_systems_37 rfl 0 rfl ?_
  refine wa_if_ne B 54 dX11_systems_38 (by decide) (fun (t_13 : ¬ r_4.toInt = 0) => ?_) (fun (t_13 : r_4.toInt = 0) => ?_)
  · refine wa_aload_n B dX11_systems_54 rfl 1 rfl ?_
    obtain ⟨a_14, ea_14, ha_14, ka_14⟩ := hV_q_11.ref (t := 9) ha0 ka0 11 rfl (by decide)
    refine wa_getR B (C := RX11) (T := TX11) (N := 16) iq_X11_systems_X11 ha0 ka0 (by decide) rfl 11 (by decide) (by decide) (by decide +kernel) rfl (fun _ _ _ => rfl) (v := a_14) ea_14 dX11_systems_55 ?_
    refine wa_astore_n B [(2, .ref a_14), (1, .int r_4), (0, .ref a0)] dX11_systems_58 rfl (by decide) rfl ?_
    refine wa_aload_n B dX11_systems_59 rfl 2 rfl ?_
    refine wa_aload_n B dX11_systems_60 rfl 2 rfl ?_
    have z_15 : q_11.2.2.1 a0 12 = a_2 := ((show q_11.2.2.1 a0 12 = q_7.2.2.1 a0 12 from by rw [eq_11]; rfl)).trans ((h2_q_7.R ha0 (show ¬ ((a0 = t0 ∧ h.1 a0 = 7) ∧ (h.1 a0 = 8 ∨ h.1 a0 = 11)) from fun z9 => (show ¬ (a0 = t0 ∧ h.1 a0 = 7) from by omega) z9.1) 12).trans ((h2_q_3.R ha0 (show ¬ ((h.1 a0 = 10 ∨ h.1 a0 = 8 ∨ h.1 a0 = 9 ∨ h.1 a0 = 201 ∨ h.1 a0 = 101 ∨ h.1 a0 = 202 ∨ h.1 a0 = 102 ∨ h.1 a0 = 103 ∨ h.1 a0 = 104) ∧ (h.1 a0 = 8 ∨ h.1 a0 = 11)) from fun z9 => (show ¬ (h.1 a0 = 10 ∨ h.1 a0 = 8 ∨ h.1 a0 = 9 ∨ h.1 a0 = 201 ∨ h.1 a0 = 101 ∨ h.1 a0 = 202 ∨ h.1 a0 = 102 ∨ h.1 a0 = 103 ∨ h.1 a0 = 104) from by omega) z9.1) 12).trans (ea_2)))
    refine wa_getR B (C := RX11) (T := TX11) (N := 16) iq_X11_systems_X11 ha0 ka0 (by decide) rfl 12 (by decide) (by decide) (by decide +kernel) rfl (fun _ _ _ => rfl) (v := a_2) z_15 dX11_systems_61 ?_
    refine wa_putR B (C := RX11) (T := TX11) (N := 16) iq_X11_systems_X11 ha0 ka0 (by decide) rfl 11 (by decide) (by decide) (by decide +kernel) rfl (fun _ _ _ => rfl) (v := a_2) (ty := (.object "ClayAccounts$Units")) tyX11 tyX11_ok nmX11 rfl (by decide +kernel) rfl rfl dX11_systems_64 (fun q_16 eq_16 => ?_)
    have hV_q_16 : sx_V h L q_16 := by rw [eq_16]; exact hV_q_11.pR (by rw [ka0]; decide) (fun _ => ⟨ha_2, by rw [ka_2, ka0]; rfl, fun z => by rw [ka0] at z; exact absurd rfl z⟩)
    have hF_q_16 : sx_fr h L (fun a => sx_ck (h.1 a)) q q_16 := hF_q_11.tr (by rw [eq_16]; exact sx_fr.pR (show (sx_ck (h.1 a0)) ∧ (h.1 a0 = 8 ∨ h.1 a0 = 11) from by (try unfold sx_mk at *); (try unfold sx_ck at *); omega))
    have z_17 : q_16.2.2.1 a0 11 = a_2 := by rw [eq_16]; exact sg_pR_e
    refine wa_aload_n B dX11_systems_67 rfl 2 rfl ?_
    refine wa_aload_n B dX11_systems_68 rfl 0 rfl ?_
    refine wa_putR B (C := RX11) (T := TX11) (N := 16) iq_X11_systems_X11 ha0 ka0 (by decide) rfl 12 (by decide) (by decide) (by decide +kernel) rfl (fun _ _ _ => rfl) (v := a_14) (ty := (.object "ClayAccounts$Units")) tyX11 tyX11_ok nmX11 rfl (by decide +kernel) rfl rfl dX11_systems_69 (fun q_18 eq_18 => ?_)
    have hV_q_18 : sx_V h L q_18 := by rw [eq_18]; exact hV_q_16.pR (by rw [ka0]; decide) (fun _ => ⟨ha_14, by rw [ka_14, ka0]; rfl, fun z => by rw [ka0] at z; exact absurd rfl z⟩)
    have hF_q_18 : sx_fr h L (fun a => sx_ck (h.1 a)) q q_18 := hF_q_16.tr (by rw [eq_18]; exact sx_fr.pR (show (sx_ck (h.1 a0)) ∧ (h.1 a0 = 8 ∨ h.1 a0 = 11) from by (try unfold sx_mk at *); (try unfold sx_ck at *); omega))
    have z_19 : q_18.2.2.1 a0 12 = a_14 := by rw [eq_18]; exact sg_pR_e
    refine wa_aload_n B dX11_systems_72 rfl 2 rfl ?_
    refine wa_iconst B 0 dX11_systems_73 (by decide) ?_
    refine wa_putI B (C := RX11) (T := TX11) (N := 16) iq_X11_systems_X11 ha0 ka0 (by decide) rfl 13 (by decide) (by decide) (by decide +kernel) rfl (by decide) (v := 0) (ty := .int) tyX11 tyX11_ok nmX11 rfl (by decide +kernel) rfl rfl dX11_systems_74 (fun q_20 eq_20 => ?_)
    have hV_q_20 : sx_V h L q_20 := by rw [eq_20]; exact hV_q_18.pI ka0 (show sx_in 0 (0) 8 from ⟨by decide, by decide⟩)
    have hF_q_20 : sx_fr h L (fun a => sx_ck (h.1 a)) q q_20 := hF_q_18.tr (by rw [eq_20]; exact sx_fr.pI (show sx_ck (h.1 a0) from by (try unfold sx_mk at *); (try unfold sx_ck at *); omega))
    have z_21 : q_20.1 a0 13 = 0 := by rw [eq_20]; exact sg_pI_e
    refine wa_aload_n B dX11_systems_77 rfl 2 rfl ?_
    obtain ⟨a_22, ea_22, ha_22, ka_22⟩ := hV_q_20.ref (t := 3) ha0 ka0 6 rfl (by decide)
    refine wa_getR B (C := RX11) (T := TX11) (N := 16) iq_X11_systems_X11 ha0 ka0 (by decide) rfl 6 (by decide) (by decide) (by decide +kernel) rfl (fun _ _ _ => rfl) (v := a_22) ea_22 dX11_systems_78 ?_
    refine wa_callVv B (x := (RX3, TX3, 5)) (As := []) (rest := []) (k_X3_forget l dC dI h L hN q_20 hV_q_20 (a0 := a_22) ha_22 ka_22  ) (cwV 0 B.1.2.2.2.2 gX11_systems_X3_forget rfl rfl rfl (by decide +kernel) ⟨Nat.le_of_ble_eq_true rfl, Nat.le_of_ble_eq_true rfl⟩) ha_22 ka_22 (by decide) rfl rfl rfl (Nat.le_of_ble_eq_true rfl) dX11_systems_81 (fun q_23 w_24 => ?_)
    obtain ⟨hV_q_23, h2_q_23⟩ := w_24
    have hF_q_23 : sx_fr h L (fun a => sx_ck (h.1 a)) q q_23 := hF_q_20.tr (h2_q_23.mono (fun a (z : a = a_22 ∧ h.1 a = 3) => (show sx_ck (h.1 a) from by (try unfold sx_mk at *); (try unfold sx_ck at *); omega)))
    refine wa_aload_n B dX11_systems_84 rfl 2 rfl ?_
    obtain ⟨a_25, ea_25, ha_25, ka_25, la_25⟩ := hV_q_23.refn (n := 144) (t := 100) ha0 ka0 10 rfl (by decide) rfl (by decide)
    refine wa_getR B (C := RX11) (T := TX11) (N := 16) iq_X11_systems_X11 ha0 ka0 (by decide) rfl 10 (by decide) (by decide) (by decide +kernel) rfl (fun _ _ _ => rfl) (v := a_25) ea_25 dX11_systems_85 ?_
    refine wa_iconst B (-1) dX11_systems_88 (by decide) ?_
    refine wa_callSv B (As := [.ref a_25, .int (-1)]) (rest := []) (k_J7_fill_53178 l dC dI h L hN q_23 hV_q_23 (a0 := a_25) ha_25 ka_25 (-1)  (by first | assumption | omega | decide) (by first | assumption | omega | decide) (show sx_E 100 (-1) from trivial)) (va_cwS 2 B.1.2.2.2.2 gX11_systems_J7_fill_53178 rfl rfl rfl (by decide +kernel) ⟨Nat.le_of_ble_eq_true rfl, Nat.le_of_ble_eq_true rfl⟩) rfl rfl (Nat.le_of_ble_eq_true rfl) dX11_systems_89 (fun q_26 w_27 => ?_)
    obtain ⟨hV_q_26, h2_q_26⟩ := w_27
    have hF_q_26 : sx_fr h L (fun a => sx_ck (h.1 a)) q q_26 := hF_q_23.tr (h2_q_26.mono (fun a (z : a = a_25 ∧ h.1 a = 100 ∧ ¬ 100 = 100) => (show sx_ck (h.1 a) from by (try unfold sx_mk at *); (try unfold sx_ck at *); omega)))
    refine wa_aload_n B dX11_systems_92 rfl 2 rfl ?_
    have z_28 : q_26.2.2.1 a0 11 = a_2 := (h2_q_26.R ha0 (show ¬ ((a0 = a_25 ∧ h.1 a0 = 100 ∧ ¬ 100 = 100) ∧ (h.1 a0 = 8 ∨ h.1 a0 = 11)) from fun z9 => (show ¬ (a0 = a_25 ∧ h.1 a0 = 100 ∧ ¬ 100 = 100) from by omega) z9.1) 11).trans ((h2_q_23.R ha0 (show ¬ ((a0 = a_22 ∧ h.1 a0 = 3) ∧ (h.1 a0 = 8 ∨ h.1 a0 = 11)) from fun z9 => (show ¬ (a0 = a_22 ∧ h.1 a0 = 3) from by omega) z9.1) 11).trans (((show q_20.2.2.1 a0 11 = q_18.2.2.1 a0 11 from by rw [eq_20]; rfl)).trans (((show q_18.2.2.1 a0 11 = q_16.2.2.1 a0 11 from by rw [eq_18]; exact sg_pR_k (by decide))).trans (z_17))))
    refine wa_getR B (C := RX11) (T := TX11) (N := 16) iq_X11_systems_X11 ha0 ka0 (by decide) rfl 11 (by decide) (by decide) (by decide +kernel) rfl (fun _ _ _ => rfl) (v := a_2) z_28 dX11_systems_93 ?_
    refine wa_getI B (C := RX9) (T := TX9) (N := 7) iq_X11_systems_X9 ha_2 ka_2 (by decide) rfl 6 (by decide) (by decide) (by decide +kernel) rfl (by decide) (v := (q_26.1 a_2 6)) rfl dX11_systems_96 ?_
    have g_29 : (0 : Int) ≤ (q_26.1 a_2 6).toInt ∧ (q_26.1 a_2 6).toInt ≤ 3 := hV_q_26.int ha_2 ka_2 6
    have z_30 : q_26.1 a0 14 = q.1 a0 14 := (h2_q_26.I ha0 (show ¬ (a0 = a_25 ∧ h.1 a0 = 100 ∧ ¬ 100 = 100) from by omega) 14).trans ((h2_q_23.I ha0 (show ¬ (a0 = a_22 ∧ h.1 a0 = 3) from by omega) 14).trans (((show q_20.1 a0 14 = q_18.1 a0 14 from by rw [eq_20]; exact sg_pI_k (by decide))).trans (((show q_18.1 a0 14 = q_16.1 a0 14 from by rw [eq_18]; rfl)).trans (((show q_16.1 a0 14 = q_11.1 a0 14 from by rw [eq_16]; rfl)).trans (((show q_11.1 a0 14 = q_7.1 a0 14 from by rw [eq_11]; exact sg_pI_k (by decide))).trans ((h2_q_7.I ha0 (show ¬ (a0 = t0 ∧ h.1 a0 = 7) from by omega) 14).trans (h2_q_3.I ha0 (show ¬ (h.1 a0 = 10 ∨ h.1 a0 = 8 ∨ h.1 a0 = 9 ∨ h.1 a0 = 201 ∨ h.1 a0 = 101 ∨ h.1 a0 = 202 ∨ h.1 a0 = 102 ∨ h.1 a0 = 103 ∨ h.1 a0 = 104) from by omega) 14)))))))
    have y_31 : (q_26.1 a0 14).toInt = (q.1 a0 14).toInt := by rw [z_30]
    have z_32 : q_26.1 t0 1 = 0 := (h2_q_26.I ht0 (show ¬ (t0 = a_25 ∧ h.1 t0 = 100 ∧ ¬ 100 = 100) from by omega) 1).trans ((h2_q_23.I ht0 (show ¬ (t0 = a_22 ∧ h.1 t0 = 3) from by omega) 1).trans (((show q_20.1 t0 1 = q_18.1 t0 1 from by rw [eq_20]; exact sg_pI_k (by decide))).trans (((show q_18.1 t0 1 = q_16.1 t0 1 from by rw [eq_18]; rfl)).trans (((show q_16.1 t0 1 = q_11.1 t0 1 from by rw [eq_16]; rfl)).trans (((show q_11.1 t0 1 = q_7.1 t0 1 from by rw [eq_11]; exact sg_pI_k (by decide))).trans (hw_8))))))
    have y_33 : (q_26.1 t0 1).toInt = 0 := by rw [z_32]; rfl
    have z_34 : q_26.2.2.1 a0 0 = t0 := (h2_q_26.R ha0 (show ¬ ((a0 = a_25 ∧ h.1 a0 = 100 ∧ ¬ 100 = 100) ∧ (h.1 a0 = 8 ∨ h.1 a0 = 11)) from fun z9 => (show ¬ (a0 = a_25 ∧ h.1 a0 = 100 ∧ ¬ 100 = 100) from by omega) z9.1) 0).trans ((h2_q_23.R ha0 (show ¬ ((a0 = a_22 ∧ h.1 a0 = 3) ∧ (h.1 a0 = 8 ∨ h.1 a0 = 11)) from fun z9 => (show ¬ (a0 = a_22 ∧ h.1 a0 = 3) from by omega) z9.1) 0).trans (((show q_20.2.2.1 a0 0 = q_18.2.2.1 a0 0 from by rw [eq_20]; rfl)).trans (((show q_18.2.2.1 a0 0 = q_16.2.2.1 a0 0 from by rw [eq_18]; exact sg_pR_k (by decide))).trans (((show q_16.2.2.1 a0 0 = q_11.2.2.1 a0 0 from by rw [eq_16]; exact sg_pR_k (by decide))).trans (((show q_11.2.2.1 a0 0 = q_7.2.2.1 a0 0 from by rw [eq_11]; rfl)).trans ((h2_q_7.R ha0 (show ¬ ((a0 = t0 ∧ h.1 a0 = 7) ∧ (h.1 a0 = 8 ∨ h.1 a0 = 11)) from fun z9 => (show ¬ (a0 = t0 ∧ h.1 a0 = 7) from by omega) z9.1) 0).trans (z_6)))))))
    exact hret _ _ _ _ dX11_systems_99 ⟨hV_q_26, hF_q_26, ⟨z_34, by omega, by omega⟩⟩
  · refine wa_iconst B (-1) dX11_systems_41 (by decide) ?_
    refine wa_aload_n B dX11_systems_42 rfl 1 rfl ?_
    have z_35 : q_11.2.2.1 a0 3 = a_1 := ((show q_11.2.2.1 a0 3 = q_7.2.2.1 a0 3 from by rw [eq_11]; rfl)).trans (z_9)
    refine wa_getR B (C := RX11) (T := TX11) (N := 16) iq_X11_systems_X11 ha0 ka0 (by decide) rfl 3 (by decide) (by decide) (by decide +kernel) rfl (fun _ _ _ => rfl) (v := a_1) z_35 dX11_systems_43 ?_
    have z_36 : q_11.2.2.1 a_1 0 = a_10 := ((show q_11.2.2.1 a_1 0 = q_7.2.2.1 a_1 0 from by rw [eq_11]; rfl)).trans (ea_10)
    refine wa_getR B (C := RX10) (T := TX10) (N := 3) iq_X11_systems_X10 ha_1 ka_1 (by decide) rfl 0 (by decide) (by decide) (by decide +kernel) rfl (fun _ _ _ => rfl) (v := a_10) z_36 dX11_systems_46 ?_
    refine wa_getI B (C := RX8) (T := TX8) (N := 11) iq_X11_systems_X8 ha_10 ka_10 (by decide) rfl 6 (by decide) (by decide) (by decide +kernel) rfl (by decide) (v := (q_11.1 a_10 6)) rfl dX11_systems_49 ?_
    refine wa_isub B dX11_systems_52 (fun v_37 ev_37 => ?_)
    have tv_37 : v_37.toInt = (-1) - (q_11.1 a_10 6).toInt := by have b1 := zx_bd (q_11.1 a_10 6); rw [ev_37]; exact zx_sub (show (-2147483648 : Int) ≤ (-1) - (q_11.1 a_10 6).toInt by omega) (show (-1) - (q_11.1 a_10 6).toInt < (2147483648 : Int) by omega)
    have z_38 : q_11.1 a0 14 = q.1 a0 14 := ((show q_11.1 a0 14 = q_7.1 a0 14 from by rw [eq_11]; exact sg_pI_k (by decide))).trans ((h2_q_7.I ha0 (show ¬ (a0 = t0 ∧ h.1 a0 = 7) from by omega) 14).trans (h2_q_3.I ha0 (show ¬ (h.1 a0 = 10 ∨ h.1 a0 = 8 ∨ h.1 a0 = 9 ∨ h.1 a0 = 201 ∨ h.1 a0 = 101 ∨ h.1 a0 = 202 ∨ h.1 a0 = 102 ∨ h.1 a0 = 103 ∨ h.1 a0 = 104) from by omega) 14))
    have y_39 : (q_11.1 a0 14).toInt = (q.1 a0 14).toInt := by rw [z_38]
    have z_40 : q_11.1 t0 1 = 0 := ((show q_11.1 t0 1 = q_7.1 t0 1 from by rw [eq_11]; exact sg_pI_k (by decide))).trans (hw_8)
    have y_41 : (q_11.1 t0 1).toInt = 0 := by rw [z_40]; rfl
    have z_42 : q_11.2.2.1 a0 0 = t0 := ((show q_11.2.2.1 a0 0 = q_7.2.2.1 a0 0 from by rw [eq_11]; rfl)).trans ((h2_q_7.R ha0 (show ¬ ((a0 = t0 ∧ h.1 a0 = 7) ∧ (h.1 a0 = 8 ∨ h.1 a0 = 11)) from fun z9 => (show ¬ (a0 = t0 ∧ h.1 a0 = 7) from by omega) z9.1) 0).trans (z_6))
    exact hret _ _ _ _ dX11_systems_53 ⟨hV_q_11, hF_q_11, ⟨z_42, by omega, by omega⟩⟩
theorem iq_X11_fault_X11 : ∀ w ∈ wsX110, w ∈ wsX11_fault := fun _ h => List.mem_cons_of_mem _ (List.mem_append_right _ h)
set_option maxHeartbeats 4000000 in
set_option maxRecDepth 100000 in
theorem k_X11_fault (l : Launch) (dC : Nat → ClassId) (dI : Nat → Nat → Nat) (h : Sh) (L : List Nat) (hN : sx_nd L) (q : Sg) (hV : sx_V h L q) {a0 : Nat} (ha0 : a0 ∈ L) (ka0 : h.1 a0 = 11)   : CMi l dC dI h L yX11_fault wsX11_fault ({ frames := 0, cells := 0, slots := 0, locals := 0 } : Room) q [.ref a0] (fun r q' => q = q') := by
  refine cm_i (cc := cX11_fault) (mL := 1) (own := RX11) hN (by decide) rfl rfl (Nat.le_of_ble_eq_true rfl) (fun Z B hret => ?_)
  show WA l dC dI h L ({ frames := 0, cells := 0, slots := 0, locals := 0 } : Room) 1 Z q 0 [(0, .ref a0)] []
  refine wa_aload_n B dX11_fault_0 rfl 0 rfl ?_
  refine wa_getI B (C := RX11) (T := TX11) (N := 16) iq_X11_fault_X11 ha0 ka0 (by decide) rfl 15 (by decide) (by decide) (by decide +kernel) rfl (by decide) (v := (q.1 a0 15)) rfl dX11_fault_1 ?_
  exact hret _ _ _ _ dX11_fault_4 rfl
theorem iq_X11_write_X11 : ∀ w ∈ wsX110, w ∈ wsX11_write := fun _ h => List.mem_cons_of_mem _ (List.mem_append_left _ (List.mem_append_left _ (List.mem_append_right _ h)))
theorem iq_X11_write_X7 : ∀ w ∈ wsX70, w ∈ wsX11_write := fun _ h => List.mem_cons_of_mem _ (List.mem_append_left _ (List.mem_append_right _ h))
set_option maxHeartbeats 4000000 in
set_option maxRecDepth 100000 in
theorem k_X11_write (l : Launch) (dC : Nat → ClassId) (dI : Nat → Nat → Nat) (h : Sh) (L : List Nat) (hN : sx_nd L) (q : Sg) (hV : sx_V h L q) {a0 : Nat} (ha0 : a0 ∈ L) (ka0 : h.1 a0 = 11) (n1 : Int32) (n2 : Int32) {t0 : Nat} (et0 : q.2.2.1 a0 0 = t0)   : CMi l dC dI h L yX11_write wsX11_write ({ frames := 3, cells := 0, slots := 0, locals := 74 } : Room) q [.ref a0, .int n1, .int n2] (fun r q' => sx_V h L q' ∧ sx_fr h L (fun a => sx_ck (h.1 a)) q q' ∧ (q'.2.2.1 a0 0 = t0 ∧ (q'.1 t0 1).toInt = (q.1 t0 1).toInt ∧ (q'.1 a0 14).toInt = (q.1 a0 14).toInt)) := by
  refine cm_i (cc := cX11_write) (mL := 3) (own := RX11) hN (by decide) rfl rfl (Nat.le_of_ble_eq_true rfl) (fun Z B hret => ?_)
  have hF : sx_fr h L (fun a => sx_ck (h.1 a)) q q := sx_fr.rf
  obtain ⟨ht0, kt0, lt0⟩ : t0 ∈ L ∧ h.1 t0 = 7 ∧ h.2.1 t0 = 1 := by obtain ⟨r9, e9, z1, z2, z3⟩ := hV.refn (t := 7) (n := 1) ha0 ka0 0 rfl (by decide) rfl (by decide); rw [← et0, e9]; exact ⟨z1, z2, z3⟩
  show WA l dC dI h L ({ frames := 3, cells := 0, slots := 0, locals := 74 } : Room) 3 Z q 0 [(0, .ref a0), (1, .int n1), (2, .int n2)] []
  refine wa_aload_n B dX11_write_0 rfl 0 rfl ?_
  refine wa_iload_n B dX11_write_1 rfl 1 rfl ?_
  refine wa_callVi B (x := (RX11, TX11, 16)) (As := [.int n1]) (rest := []) (k_X11_isSystem l dC dI h L hN q hV (a0 := a0) ha0 ka0 n1  ) (cwV 1 B.1.2.2.2.2 gX11_write_X11_isSystem rfl rfl rfl (by decide +kernel) ⟨Nat.le_of_ble_eq_true rfl, Nat.le_of_ble_eq_true rfl⟩) ha0 ka0 (by decide) rfl rfl rfl (Nat.le_of_ble_eq_true rfl) dX11_write_2 (fun r_2 q_1 w_3 => ?_)
  obtain ⟨ew_3, hw_3⟩ := w_3
  subst ew_3
  refine wa_if_eq B 25 dX11_write_5 (by decide) (fun (t_4 : r_2.toInt = 0) => ?_) (fun (t_4 : ¬ r_2.toInt = 0) => ?_)
  · refine wa_iconst B (-1) dX11_write_25 (by decide) ?_
    exact hret _ _ _ _ dX11_write_26 ⟨hV, hF, ⟨et0, by have h9 : ((-1) : Int32).toInt = (-1) := rfl; omega, by have h9 : ((-1) : Int32).toInt = (-1) := rfl; omega⟩⟩
  · refine wa_iload_n B dX11_write_8 rfl 2 rfl ?_
    refine wa_iconst B 1 dX11_write_9 (by decide) ?_
    refine wa_icmp_lt B 25 dX11_write_10 (by decide) (fun (t_5 : n2.toInt < 1) => ?_) (fun (t_5 : ¬ n2.toInt < 1) => ?_)
    · refine wa_iconst B (-1) dX11_write_25 (by decide) ?_
      exact hret _ _ _ _ dX11_write_26 ⟨hV, hF, ⟨et0, by have h9 : ((-1) : Int32).toInt = (-1) := rfl; omega, by have h9 : ((-1) : Int32).toInt = (-1) := rfl; omega⟩⟩
    · refine wa_aload_n B dX11_write_13 rfl 0 rfl ?_
      obtain ⟨a_6, ea_6, ha_6, ka_6⟩ := hV.ref (t := 9) ha0 ka0 11 rfl (by decide)
      refine wa_getR B (C := RX11) (T := TX11) (N := 16) iq_X11_write_X11 ha0 ka0 (by decide) rfl 11 (by decide) (by decide) (by decide +kernel) rfl (fun _ _ _ => rfl) (v := a_6) ea_6 dX11_write_14 ?_
      refine wa_iload_n B dX11_write_17 rfl 1 rfl ?_
      refine wa_iload_n B dX11_write_18 rfl 2 rfl ?_
      refine wa_callVi B (x := (RX9, TX9, 7)) (As := [.int n1, .int n2]) (rest := []) (k_X9_canWrite l dC dI h L hN q hV (a0 := a_6) ha_6 ka_6 n1 n2  (by first | assumption | omega | decide) (by first | assumption | omega | decide)) (cwV 2 B.1.2.2.2.2 gX11_write_X9_canWrite rfl rfl rfl (by decide +kernel) ⟨Nat.le_of_ble_eq_true rfl, Nat.le_of_ble_eq_true rfl⟩) ha_6 ka_6 (by decide) rfl rfl rfl (Nat.le_of_ble_eq_true rfl) dX11_write_19 (fun r_8 q_7 w_9 => ?_)
      obtain ⟨ew_9, hw_9⟩ := w_9
      subst ew_9
      refine wa_if_ne B 27 dX11_write_22 (by decide) (fun (t_10 : ¬ r_8.toInt = 0) => ?_) (fun (t_10 : r_8.toInt = 0) => ?_)
      · refine wa_aload_n B dX11_write_27 rfl 0 rfl ?_
        obtain ⟨a_11, ea_11, ha_11, ka_11, la_11⟩ := hV.refn (n := 2) (t := 7) ha0 ka0 1 rfl (by decide) rfl (by decide)
        have nt0_a_11 : ¬ t0 = a_11 := fun z9 => absurd (z9 ▸ lt0 : h.2.1 a_11 = 1) (by rw [la_11]; decide)
        refine wa_getR B (C := RX11) (T := TX11) (N := 16) iq_X11_write_X11 ha0 ka0 (by decide) rfl 1 (by decide) (by decide) (by decide +kernel) rfl (fun _ _ _ => rfl) (v := a_11) ea_11 dX11_write_28 ?_
        refine wa_callVv B (x := (RX7, TX7, 2)) (As := []) (rest := []) (k_X7_clear l dC dI h L hN q hV (a0 := a_11) ha_11 ka_11  ) (cwV 0 B.1.2.2.2.2 gX11_write_X7_clear rfl rfl rfl (by decide +kernel) ⟨Nat.le_of_ble_eq_true rfl, Nat.le_of_ble_eq_true rfl⟩) ha_11 ka_11 (by decide) rfl rfl rfl (Nat.le_of_ble_eq_true rfl) dX11_write_31 (fun q_12 w_13 => ?_)
        obtain ⟨hV_q_12, h2_q_12, hw_13⟩ := w_13
        have hF_q_12 : sx_fr h L (fun a => sx_ck (h.1 a)) q q_12 := hF.tr (h2_q_12.mono (fun a (z : a = a_11 ∧ h.1 a = 7) => (show sx_ck (h.1 a) from by (try unfold sx_mk at *); (try unfold sx_ck at *); omega)))
        refine wa_aload_n B dX11_write_34 rfl 0 rfl ?_
        have z_14 : q_12.2.2.1 a0 11 = a_6 := (h2_q_12.R ha0 (show ¬ ((a0 = a_11 ∧ h.1 a0 = 7) ∧ (h.1 a0 = 8 ∨ h.1 a0 = 11)) from fun z9 => (show ¬ (a0 = a_11 ∧ h.1 a0 = 7) from by omega) z9.1) 11).trans (ea_6)
        refine wa_getR B (C := RX11) (T := TX11) (N := 16) iq_X11_write_X11 ha0 ka0 (by decide) rfl 11 (by decide) (by decide) (by decide +kernel) rfl (fun _ _ _ => rfl) (v := a_6) z_14 dX11_write_35 ?_
        refine wa_aload_n B dX11_write_38 rfl 0 rfl ?_
        have z_15 : q_12.2.2.1 a0 1 = a_11 := (h2_q_12.R ha0 (show ¬ ((a0 = a_11 ∧ h.1 a0 = 7) ∧ (h.1 a0 = 8 ∨ h.1 a0 = 11)) from fun z9 => (show ¬ (a0 = a_11 ∧ h.1 a0 = 7) from by omega) z9.1) 1).trans (ea_11)
        refine wa_getR B (C := RX11) (T := TX11) (N := 16) iq_X11_write_X11 ha0 ka0 (by decide) rfl 1 (by decide) (by decide) (by decide +kernel) rfl (fun _ _ _ => rfl) (v := a_11) z_15 dX11_write_39 ?_
        refine wa_iload_n B dX11_write_42 rfl 1 rfl ?_
        refine wa_iload_n B dX11_write_43 rfl 2 rfl ?_
        obtain ⟨a_16, ea_16, ha_16, ka_16, la_16⟩ := hV_q_12.refn (n := 59) (t := 300) ha_11 ka_11 0 rfl (by decide) (by rw [la_11]; rfl) (by decide)
        refine wa_callVv B (x := (RX9, TX9, 7)) (As := [.ref a_11, .int n1, .int n2]) (rest := []) (k_X9_writeTo l dC dI h L hN q_12 hV_q_12 (a0 := a_6) ha_6 ka_6 (a1 := a_11) ha_11 ka_11 n1 n2 (b0 := a_16) ea_16  (by first | assumption | omega | decide) (by first | assumption | omega | decide)) (cwV 3 B.1.2.2.2.2 gX11_write_X9_writeTo rfl rfl rfl (by decide +kernel) ⟨Nat.le_of_ble_eq_true rfl, Nat.le_of_ble_eq_true rfl⟩) ha_6 ka_6 (by decide) rfl rfl rfl (Nat.le_of_ble_eq_true rfl) dX11_write_44 (fun q_17 w_18 => ?_)
        obtain ⟨hV_q_17, h2_q_17⟩ := w_18
        have hF_q_17 : sx_fr h L (fun a => sx_ck (h.1 a)) q q_17 := hF_q_12.tr (h2_q_17.mono (fun a (z : a = a_11 ∧ h.1 a = 7 ∨ a = a_16 ∧ h.1 a = 300) => (show sx_ck (h.1 a) from by (try unfold sx_mk at *); (try unfold sx_ck at *); omega)))
        refine wa_aload_n B dX11_write_47 rfl 0 rfl ?_
        have z_19 : q_17.2.2.1 a0 1 = a_11 := (h2_q_17.R ha0 (show ¬ ((a0 = a_11 ∧ h.1 a0 = 7 ∨ a0 = a_16 ∧ h.1 a0 = 300) ∧ (h.1 a0 = 8 ∨ h.1 a0 = 11)) from fun z9 => (show ¬ (a0 = a_11 ∧ h.1 a0 = 7 ∨ a0 = a_16 ∧ h.1 a0 = 300) from by omega) z9.1) 1).trans (z_15)
        refine wa_getR B (C := RX11) (T := TX11) (N := 16) iq_X11_write_X11 ha0 ka0 (by decide) rfl 1 (by decide) (by decide) (by decide +kernel) rfl (fun _ _ _ => rfl) (v := a_11) z_19 dX11_write_48 ?_
        refine wa_getI B (C := RX7) (T := TX7) (N := 2) iq_X11_write_X7 ha_11 ka_11 (by decide) rfl 1 (by decide) (by decide) (by decide +kernel) rfl (by decide) (v := (q_17.1 a_11 1)) rfl dX11_write_51 ?_
        have z_21 : q_17.2.2.1 a_11 0 = a_16 := (h2_q_17.R ha_11 (show ¬ ((a_11 = a_11 ∧ h.1 a_11 = 7 ∨ a_11 = a_16 ∧ h.1 a_11 = 300) ∧ (h.1 a_11 = 8 ∨ h.1 a_11 = 11)) from by omega) 0).trans (ea_16)
        have g_20 : (0 : Int) ≤ (q_17.1 a_11 1).toInt ∧ (q_17.1 a_11 1).toInt ≤ (h.2.1 a_16 : Int) := by have z9 := hV_q_17.int ha_11 ka_11 1; rw [z_21] at z9; exact z9
        have z_22 : q_17.1 a0 14 = q.1 a0 14 := (h2_q_17.I ha0 (show ¬ (a0 = a_11 ∧ h.1 a0 = 7 ∨ a0 = a_16 ∧ h.1 a0 = 300) from by omega) 14).trans (h2_q_12.I ha0 (show ¬ (a0 = a_11 ∧ h.1 a0 = 7) from by omega) 14)
        have y_23 : (q_17.1 a0 14).toInt = (q.1 a0 14).toInt := by rw [z_22]
        have z_24 : q_17.1 t0 1 = q.1 t0 1 := (h2_q_17.I ht0 (show ¬ (t0 = a_11 ∧ h.1 t0 = 7 ∨ t0 = a_16 ∧ h.1 t0 = 300) from by omega) 1).trans (h2_q_12.I ht0 (show ¬ (t0 = a_11 ∧ h.1 t0 = 7) from by omega) 1)
        have y_25 : (q_17.1 t0 1).toInt = (q.1 t0 1).toInt := by rw [z_24]
        have z_26 : q_17.2.2.1 a0 0 = t0 := (h2_q_17.R ha0 (show ¬ ((a0 = a_11 ∧ h.1 a0 = 7 ∨ a0 = a_16 ∧ h.1 a0 = 300) ∧ (h.1 a0 = 8 ∨ h.1 a0 = 11)) from fun z9 => (show ¬ (a0 = a_11 ∧ h.1 a0 = 7 ∨ a0 = a_16 ∧ h.1 a0 = 300) from by omega) z9.1) 0).trans ((h2_q_12.R ha0 (show ¬ ((a0 = a_11 ∧ h.1 a0 = 7) ∧ (h.1 a0 = 8 ∨ h.1 a0 = 11)) from fun z9 => (show ¬ (a0 = a_11 ∧ h.1 a0 = 7) from by omega) z9.1) 0).trans (et0))
        exact hret _ _ _ _ dX11_write_54 ⟨hV_q_17, hF_q_17, ⟨z_26, by omega, by omega⟩⟩
      · refine wa_iconst B (-1) dX11_write_25 (by decide) ?_
        exact hret _ _ _ _ dX11_write_26 ⟨hV, hF, ⟨et0, by have h9 : ((-1) : Int32).toInt = (-1) := rfl; omega, by have h9 : ((-1) : Int32).toInt = (-1) := rfl; omega⟩⟩
theorem iq_X11_tablet_X11 : ∀ w ∈ wsX110, w ∈ wsX11_tablet := fun _ h => List.mem_cons_of_mem _ (List.mem_append_left _ (List.mem_append_left _ (List.mem_append_left _ (List.mem_append_left _ (List.mem_append_left _ (List.mem_append_left _ (List.mem_append_left _ (List.mem_append_right _ h))))))))
theorem iq_X11_tablet_X6 : ∀ w ∈ wsX60, w ∈ wsX11_tablet := fun _ h => List.mem_cons_of_mem _ (List.mem_append_left _ (List.mem_append_left _ (List.mem_append_left _ (List.mem_append_left _ (List.mem_append_left _ (List.mem_append_right _ h))))))
theorem iq_X11_tablet_X8 : ∀ w ∈ wsX80, w ∈ wsX11_tablet := fun _ h => List.mem_cons_of_mem _ (List.mem_append_left _ (List.mem_append_left _ (List.mem_append_left _ (List.mem_append_left _ (List.mem_append_right _ h)))))
theorem iq_X11_tablet_X9 : ∀ w ∈ wsX90, w ∈ wsX11_tablet := fun _ h => List.mem_cons_of_mem _ (List.mem_append_left _ (List.mem_append_left _ (List.mem_append_left _ (List.mem_append_left _ (List.mem_append_left _ (List.mem_append_left _ (List.mem_append_right _ h)))))))
set_option maxHeartbeats 4000000 in
set_option maxRecDepth 100000 in
theorem k_X11_tablet (l : Launch) (dC : Nat → ClassId) (dI : Nat → Nat → Nat) (h : Sh) (L : List Nat) (hN : sx_nd L) (q : Sg) (hV : sx_V h L q) {a0 : Nat} (ha0 : a0 ∈ L) (ka0 : h.1 a0 = 11) {t0 : Nat} (et0 : q.2.2.1 a0 0 = t0)   : CMi l dC dI h L yX11_tablet wsX11_tablet ({ frames := 5, cells := 0, slots := 0, locals := 121 } : Room) q [.ref a0] (fun r q' => sx_V h L q' ∧ sx_fr h L (fun a => sx_ck (h.1 a)) q q' ∧ (q'.2.2.1 a0 0 = t0 ∧ (q'.1 t0 1).toInt = 0 ∧ (q'.1 a0 14).toInt = (q.1 a0 14).toInt)) := by
  refine cm_i (cc := cX11_tablet) (mL := 3) (own := RX11) hN (by decide) rfl rfl (Nat.le_of_ble_eq_true rfl) (fun Z B hret => ?_)
  have hF : sx_fr h L (fun a => sx_ck (h.1 a)) q q := sx_fr.rf
  obtain ⟨ht0, kt0, lt0⟩ : t0 ∈ L ∧ h.1 t0 = 7 ∧ h.2.1 t0 = 1 := by obtain ⟨r9, e9, z1, z2, z3⟩ := hV.refn (t := 7) (n := 1) ha0 ka0 0 rfl (by decide) rfl (by decide); rw [← et0, e9]; exact ⟨z1, z2, z3⟩
  show WA l dC dI h L ({ frames := 5, cells := 0, slots := 0, locals := 121 } : Room) 3 Z q 0 [(0, .ref a0)] []
  refine wa_aload_n B dX11_tablet_0 rfl 0 rfl ?_
  refine wa_getI B (C := RX11) (T := TX11) (N := 16) iq_X11_tablet_X11 ha0 ka0 (by decide) rfl 13 (by decide) (by decide) (by decide +kernel) rfl (by decide) (v := (q.1 a0 13)) rfl dX11_tablet_1 ?_
  have g_1 : (0 : Int) ≤ (q.1 a0 13).toInt ∧ (q.1 a0 13).toInt ≤ 8 := hV.int ha0 ka0 13
  refine wa_bipush B 8 dX11_tablet_4 (by decide) ?_
  refine wa_icmp_ge B 23 dX11_tablet_6 (by decide) (fun (t_2 : 8 ≤ (q.1 a0 13).toInt) => ?_) (fun (t_2 : ¬ 8 ≤ (q.1 a0 13).toInt) => ?_)
  · refine wa_iconst B 0 dX11_tablet_23 (by decide) ?_
    refine wa_istore_n B [(1, .int 0), (0, .ref a0)] dX11_tablet_24 rfl (by decide) rfl ?_
    refine wa_iload_n B dX11_tablet_25 rfl 0 rfl ?_
    refine wa_if_eq B 60 dX11_tablet_26 (by decide) (fun _ => ?_) (fun z => absurd z (by decide))
    refine wa_iconst B 0 dX11_tablet_60 (by decide) ?_
    refine wa_istore_n B [(2, .int 0), (1, .int 0), (0, .ref a0)] dX11_tablet_61 rfl (by decide) rfl ?_
    refine wa_aload_n B dX11_tablet_62 rfl 2 rfl ?_
    refine wa_getR B (C := RX11) (T := TX11) (N := 16) iq_X11_tablet_X11 ha0 ka0 (by decide) rfl 0 (by decide) (by decide) (by decide +kernel) rfl (fun _ _ _ => rfl) (v := t0) et0 dX11_tablet_63 ?_
    refine wa_callVv B (x := (RX7, TX7, 2)) (As := []) (rest := []) (k_X7_clear l dC dI h L hN q hV (a0 := t0) ht0 kt0  ) (cwV 0 B.1.2.2.2.2 gX11_tablet_X7_clear rfl rfl rfl (by decide +kernel) ⟨Nat.le_of_ble_eq_true rfl, Nat.le_of_ble_eq_true rfl⟩) ht0 kt0 (by decide) rfl rfl rfl (Nat.le_of_ble_eq_true rfl) dX11_tablet_66 (fun q_3 w_4 => ?_)
    obtain ⟨hV_q_3, h2_q_3, hw_4⟩ := w_4
    have hF_q_3 : sx_fr h L (fun a => sx_ck (h.1 a)) q q_3 := hF.tr (h2_q_3.mono (fun a (z : a = t0 ∧ h.1 a = 7) => (show sx_ck (h.1 a) from by (try unfold sx_mk at *); (try unfold sx_ck at *); omega)))
    refine wa_iload_n B dX11_tablet_69 rfl 1 rfl ?_
    refine wa_if_ne B 77 dX11_tablet_70 (by decide) (fun z => absurd z (by decide)) (fun _ => ?_)
    refine wa_sipush B (-400) dX11_tablet_73 (by decide) ?_
    have z_5 : q_3.1 a0 14 = q.1 a0 14 := h2_q_3.I ha0 (show ¬ (a0 = t0 ∧ h.1 a0 = 7) from by omega) 14
    have y_6 : (q_3.1 a0 14).toInt = (q.1 a0 14).toInt := by rw [z_5]
    have y_7 : (q_3.1 t0 1).toInt = 0 := by rw [hw_4]; rfl
    have z_8 : q_3.2.2.1 a0 0 = t0 := (h2_q_3.R ha0 (show ¬ ((a0 = t0 ∧ h.1 a0 = 7) ∧ (h.1 a0 = 8 ∨ h.1 a0 = 11)) from fun z9 => (show ¬ (a0 = t0 ∧ h.1 a0 = 7) from by omega) z9.1) 0).trans (et0)
    exact hret _ _ _ _ dX11_tablet_76 ⟨hV_q_3, hF_q_3, ⟨z_8, by have h9 : ((-400) : Int32).toInt = (-400) := rfl; omega, by have h9 : ((-400) : Int32).toInt = (-400) := rfl; omega⟩⟩
  · refine wa_aload_n B dX11_tablet_9 rfl 0 rfl ?_
    obtain ⟨a_9, ea_9, ha_9, ka_9⟩ := hV.ref (t := 9) ha0 ka0 11 rfl (by decide)
    refine wa_getR B (C := RX11) (T := TX11) (N := 16) iq_X11_tablet_X11 ha0 ka0 (by decide) rfl 11 (by decide) (by decide) (by decide +kernel) rfl (fun _ _ _ => rfl) (v := a_9) ea_9 dX11_tablet_10 ?_
    refine wa_getI B (C := RX9) (T := TX9) (N := 7) iq_X11_tablet_X9 ha_9 ka_9 (by decide) rfl 6 (by decide) (by decide) (by decide +kernel) rfl (by decide) (v := (q.1 a_9 6)) rfl dX11_tablet_13 ?_
    have g_10 : (0 : Int) ≤ (q.1 a_9 6).toInt ∧ (q.1 a_9 6).toInt ≤ 3 := hV.int ha_9 ka_9 6
    refine wa_if_le B 23 dX11_tablet_16 (by decide) (fun (t_11 : (q.1 a_9 6).toInt ≤ 0) => ?_) (fun (t_11 : ¬ (q.1 a_9 6).toInt ≤ 0) => ?_)
    · refine wa_iconst B 0 dX11_tablet_23 (by decide) ?_
      refine wa_istore_n B [(1, .int 0), (0, .ref a0)] dX11_tablet_24 rfl (by decide) rfl ?_
      refine wa_iload_n B dX11_tablet_25 rfl 0 rfl ?_
      refine wa_if_eq B 60 dX11_tablet_26 (by decide) (fun _ => ?_) (fun z => absurd z (by decide))
      refine wa_iconst B 0 dX11_tablet_60 (by decide) ?_
      refine wa_istore_n B [(2, .int 0), (1, .int 0), (0, .ref a0)] dX11_tablet_61 rfl (by decide) rfl ?_
      refine wa_aload_n B dX11_tablet_62 rfl 2 rfl ?_
      refine wa_getR B (C := RX11) (T := TX11) (N := 16) iq_X11_tablet_X11 ha0 ka0 (by decide) rfl 0 (by decide) (by decide) (by decide +kernel) rfl (fun _ _ _ => rfl) (v := t0) et0 dX11_tablet_63 ?_
      refine wa_callVv B (x := (RX7, TX7, 2)) (As := []) (rest := []) (k_X7_clear l dC dI h L hN q hV (a0 := t0) ht0 kt0  ) (cwV 0 B.1.2.2.2.2 gX11_tablet_X7_clear rfl rfl rfl (by decide +kernel) ⟨Nat.le_of_ble_eq_true rfl, Nat.le_of_ble_eq_true rfl⟩) ht0 kt0 (by decide) rfl rfl rfl (Nat.le_of_ble_eq_true rfl) dX11_tablet_66 (fun q_12 w_13 => ?_)
      obtain ⟨hV_q_12, h2_q_12, hw_13⟩ := w_13
      have hF_q_12 : sx_fr h L (fun a => sx_ck (h.1 a)) q q_12 := hF.tr (h2_q_12.mono (fun a (z : a = t0 ∧ h.1 a = 7) => (show sx_ck (h.1 a) from by (try unfold sx_mk at *); (try unfold sx_ck at *); omega)))
      refine wa_iload_n B dX11_tablet_69 rfl 1 rfl ?_
      refine wa_if_ne B 77 dX11_tablet_70 (by decide) (fun z => absurd z (by decide)) (fun _ => ?_)
      refine wa_sipush B (-400) dX11_tablet_73 (by decide) ?_
      have z_14 : q_12.1 a0 14 = q.1 a0 14 := h2_q_12.I ha0 (show ¬ (a0 = t0 ∧ h.1 a0 = 7) from by omega) 14
      have y_15 : (q_12.1 a0 14).toInt = (q.1 a0 14).toInt := by rw [z_14]
      have y_16 : (q_12.1 t0 1).toInt = 0 := by rw [hw_13]; rfl
      have z_17 : q_12.2.2.1 a0 0 = t0 := (h2_q_12.R ha0 (show ¬ ((a0 = t0 ∧ h.1 a0 = 7) ∧ (h.1 a0 = 8 ∨ h.1 a0 = 11)) from fun z9 => (show ¬ (a0 = t0 ∧ h.1 a0 = 7) from by omega) z9.1) 0).trans (et0)
      exact hret _ _ _ _ dX11_tablet_76 ⟨hV_q_12, hF_q_12, ⟨z_17, by have h9 : ((-400) : Int32).toInt = (-400) := rfl; omega, by have h9 : ((-400) : Int32).toInt = (-400) := rfl; omega⟩⟩
    · refine wa_iconst B 1 dX11_tablet_19 (by decide) ?_
      refine wa_goto B 24 dX11_tablet_20 (by decide) ?_
      refine wa_istore_n B [(1, .int 1), (0, .ref a0)] dX11_tablet_24 rfl (by decide) rfl ?_
      refine wa_iload_n B dX11_tablet_25 rfl 0 rfl ?_
      refine wa_if_eq B 60 dX11_tablet_26 (by decide) (fun z => absurd z (by decide)) (fun _ => ?_)
      refine wa_aload_n B dX11_tablet_29 rfl 1 rfl ?_
      obtain ⟨a_18, ea_18, ha_18, ka_18⟩ := hV.ref (t := 6) ha0 ka0 4 rfl (by decide)
      refine wa_getR B (C := RX11) (T := TX11) (N := 16) iq_X11_tablet_X11 ha0 ka0 (by decide) rfl 4 (by decide) (by decide) (by decide +kernel) rfl (fun _ _ _ => rfl) (v := a_18) ea_18 dX11_tablet_30 ?_
      refine wa_aload_n B dX11_tablet_33 rfl 1 rfl ?_
      refine wa_getR B (C := RX11) (T := TX11) (N := 16) iq_X11_tablet_X11 ha0 ka0 (by decide) rfl 0 (by decide) (by decide) (by decide +kernel) rfl (fun _ _ _ => rfl) (v := t0) et0 dX11_tablet_34 ?_
      refine wa_aload_n B dX11_tablet_37 rfl 1 rfl ?_
      refine wa_getR B (C := RX11) (T := TX11) (N := 16) iq_X11_tablet_X11 ha0 ka0 (by decide) rfl 11 (by decide) (by decide) (by decide +kernel) rfl (fun _ _ _ => rfl) (v := a_9) ea_9 dX11_tablet_38 ?_
      refine wa_aload_n B dX11_tablet_41 rfl 1 rfl ?_
      obtain ⟨a_19, ea_19, ha_19, ka_19, la_19⟩ := hV.refn (n := 8) (t := 400) ha0 ka0 7 rfl (by decide) rfl (by decide)
      refine wa_getR B (C := RX11) (T := TX11) (N := 16) iq_X11_tablet_X11 ha0 ka0 (by decide) rfl 7 (by decide) (by decide) (by decide +kernel) rfl (fun _ _ _ => rfl) (v := a_19) ea_19 dX11_tablet_42 ?_
      refine wa_aload_n B dX11_tablet_45 rfl 1 rfl ?_
      refine wa_getI B (C := RX11) (T := TX11) (N := 16) iq_X11_tablet_X11 ha0 ka0 (by decide) rfl 13 (by decide) (by decide) (by decide +kernel) rfl (by decide) (v := (q.1 a0 13)) rfl dX11_tablet_46 ?_
      obtain ⟨a_20, ea_20, ha_20, ka_20⟩ := hV.elem (t := 5) ha_19 ka_19 (by decide) rfl (zx_ix (i := (q.1 a0 13)) (show 0 ≤ (q.1 a0 13).toInt by omega) (show (q.1 a0 13).toInt < (h.2.1 a_19 : Int) by omega))
      refine wa_aaload B (t0 := 3) ha_19 ka_19 (by decide) rfl (show 0 ≤ (q.1 a0 13).toInt by omega) (show (q.1 a0 13).toInt < (h.2.1 a_19 : Int) by omega) (v := a_20) ea_20 dX11_tablet_49 ?_
      refine wa_callVi B (x := (RX6, TX6, 8)) (As := [.ref t0, .ref a_9, .ref a_20]) (rest := []) (k_X6_read l dC dI h L hN q hV (a0 := a_18) ha_18 ka_18 (a1 := t0) ht0 kt0 (a2 := a_9) ha_9 ka_9 (a3 := a_20) ha_20 ka_20  ) (cwV 3 B.1.2.2.2.2 gX11_tablet_X6_read rfl rfl rfl (by decide +kernel) ⟨Nat.le_of_ble_eq_true rfl, Nat.le_of_ble_eq_true rfl⟩) ha_18 ka_18 (by decide) rfl rfl rfl (Nat.le_of_ble_eq_true rfl) dX11_tablet_50 (fun r_22 q_21 w_23 => ?_)
      obtain ⟨hV_q_21, h2_q_21, hw_23⟩ := w_23
      have hF_q_21 : sx_fr h L (fun a => sx_ck (h.1 a)) q q_21 := hF.tr (h2_q_21.mono (fun a (z : h.1 a = 6 ∨ h.1 a = 8 ∨ h.1 a = 5 ∨ h.1 a = 2 ∨ h.1 a = 1) => (show sx_ck (h.1 a) from by (try unfold sx_mk at *); (try unfold sx_ck at *); omega)))
      refine wa_if_eq B 60 dX11_tablet_53 (by decide) (fun (t_24 : r_22.toInt = 0) => ?_) (fun (t_24 : ¬ r_22.toInt = 0) => ?_)
      · refine wa_iconst B 0 dX11_tablet_60 (by decide) ?_
        refine wa_istore_n B [(2, .int 0), (1, .int 1), (0, .ref a0)] dX11_tablet_61 rfl (by decide) rfl ?_
        refine wa_aload_n B dX11_tablet_62 rfl 2 rfl ?_
        have z_25 : q_21.2.2.1 a0 0 = t0 := (h2_q_21.R ha0 (show ¬ ((h.1 a0 = 6 ∨ h.1 a0 = 8 ∨ h.1 a0 = 5 ∨ h.1 a0 = 2 ∨ h.1 a0 = 1) ∧ (h.1 a0 = 8 ∨ h.1 a0 = 11)) from fun z9 => (show ¬ (h.1 a0 = 6 ∨ h.1 a0 = 8 ∨ h.1 a0 = 5 ∨ h.1 a0 = 2 ∨ h.1 a0 = 1) from by omega) z9.1) 0).trans (et0)
        refine wa_getR B (C := RX11) (T := TX11) (N := 16) iq_X11_tablet_X11 ha0 ka0 (by decide) rfl 0 (by decide) (by decide) (by decide +kernel) rfl (fun _ _ _ => rfl) (v := t0) z_25 dX11_tablet_63 ?_
        refine wa_callVv B (x := (RX7, TX7, 2)) (As := []) (rest := []) (k_X7_clear l dC dI h L hN q_21 hV_q_21 (a0 := t0) ht0 kt0  ) (cwV 0 B.1.2.2.2.2 gX11_tablet_X7_clear rfl rfl rfl (by decide +kernel) ⟨Nat.le_of_ble_eq_true rfl, Nat.le_of_ble_eq_true rfl⟩) ht0 kt0 (by decide) rfl rfl rfl (Nat.le_of_ble_eq_true rfl) dX11_tablet_66 (fun q_26 w_27 => ?_)
        obtain ⟨hV_q_26, h2_q_26, hw_27⟩ := w_27
        have hF_q_26 : sx_fr h L (fun a => sx_ck (h.1 a)) q q_26 := hF_q_21.tr (h2_q_26.mono (fun a (z : a = t0 ∧ h.1 a = 7) => (show sx_ck (h.1 a) from by (try unfold sx_mk at *); (try unfold sx_ck at *); omega)))
        refine wa_iload_n B dX11_tablet_69 rfl 1 rfl ?_
        refine wa_if_ne B 77 dX11_tablet_70 (by decide) (fun _ => ?_) (fun z => absurd z (by decide))
        refine wa_aload_n B dX11_tablet_77 rfl 2 rfl ?_
        refine wa_aload_n B dX11_tablet_78 rfl 2 rfl ?_
        have z_28 : q_26.2.2.1 a0 4 = a_18 := (h2_q_26.R ha0 (show ¬ ((a0 = t0 ∧ h.1 a0 = 7) ∧ (h.1 a0 = 8 ∨ h.1 a0 = 11)) from fun z9 => (show ¬ (a0 = t0 ∧ h.1 a0 = 7) from by omega) z9.1) 4).trans ((h2_q_21.R ha0 (show ¬ ((h.1 a0 = 6 ∨ h.1 a0 = 8 ∨ h.1 a0 = 5 ∨ h.1 a0 = 2 ∨ h.1 a0 = 1) ∧ (h.1 a0 = 8 ∨ h.1 a0 = 11)) from fun z9 => (show ¬ (h.1 a0 = 6 ∨ h.1 a0 = 8 ∨ h.1 a0 = 5 ∨ h.1 a0 = 2 ∨ h.1 a0 = 1) from by omega) z9.1) 4).trans (ea_18))
        refine wa_getR B (C := RX11) (T := TX11) (N := 16) iq_X11_tablet_X11 ha0 ka0 (by decide) rfl 4 (by decide) (by decide) (by decide +kernel) rfl (fun _ _ _ => rfl) (v := a_18) z_28 dX11_tablet_79 ?_
        obtain ⟨a_29, ea_29, ha_29, ka_29⟩ := hV_q_26.ref (t := 8) ha_18 ka_18 0 rfl (by decide)
        refine wa_getR B (C := RX6) (T := TX6) (N := 8) iq_X11_tablet_X6 ha_18 ka_18 (by decide) rfl 0 (by decide) (by decide) (by decide +kernel) rfl (fun _ _ _ => rfl) (v := a_29) ea_29 dX11_tablet_82 ?_
        refine wa_getI B (C := RX8) (T := TX8) (N := 11) iq_X11_tablet_X8 ha_29 ka_29 (by decide) rfl 5 (by decide) (by decide) (by decide +kernel) rfl (by decide) (v := (q_26.1 a_29 5)) rfl dX11_tablet_85 ?_
        refine wa_putI B (C := RX11) (T := TX11) (N := 16) iq_X11_tablet_X11 ha0 ka0 (by decide) rfl 15 (by decide) (by decide) (by decide +kernel) rfl (by decide) (v := (q_26.1 a_29 5)) (ty := .int) tyX11 tyX11_ok nmX11 rfl (by decide +kernel) rfl rfl dX11_tablet_88 (fun q_30 eq_30 => ?_)
        have hV_q_30 : sx_V h L q_30 := by rw [eq_30]; exact hV_q_26.pI ka0 trivial
        have hF_q_30 : sx_fr h L (fun a => sx_ck (h.1 a)) q q_30 := hF_q_26.tr (by rw [eq_30]; exact sx_fr.pI (show sx_ck (h.1 a0) from by (try unfold sx_mk at *); (try unfold sx_ck at *); omega))
        have z_31 : q_30.1 a0 15 = (q_26.1 a_29 5) := by rw [eq_30]; exact sg_pI_e
        refine wa_iload_n B dX11_tablet_91 rfl 0 rfl ?_
        refine wa_if_ne B 108 dX11_tablet_92 (by decide) (fun z => absurd z (by decide)) (fun _ => ?_)
        refine wa_iconst B (-1) dX11_tablet_95 (by decide) ?_
        refine wa_aload_n B dX11_tablet_96 rfl 2 rfl ?_
        have z_32 : q_30.2.2.1 a0 4 = a_18 := ((show q_30.2.2.1 a0 4 = q_26.2.2.1 a0 4 from by rw [eq_30]; rfl)).trans (z_28)
        refine wa_getR B (C := RX11) (T := TX11) (N := 16) iq_X11_tablet_X11 ha0 ka0 (by decide) rfl 4 (by decide) (by decide) (by decide +kernel) rfl (fun _ _ _ => rfl) (v := a_18) z_32 dX11_tablet_97 ?_
        have z_33 : q_30.2.2.1 a_18 0 = a_29 := ((show q_30.2.2.1 a_18 0 = q_26.2.2.1 a_18 0 from by rw [eq_30]; rfl)).trans (ea_29)
        refine wa_getR B (C := RX6) (T := TX6) (N := 8) iq_X11_tablet_X6 ha_18 ka_18 (by decide) rfl 0 (by decide) (by decide) (by decide +kernel) rfl (fun _ _ _ => rfl) (v := a_29) z_33 dX11_tablet_100 ?_
        refine wa_getI B (C := RX8) (T := TX8) (N := 11) iq_X11_tablet_X8 ha_29 ka_29 (by decide) rfl 6 (by decide) (by decide) (by decide +kernel) rfl (by decide) (v := (q_30.1 a_29 6)) rfl dX11_tablet_103 ?_
        refine wa_isub B dX11_tablet_106 (fun v_34 ev_34 => ?_)
        have tv_34 : v_34.toInt = (-1) - (q_30.1 a_29 6).toInt := by have b1 := zx_bd (q_30.1 a_29 6); rw [ev_34]; exact zx_sub (show (-2147483648 : Int) ≤ (-1) - (q_30.1 a_29 6).toInt by omega) (show (-1) - (q_30.1 a_29 6).toInt < (2147483648 : Int) by omega)
        have z_35 : q_30.1 a0 14 = q.1 a0 14 := ((show q_30.1 a0 14 = q_26.1 a0 14 from by rw [eq_30]; exact sg_pI_k (by decide))).trans ((h2_q_26.I ha0 (show ¬ (a0 = t0 ∧ h.1 a0 = 7) from by omega) 14).trans (h2_q_21.I ha0 (show ¬ (h.1 a0 = 6 ∨ h.1 a0 = 8 ∨ h.1 a0 = 5 ∨ h.1 a0 = 2 ∨ h.1 a0 = 1) from by omega) 14))
        have y_36 : (q_30.1 a0 14).toInt = (q.1 a0 14).toInt := by rw [z_35]
        have z_37 : q_30.1 t0 1 = 0 := ((show q_30.1 t0 1 = q_26.1 t0 1 from by rw [eq_30]; exact sg_pI_k (by decide))).trans (hw_27)
        have y_38 : (q_30.1 t0 1).toInt = 0 := by rw [z_37]; rfl
        have z_39 : q_30.2.2.1 a0 0 = t0 := ((show q_30.2.2.1 a0 0 = q_26.2.2.1 a0 0 from by rw [eq_30]; rfl)).trans ((h2_q_26.R ha0 (show ¬ ((a0 = t0 ∧ h.1 a0 = 7) ∧ (h.1 a0 = 8 ∨ h.1 a0 = 11)) from fun z9 => (show ¬ (a0 = t0 ∧ h.1 a0 = 7) from by omega) z9.1) 0).trans (z_25))
        exact hret _ _ _ _ dX11_tablet_107 ⟨hV_q_30, hF_q_30, ⟨z_39, by omega, by omega⟩⟩
      · refine wa_iconst B 1 dX11_tablet_56 (by decide) ?_
        refine wa_goto B 61 dX11_tablet_57 (by decide) ?_
        refine wa_istore_n B [(2, .int 1), (1, .int 1), (0, .ref a0)] dX11_tablet_61 rfl (by decide) rfl ?_
        refine wa_aload_n B dX11_tablet_62 rfl 2 rfl ?_
        have z_40 : q_21.2.2.1 a0 0 = t0 := (h2_q_21.R ha0 (show ¬ ((h.1 a0 = 6 ∨ h.1 a0 = 8 ∨ h.1 a0 = 5 ∨ h.1 a0 = 2 ∨ h.1 a0 = 1) ∧ (h.1 a0 = 8 ∨ h.1 a0 = 11)) from fun z9 => (show ¬ (h.1 a0 = 6 ∨ h.1 a0 = 8 ∨ h.1 a0 = 5 ∨ h.1 a0 = 2 ∨ h.1 a0 = 1) from by omega) z9.1) 0).trans (et0)
        refine wa_getR B (C := RX11) (T := TX11) (N := 16) iq_X11_tablet_X11 ha0 ka0 (by decide) rfl 0 (by decide) (by decide) (by decide +kernel) rfl (fun _ _ _ => rfl) (v := t0) z_40 dX11_tablet_63 ?_
        refine wa_callVv B (x := (RX7, TX7, 2)) (As := []) (rest := []) (k_X7_clear l dC dI h L hN q_21 hV_q_21 (a0 := t0) ht0 kt0  ) (cwV 0 B.1.2.2.2.2 gX11_tablet_X7_clear rfl rfl rfl (by decide +kernel) ⟨Nat.le_of_ble_eq_true rfl, Nat.le_of_ble_eq_true rfl⟩) ht0 kt0 (by decide) rfl rfl rfl (Nat.le_of_ble_eq_true rfl) dX11_tablet_66 (fun q_41 w_42 => ?_)
        obtain ⟨hV_q_41, h2_q_41, hw_42⟩ := w_42
        have hF_q_41 : sx_fr h L (fun a => sx_ck (h.1 a)) q q_41 := hF_q_21.tr (h2_q_41.mono (fun a (z : a = t0 ∧ h.1 a = 7) => (show sx_ck (h.1 a) from by (try unfold sx_mk at *); (try unfold sx_ck at *); omega)))
        refine wa_iload_n B dX11_tablet_69 rfl 1 rfl ?_
        refine wa_if_ne B 77 dX11_tablet_70 (by decide) (fun _ => ?_) (fun z => absurd z (by decide))
        refine wa_aload_n B dX11_tablet_77 rfl 2 rfl ?_
        refine wa_aload_n B dX11_tablet_78 rfl 2 rfl ?_
        have z_43 : q_41.2.2.1 a0 4 = a_18 := (h2_q_41.R ha0 (show ¬ ((a0 = t0 ∧ h.1 a0 = 7) ∧ (h.1 a0 = 8 ∨ h.1 a0 = 11)) from fun z9 => (show ¬ (a0 = t0 ∧ h.1 a0 = 7) from by omega) z9.1) 4).trans ((h2_q_21.R ha0 (show ¬ ((h.1 a0 = 6 ∨ h.1 a0 = 8 ∨ h.1 a0 = 5 ∨ h.1 a0 = 2 ∨ h.1 a0 = 1) ∧ (h.1 a0 = 8 ∨ h.1 a0 = 11)) from fun z9 => (show ¬ (h.1 a0 = 6 ∨ h.1 a0 = 8 ∨ h.1 a0 = 5 ∨ h.1 a0 = 2 ∨ h.1 a0 = 1) from by omega) z9.1) 4).trans (ea_18))
        refine wa_getR B (C := RX11) (T := TX11) (N := 16) iq_X11_tablet_X11 ha0 ka0 (by decide) rfl 4 (by decide) (by decide) (by decide +kernel) rfl (fun _ _ _ => rfl) (v := a_18) z_43 dX11_tablet_79 ?_
        obtain ⟨a_44, ea_44, ha_44, ka_44⟩ := hV_q_41.ref (t := 8) ha_18 ka_18 0 rfl (by decide)
        refine wa_getR B (C := RX6) (T := TX6) (N := 8) iq_X11_tablet_X6 ha_18 ka_18 (by decide) rfl 0 (by decide) (by decide) (by decide +kernel) rfl (fun _ _ _ => rfl) (v := a_44) ea_44 dX11_tablet_82 ?_
        refine wa_getI B (C := RX8) (T := TX8) (N := 11) iq_X11_tablet_X8 ha_44 ka_44 (by decide) rfl 5 (by decide) (by decide) (by decide +kernel) rfl (by decide) (v := (q_41.1 a_44 5)) rfl dX11_tablet_85 ?_
        refine wa_putI B (C := RX11) (T := TX11) (N := 16) iq_X11_tablet_X11 ha0 ka0 (by decide) rfl 15 (by decide) (by decide) (by decide +kernel) rfl (by decide) (v := (q_41.1 a_44 5)) (ty := .int) tyX11 tyX11_ok nmX11 rfl (by decide +kernel) rfl rfl dX11_tablet_88 (fun q_45 eq_45 => ?_)
        have hV_q_45 : sx_V h L q_45 := by rw [eq_45]; exact hV_q_41.pI ka0 trivial
        have hF_q_45 : sx_fr h L (fun a => sx_ck (h.1 a)) q q_45 := hF_q_41.tr (by rw [eq_45]; exact sx_fr.pI (show sx_ck (h.1 a0) from by (try unfold sx_mk at *); (try unfold sx_ck at *); omega))
        have z_46 : q_45.1 a0 15 = (q_41.1 a_44 5) := by rw [eq_45]; exact sg_pI_e
        refine wa_iload_n B dX11_tablet_91 rfl 0 rfl ?_
        refine wa_if_ne B 108 dX11_tablet_92 (by decide) (fun _ => ?_) (fun z => absurd z (by decide))
        refine wa_aload_n B dX11_tablet_108 rfl 2 rfl ?_
        refine wa_dup B dX11_tablet_109 rfl ?_
        have z_47 : q_45.1 a0 13 = q.1 a0 13 := ((show q_45.1 a0 13 = q_41.1 a0 13 from by rw [eq_45]; exact sg_pI_k (by decide))).trans ((h2_q_41.I ha0 (show ¬ (a0 = t0 ∧ h.1 a0 = 7) from by omega) 13).trans (h2_q_21.I ha0 (show ¬ (h.1 a0 = 6 ∨ h.1 a0 = 8 ∨ h.1 a0 = 5 ∨ h.1 a0 = 2 ∨ h.1 a0 = 1) from by omega) 13))
        refine wa_getI B (C := RX11) (T := TX11) (N := 16) iq_X11_tablet_X11 ha0 ka0 (by decide) rfl 13 (by decide) (by decide) (by decide +kernel) rfl (by decide) (v := (q.1 a0 13)) z_47 dX11_tablet_110 ?_
        refine wa_iconst B 1 dX11_tablet_113 (by decide) ?_
        refine wa_iadd B dX11_tablet_114 (fun v_48 ev_48 => ?_)
        have tv_48 : v_48.toInt = (q.1 a0 13).toInt + 1 := by have b0 := zx_bd (q.1 a0 13); rw [ev_48]; exact zx_add (show (-2147483648 : Int) ≤ (q.1 a0 13).toInt + 1 by omega) (show (q.1 a0 13).toInt + 1 < (2147483648 : Int) by omega)
        refine wa_putI B (C := RX11) (T := TX11) (N := 16) iq_X11_tablet_X11 ha0 ka0 (by decide) rfl 13 (by decide) (by decide) (by decide +kernel) rfl (by decide) (v := v_48) (ty := .int) tyX11 tyX11_ok nmX11 rfl (by decide +kernel) rfl rfl dX11_tablet_115 (fun q_49 eq_49 => ?_)
        have hV_q_49 : sx_V h L q_49 := by rw [eq_49]; exact hV_q_45.pI ka0 (show sx_in v_48 (0) 8 from ⟨by omega, by omega⟩)
        have hF_q_49 : sx_fr h L (fun a => sx_ck (h.1 a)) q q_49 := hF_q_45.tr (by rw [eq_49]; exact sx_fr.pI (show sx_ck (h.1 a0) from by (try unfold sx_mk at *); (try unfold sx_ck at *); omega))
        have z_50 : q_49.1 a0 13 = v_48 := by rw [eq_49]; exact sg_pI_e
        refine wa_aload_n B dX11_tablet_118 rfl 2 rfl ?_
        refine wa_getI B (C := RX11) (T := TX11) (N := 16) iq_X11_tablet_X11 ha0 ka0 (by decide) rfl 13 (by decide) (by decide) (by decide +kernel) rfl (by decide) (v := v_48) z_50 dX11_tablet_119 ?_
        have g_51 : (0 : Int) ≤ v_48.toInt ∧ v_48.toInt ≤ 8 := by rw [← z_50]; exact hV_q_49.int ha0 ka0 13
        refine wa_iconst B 1 dX11_tablet_122 (by decide) ?_
        refine wa_isub B dX11_tablet_123 (fun v_52 ev_52 => ?_)
        have tv_52 : v_52.toInt = v_48.toInt - 1 := by have b0 := zx_bd v_48; rw [ev_52]; exact zx_sub (show (-2147483648 : Int) ≤ v_48.toInt - 1 by omega) (show v_48.toInt - 1 < (2147483648 : Int) by omega)
        have z_53 : q_49.1 a0 14 = q.1 a0 14 := ((show q_49.1 a0 14 = q_45.1 a0 14 from by rw [eq_49]; exact sg_pI_k (by decide))).trans (((show q_45.1 a0 14 = q_41.1 a0 14 from by rw [eq_45]; exact sg_pI_k (by decide))).trans ((h2_q_41.I ha0 (show ¬ (a0 = t0 ∧ h.1 a0 = 7) from by omega) 14).trans (h2_q_21.I ha0 (show ¬ (h.1 a0 = 6 ∨ h.1 a0 = 8 ∨ h.1 a0 = 5 ∨ h.1 a0 = 2 ∨ h.1 a0 = 1) from by omega) 14)))
        have y_54 : (q_49.1 a0 14).toInt = (q.1 a0 14).toInt := by rw [z_53]
        have z_55 : q_49.1 t0 1 = 0 := ((show q_49.1 t0 1 = q_45.1 t0 1 from by rw [eq_49]; exact sg_pI_k (by decide))).trans (((show q_45.1 t0 1 = q_41.1 t0 1 from by rw [eq_45]; exact sg_pI_k (by decide))).trans (hw_42))
        have y_56 : (q_49.1 t0 1).toInt = 0 := by rw [z_55]; rfl
        have z_57 : q_49.2.2.1 a0 0 = t0 := ((show q_49.2.2.1 a0 0 = q_45.2.2.1 a0 0 from by rw [eq_49]; rfl)).trans (((show q_45.2.2.1 a0 0 = q_41.2.2.1 a0 0 from by rw [eq_45]; rfl)).trans ((h2_q_41.R ha0 (show ¬ ((a0 = t0 ∧ h.1 a0 = 7) ∧ (h.1 a0 = 8 ∨ h.1 a0 = 11)) from fun z9 => (show ¬ (a0 = t0 ∧ h.1 a0 = 7) from by omega) z9.1) 0).trans (z_40)))
        exact hret _ _ _ _ dX11_tablet_124 ⟨hV_q_49, hF_q_49, ⟨z_57, by omega, by omega⟩⟩
theorem iq_X11_lines_X11 : ∀ w ∈ wsX110, w ∈ wsX11_lines := fun _ h => List.mem_cons_of_mem _ (List.mem_append_left _ (List.mem_append_right _ h))
theorem iq_X11_lines_X5 : ∀ w ∈ wsX50, w ∈ wsX11_lines := fun _ h => List.mem_cons_of_mem _ (List.mem_append_right _ h)
set_option maxHeartbeats 4000000 in
set_option maxRecDepth 100000 in
theorem k_X11_lines (l : Launch) (dC : Nat → ClassId) (dI : Nat → Nat → Nat) (h : Sh) (L : List Nat) (hN : sx_nd L) (q : Sg) (hV : sx_V h L q) {a0 : Nat} (ha0 : a0 ∈ L) (ka0 : h.1 a0 = 11) (n1 : Int32)   : CMi l dC dI h L yX11_lines wsX11_lines ({ frames := 1, cells := 0, slots := 0, locals := 21 } : Room) q [.ref a0, .int n1] (fun r q' => q = q') := by
  refine cm_i (cc := cX11_lines) (mL := 2) (own := RX11) hN (by decide) rfl rfl (Nat.le_of_ble_eq_true rfl) (fun Z B hret => ?_)
  show WA l dC dI h L ({ frames := 1, cells := 0, slots := 0, locals := 21 } : Room) 2 Z q 0 [(0, .ref a0), (1, .int n1)] []
  refine wa_aload_n B dX11_lines_0 rfl 0 rfl ?_
  refine wa_iload_n B dX11_lines_1 rfl 1 rfl ?_
  refine wa_callVi B (x := (RX11, TX11, 16)) (As := [.int n1]) (rest := []) (k_X11_isTablet l dC dI h L hN q hV (a0 := a0) ha0 ka0 n1  ) (cwV 1 B.1.2.2.2.2 gX11_lines_X11_isTablet rfl rfl rfl (by decide +kernel) ⟨Nat.le_of_ble_eq_true rfl, Nat.le_of_ble_eq_true rfl⟩) ha0 ka0 (by decide) rfl rfl rfl (Nat.le_of_ble_eq_true rfl) dX11_lines_2 (fun r_2 q_1 w_3 => ?_)
  obtain ⟨ew_3, hw_3⟩ := w_3
  subst ew_3
  refine wa_if_eq B 20 dX11_lines_5 (by decide) (fun (t_4 : r_2.toInt = 0) => ?_) (fun (t_4 : ¬ r_2.toInt = 0) => ?_)
  · refine wa_iconst B (-1) dX11_lines_20 (by decide) ?_
    exact hret _ _ _ _ dX11_lines_21 rfl
  · refine wa_aload_n B dX11_lines_8 rfl 0 rfl ?_
    obtain ⟨a_5, ea_5, ha_5, ka_5, la_5⟩ := hV.refn (n := 8) (t := 400) ha0 ka0 7 rfl (by decide) rfl (by decide)
    refine wa_getR B (C := RX11) (T := TX11) (N := 16) iq_X11_lines_X11 ha0 ka0 (by decide) rfl 7 (by decide) (by decide) (by decide +kernel) rfl (fun _ _ _ => rfl) (v := a_5) ea_5 dX11_lines_9 ?_
    refine wa_iload_n B dX11_lines_12 rfl 1 rfl ?_
    obtain ⟨a_6, ea_6, ha_6, ka_6⟩ := hV.elem (t := 5) ha_5 ka_5 (by decide) rfl (zx_ix (i := n1) (show 0 ≤ n1.toInt by omega) (show n1.toInt < (h.2.1 a_5 : Int) by omega))
    refine wa_aaload B (t0 := 3) ha_5 ka_5 (by decide) rfl (show 0 ≤ n1.toInt by omega) (show n1.toInt < (h.2.1 a_5 : Int) by omega) (v := a_6) ea_6 dX11_lines_13 ?_
    refine wa_getI B (C := RX5) (T := TX5) (N := 7) iq_X11_lines_X5 ha_6 ka_6 (by decide) rfl 2 (by decide) (by decide) (by decide +kernel) rfl (by decide) (v := (q.1 a_6 2)) rfl dX11_lines_14 ?_
    have g_7 : (0 : Int) ≤ (q.1 a_6 2).toInt ∧ (q.1 a_6 2).toInt ≤ 12 := hV.int ha_6 ka_6 2
    refine wa_goto B 21 dX11_lines_17 (by decide) ?_
    exact hret _ _ _ _ dX11_lines_21 rfl
theorem iq_X11_isLine_X11 : ∀ w ∈ wsX110, w ∈ wsX11_isLine := fun _ h => List.mem_cons_of_mem _ (List.mem_append_left _ (List.mem_append_right _ h))
theorem iq_X11_isLine_X5 : ∀ w ∈ wsX50, w ∈ wsX11_isLine := fun _ h => List.mem_cons_of_mem _ (List.mem_append_right _ h)
set_option maxHeartbeats 4000000 in
set_option maxRecDepth 100000 in
theorem k_X11_isLine (l : Launch) (dC : Nat → ClassId) (dI : Nat → Nat → Nat) (h : Sh) (L : List Nat) (hN : sx_nd L) (q : Sg) (hV : sx_V h L q) {a0 : Nat} (ha0 : a0 ∈ L) (ka0 : h.1 a0 = 11) (n1 : Int32) (n2 : Int32)   : CMi l dC dI h L yX11_isLine wsX11_isLine ({ frames := 1, cells := 0, slots := 0, locals := 21 } : Room) q [.ref a0, .int n1, .int n2] (fun r q' => q = q' ∧ (r.toInt = 1 ∧ 0 ≤ n1.toInt ∧ n1.toInt < 8 ∧ 0 ≤ n2.toInt ∧ n2.toInt < 12 ∨ r.toInt = 0)) := by
  refine cm_z (cc := cX11_isLine) (mL := 3) (own := RX11) hN (by decide) rfl rfl (Nat.le_of_ble_eq_true rfl) (fun Z B hret => ?_)
  show WA l dC dI h L ({ frames := 1, cells := 0, slots := 0, locals := 21 } : Room) 3 Z q 0 [(0, .ref a0), (1, .int n1), (2, .int n2)] []
  refine wa_aload_n B dX11_isLine_0 rfl 0 rfl ?_
  refine wa_iload_n B dX11_isLine_1 rfl 1 rfl ?_
  refine wa_callVi B (x := (RX11, TX11, 16)) (As := [.int n1]) (rest := []) (k_X11_isTablet l dC dI h L hN q hV (a0 := a0) ha0 ka0 n1  ) (cwV 1 B.1.2.2.2.2 gX11_isLine_X11_isTablet rfl rfl rfl (by decide +kernel) ⟨Nat.le_of_ble_eq_true rfl, Nat.le_of_ble_eq_true rfl⟩) ha0 ka0 (by decide) rfl rfl rfl (Nat.le_of_ble_eq_true rfl) dX11_isLine_2 (fun r_2 q_1 w_3 => ?_)
  obtain ⟨ew_3, hw_3⟩ := w_3
  subst ew_3
  refine wa_if_eq B 29 dX11_isLine_5 (by decide) (fun (t_4 : r_2.toInt = 0) => ?_) (fun (t_4 : ¬ r_2.toInt = 0) => ?_)
  · refine wa_iconst B 0 dX11_isLine_29 (by decide) ?_
    exact hret _ _ _ _ dX11_isLine_30 (Or.inl rfl) ⟨rfl, (by have h9 : (0 : Int32).toInt = 0 := rfl; first | omega | (refine ⟨?_, ?_⟩ <;> omega) | trivial)⟩
  · refine wa_iload_n B dX11_isLine_8 rfl 2 rfl ?_
    refine wa_if_lt B 29 dX11_isLine_9 (by decide) (fun (t_5 : n2.toInt < 0) => ?_) (fun (t_5 : ¬ n2.toInt < 0) => ?_)
    · refine wa_iconst B 0 dX11_isLine_29 (by decide) ?_
      exact hret _ _ _ _ dX11_isLine_30 (Or.inl rfl) ⟨rfl, (by have h9 : (0 : Int32).toInt = 0 := rfl; first | omega | (refine ⟨?_, ?_⟩ <;> omega) | trivial)⟩
    · refine wa_iload_n B dX11_isLine_12 rfl 2 rfl ?_
      refine wa_aload_n B dX11_isLine_13 rfl 0 rfl ?_
      obtain ⟨a_6, ea_6, ha_6, ka_6, la_6⟩ := hV.refn (n := 8) (t := 400) ha0 ka0 7 rfl (by decide) rfl (by decide)
      refine wa_getR B (C := RX11) (T := TX11) (N := 16) iq_X11_isLine_X11 ha0 ka0 (by decide) rfl 7 (by decide) (by decide) (by decide +kernel) rfl (fun _ _ _ => rfl) (v := a_6) ea_6 dX11_isLine_14 ?_
      refine wa_iload_n B dX11_isLine_17 rfl 1 rfl ?_
      obtain ⟨a_7, ea_7, ha_7, ka_7⟩ := hV.elem (t := 5) ha_6 ka_6 (by decide) rfl (zx_ix (i := n1) (show 0 ≤ n1.toInt by omega) (show n1.toInt < (h.2.1 a_6 : Int) by omega))
      refine wa_aaload B (t0 := 3) ha_6 ka_6 (by decide) rfl (show 0 ≤ n1.toInt by omega) (show n1.toInt < (h.2.1 a_6 : Int) by omega) (v := a_7) ea_7 dX11_isLine_18 ?_
      refine wa_getI B (C := RX5) (T := TX5) (N := 7) iq_X11_isLine_X5 ha_7 ka_7 (by decide) rfl 2 (by decide) (by decide) (by decide +kernel) rfl (by decide) (v := (q.1 a_7 2)) rfl dX11_isLine_19 ?_
      have g_8 : (0 : Int) ≤ (q.1 a_7 2).toInt ∧ (q.1 a_7 2).toInt ≤ 12 := hV.int ha_7 ka_7 2
      refine wa_icmp_ge B 29 dX11_isLine_22 (by decide) (fun (t_9 : (q.1 a_7 2).toInt ≤ n2.toInt) => ?_) (fun (t_9 : ¬ (q.1 a_7 2).toInt ≤ n2.toInt) => ?_)
      · refine wa_iconst B 0 dX11_isLine_29 (by decide) ?_
        exact hret _ _ _ _ dX11_isLine_30 (Or.inl rfl) ⟨rfl, (by have h9 : (0 : Int32).toInt = 0 := rfl; first | omega | (refine ⟨?_, ?_⟩ <;> omega) | trivial)⟩
      · refine wa_iconst B 1 dX11_isLine_25 (by decide) ?_
        refine wa_goto B 30 dX11_isLine_26 (by decide) ?_
        exact hret _ _ _ _ dX11_isLine_30 (Or.inr rfl) ⟨rfl, (by have h9 : (1 : Int32).toInt = 1 := rfl; first | omega | (refine ⟨?_, ?_⟩ <;> omega) | trivial)⟩
theorem iq_X11_solved_X11 : ∀ w ∈ wsX110, w ∈ wsX11_solved := fun _ h => List.mem_cons_of_mem _ (List.mem_append_left _ (List.mem_append_left _ (List.mem_append_left _ (List.mem_append_left _ (List.mem_append_right _ h)))))
theorem iq_X11_solved_X5 : ∀ w ∈ wsX50, w ∈ wsX11_solved := fun _ h => List.mem_cons_of_mem _ (List.mem_append_left _ (List.mem_append_left _ (List.mem_append_left _ (List.mem_append_right _ h))))
set_option maxHeartbeats 4000000 in
set_option maxRecDepth 100000 in
theorem k_X11_solved (l : Launch) (dC : Nat → ClassId) (dI : Nat → Nat → Nat) (h : Sh) (L : List Nat) (hN : sx_nd L) (q : Sg) (hV : sx_V h L q) {a0 : Nat} (ha0 : a0 ∈ L) (ka0 : h.1 a0 = 11) (n1 : Int32)  (hy0 : 0 ≤ n1.toInt) (hy1 : n1.toInt < 8) : CMr l dC dI h L yX11_solved wsX11_solved ({ frames := 9, cells := 0, slots := 0, locals := 221 } : Room) q [.ref a0, .int n1] (fun r q' => sx_V h L q' ∧ sx_fr h L (fun a => h.1 a = 4 ∨ h.1 a = 5 ∨ h.1 a = 1 ∨ h.1 a = 2) q q' ∧ (r ∈ L ∧ h.1 r = 5)) := by
  refine cm_r (cc := cX11_solved) (mL := 3) (own := RX11) hN (by decide) rfl rfl (Nat.le_of_ble_eq_true rfl) (fun Z B hret => ?_)
  have hF : sx_fr h L (fun a => h.1 a = 4 ∨ h.1 a = 5 ∨ h.1 a = 1 ∨ h.1 a = 2) q q := sx_fr.rf
  show WA l dC dI h L ({ frames := 9, cells := 0, slots := 0, locals := 221 } : Room) 3 Z q 0 [(0, .ref a0), (1, .int n1)] []
  refine wa_aload_n B dX11_solved_0 rfl 0 rfl ?_
  obtain ⟨a_1, ea_1, ha_1, ka_1, la_1⟩ := hV.refn (n := 8) (t := 400) ha0 ka0 7 rfl (by decide) rfl (by decide)
  refine wa_getR B (C := RX11) (T := TX11) (N := 16) iq_X11_solved_X11 ha0 ka0 (by decide) rfl 7 (by decide) (by decide) (by decide +kernel) rfl (fun _ _ _ => rfl) (v := a_1) ea_1 dX11_solved_1 ?_
  refine wa_iload_n B dX11_solved_4 rfl 1 rfl ?_
  obtain ⟨a_2, ea_2, ha_2, ka_2⟩ := hV.elem (t := 5) ha_1 ka_1 (by decide) rfl (zx_ix (i := n1) (show 0 ≤ n1.toInt by omega) (show n1.toInt < (h.2.1 a_1 : Int) by omega))
  refine wa_aaload B (t0 := 3) ha_1 ka_1 (by decide) rfl (show 0 ≤ n1.toInt by omega) (show n1.toInt < (h.2.1 a_1 : Int) by omega) (v := a_2) ea_2 dX11_solved_5 ?_
  refine wa_astore_n B [(2, .ref a_2), (0, .ref a0), (1, .int n1)] dX11_solved_6 rfl (by decide) rfl ?_
  refine wa_aload_n B dX11_solved_7 rfl 0 rfl ?_
  refine wa_getI B (C := RX5) (T := TX5) (N := 7) iq_X11_solved_X5 ha_2 ka_2 (by decide) rfl 4 (by decide) (by decide) (by decide +kernel) rfl (by decide) (v := (q.1 a_2 4)) rfl dX11_solved_8 ?_
  refine wa_if_ne B 28 dX11_solved_11 (by decide) (fun (t_3 : ¬ (q.1 a_2 4).toInt = 0) => ?_) (fun (t_3 : (q.1 a_2 4).toInt = 0) => ?_)
  · refine wa_aload_n B dX11_solved_28 rfl 0 rfl ?_
    exact hret _ _ _ _ dX11_solved_29 ⟨hV, hF, ⟨ha_2, ka_2⟩⟩
  · refine wa_aload_n B dX11_solved_14 rfl 1 rfl ?_
    obtain ⟨a_4, ea_4, ha_4, ka_4⟩ := hV.ref (t := 4) ha0 ka0 5 rfl (by decide)
    refine wa_getR B (C := RX11) (T := TX11) (N := 16) iq_X11_solved_X11 ha0 ka0 (by decide) rfl 5 (by decide) (by decide) (by decide +kernel) rfl (fun _ _ _ => rfl) (v := a_4) ea_4 dX11_solved_15 ?_
    refine wa_aload_n B dX11_solved_18 rfl 0 rfl ?_
    refine wa_iconst B 0 dX11_solved_19 (by decide) ?_
    refine wa_callVv B (x := (RX4, TX4, 7)) (As := [.ref a_2, .int 0]) (rest := []) (k_X4_solve l dC dI h L hN q hV (a0 := a_4) ha_4 ka_4 (a1 := a_2) ha_2 ka_2 0  (by first | assumption | omega | decide)) (cwV 2 B.1.2.2.2.2 gX11_solved_X4_solve rfl rfl rfl (by decide +kernel) ⟨Nat.le_of_ble_eq_true rfl, Nat.le_of_ble_eq_true rfl⟩) ha_4 ka_4 (by decide) rfl rfl rfl (Nat.le_of_ble_eq_true rfl) dX11_solved_20 (fun q_5 w_6 => ?_)
    obtain ⟨hV_q_5, h2_q_5⟩ := w_6
    have hF_q_5 : sx_fr h L (fun a => h.1 a = 4 ∨ h.1 a = 5 ∨ h.1 a = 1 ∨ h.1 a = 2) q q_5 := hF.tr (h2_q_5.mono (fun a (z : a = a_4 ∧ h.1 a = 4 ∨ a = a_2 ∧ h.1 a = 5 ∨ h.1 a = 1 ∨ h.1 a = 2) => (show h.1 a = 4 ∨ h.1 a = 5 ∨ h.1 a = 1 ∨ h.1 a = 2 from by omega)))
    refine wa_aload_n B dX11_solved_23 rfl 0 rfl ?_
    refine wa_iconst B 1 dX11_solved_24 (by decide) ?_
    refine wa_putI B (C := RX5) (T := TX5) (N := 7) iq_X11_solved_X5 ha_2 ka_2 (by decide) rfl 4 (by decide) (by decide) (by decide +kernel) rfl (by decide) (v := 1) (ty := .boolean) tyX5 tyX5_ok nmX5 rfl (by decide +kernel) rfl rfl dX11_solved_25 (fun q_7 eq_7 => ?_)
    have hV_q_7 : sx_V h L q_7 := by rw [eq_7]; exact hV_q_5.pI ka_2 trivial
    have hF_q_7 : sx_fr h L (fun a => h.1 a = 4 ∨ h.1 a = 5 ∨ h.1 a = 1 ∨ h.1 a = 2) q q_7 := hF_q_5.tr (by rw [eq_7]; exact sx_fr.pI (show h.1 a_2 = 4 ∨ h.1 a_2 = 5 ∨ h.1 a_2 = 1 ∨ h.1 a_2 = 2 from by omega))
    have z_8 : q_7.1 a_2 4 = 1 := by rw [eq_7]; exact sg_pI_e
    refine wa_aload_n B dX11_solved_28 rfl 0 rfl ?_
    exact hret _ _ _ _ dX11_solved_29 ⟨hV_q_7, hF_q_7, ⟨ha_2, ka_2⟩⟩
theorem iq_X11_readings_X5 : ∀ w ∈ wsX50, w ∈ wsX11_readings := fun _ h => List.mem_cons_of_mem _ (List.mem_append_left _ (List.mem_append_left _ (List.mem_append_left _ (List.mem_append_left _ (List.mem_append_right _ h)))))
set_option maxHeartbeats 4000000 in
set_option maxRecDepth 100000 in
theorem k_X11_readings (l : Launch) (dC : Nat → ClassId) (dI : Nat → Nat → Nat) (h : Sh) (L : List Nat) (hN : sx_nd L) (q : Sg) (hV : sx_V h L q) {a0 : Nat} (ha0 : a0 ∈ L) (ka0 : h.1 a0 = 11) (n1 : Int32) {t0 : Nat} (et0 : q.2.2.1 a0 0 = t0)   : CMi l dC dI h L yX11_readings wsX11_readings ({ frames := 10, cells := 0, slots := 0, locals := 243 } : Room) q [.ref a0, .int n1] (fun r q' => sx_V h L q' ∧ sx_fr h L (fun a => sx_ck (h.1 a)) q q' ∧ (q'.2.2.1 a0 0 = t0 ∧ (q'.1 t0 1).toInt = (q.1 t0 1).toInt ∧ (q'.1 a0 14).toInt = (q.1 a0 14).toInt)) := by
  refine cm_i (cc := cX11_readings) (mL := 2) (own := RX11) hN (by decide) rfl rfl (Nat.le_of_ble_eq_true rfl) (fun Z B hret => ?_)
  have hF : sx_fr h L (fun a => sx_ck (h.1 a)) q q := sx_fr.rf
  obtain ⟨ht0, kt0, lt0⟩ : t0 ∈ L ∧ h.1 t0 = 7 ∧ h.2.1 t0 = 1 := by obtain ⟨r9, e9, z1, z2, z3⟩ := hV.refn (t := 7) (n := 1) ha0 ka0 0 rfl (by decide) rfl (by decide); rw [← et0, e9]; exact ⟨z1, z2, z3⟩
  show WA l dC dI h L ({ frames := 10, cells := 0, slots := 0, locals := 243 } : Room) 2 Z q 0 [(0, .ref a0), (1, .int n1)] []
  refine wa_aload_n B dX11_readings_0 rfl 0 rfl ?_
  refine wa_iload_n B dX11_readings_1 rfl 1 rfl ?_
  refine wa_callVi B (x := (RX11, TX11, 16)) (As := [.int n1]) (rest := []) (k_X11_isTablet l dC dI h L hN q hV (a0 := a0) ha0 ka0 n1  ) (cwV 1 B.1.2.2.2.2 gX11_readings_X11_isTablet rfl rfl rfl (by decide +kernel) ⟨Nat.le_of_ble_eq_true rfl, Nat.le_of_ble_eq_true rfl⟩) ha0 ka0 (by decide) rfl rfl rfl (Nat.le_of_ble_eq_true rfl) dX11_readings_2 (fun r_2 q_1 w_3 => ?_)
  obtain ⟨ew_3, hw_3⟩ := w_3
  subst ew_3
  refine wa_if_eq B 19 dX11_readings_5 (by decide) (fun (t_4 : r_2.toInt = 0) => ?_) (fun (t_4 : ¬ r_2.toInt = 0) => ?_)
  · refine wa_iconst B (-1) dX11_readings_19 (by decide) ?_
    exact hret _ _ _ _ dX11_readings_20 ⟨hV, hF, ⟨et0, by have h9 : ((-1) : Int32).toInt = (-1) := rfl; omega, by have h9 : ((-1) : Int32).toInt = (-1) := rfl; omega⟩⟩
  · refine wa_aload_n B dX11_readings_8 rfl 0 rfl ?_
    refine wa_iload_n B dX11_readings_9 rfl 1 rfl ?_
    refine wa_callVr B (x := (RX11, TX11, 16)) (As := [.int n1]) (rest := []) (k_X11_solved l dC dI h L hN q hV (a0 := a0) ha0 ka0 n1  (by first | assumption | omega | decide) (by first | assumption | omega | decide)) (cwV 1 B.1.2.2.2.2 gX11_readings_X11_solved rfl rfl rfl (by decide +kernel) ⟨Nat.le_of_ble_eq_true rfl, Nat.le_of_ble_eq_true rfl⟩) ha0 ka0 (by decide) rfl rfl rfl (Nat.le_of_ble_eq_true rfl) dX11_readings_10 (fun r_6 q_5 w_7 => ?_)
    obtain ⟨hV_q_5, h2_q_5, hw_7⟩ := w_7
    have hF_q_5 : sx_fr h L (fun a => sx_ck (h.1 a)) q q_5 := hF.tr (h2_q_5.mono (fun a (z : h.1 a = 4 ∨ h.1 a = 5 ∨ h.1 a = 1 ∨ h.1 a = 2) => (show sx_ck (h.1 a) from by (try unfold sx_mk at *); (try unfold sx_ck at *); omega)))
    obtain ⟨hr_6, kr_6⟩ := hw_7
    refine wa_getI B (C := RX5) (T := TX5) (N := 7) iq_X11_readings_X5 hr_6 kr_6 (by decide) rfl 5 (by decide) (by decide) (by decide +kernel) rfl (by decide) (v := (q_5.1 r_6 5)) rfl dX11_readings_13 ?_
    refine wa_goto B 20 dX11_readings_16 (by decide) ?_
    have z_8 : q_5.1 a0 14 = q.1 a0 14 := h2_q_5.I ha0 (show ¬ (h.1 a0 = 4 ∨ h.1 a0 = 5 ∨ h.1 a0 = 1 ∨ h.1 a0 = 2) from by omega) 14
    have y_9 : (q_5.1 a0 14).toInt = (q.1 a0 14).toInt := by rw [z_8]
    have z_10 : q_5.1 t0 1 = q.1 t0 1 := h2_q_5.I ht0 (show ¬ (h.1 t0 = 4 ∨ h.1 t0 = 5 ∨ h.1 t0 = 1 ∨ h.1 t0 = 2) from by omega) 1
    have y_11 : (q_5.1 t0 1).toInt = (q.1 t0 1).toInt := by rw [z_10]
    have z_12 : q_5.2.2.1 a0 0 = t0 := (h2_q_5.R ha0 (show ¬ ((h.1 a0 = 4 ∨ h.1 a0 = 5 ∨ h.1 a0 = 1 ∨ h.1 a0 = 2) ∧ (h.1 a0 = 8 ∨ h.1 a0 = 11)) from fun z9 => (show ¬ (h.1 a0 = 4 ∨ h.1 a0 = 5 ∨ h.1 a0 = 1 ∨ h.1 a0 = 2) from by omega) z9.1) 0).trans (et0)
    exact hret _ _ _ _ dX11_readings_20 ⟨hV_q_5, hF_q_5, ⟨z_12, by omega, by omega⟩⟩
theorem iq_X11_wrong_X5 : ∀ w ∈ wsX50, w ∈ wsX11_wrong := fun _ h => List.mem_cons_of_mem _ (List.mem_append_left _ (List.mem_append_left _ (List.mem_append_left _ (List.mem_append_left _ (List.mem_append_right _ h)))))
set_option maxHeartbeats 4000000 in
set_option maxRecDepth 100000 in
theorem k_X11_wrong (l : Launch) (dC : Nat → ClassId) (dI : Nat → Nat → Nat) (h : Sh) (L : List Nat) (hN : sx_nd L) (q : Sg) (hV : sx_V h L q) {a0 : Nat} (ha0 : a0 ∈ L) (ka0 : h.1 a0 = 11) (n1 : Int32) {t0 : Nat} (et0 : q.2.2.1 a0 0 = t0)   : CMi l dC dI h L yX11_wrong wsX11_wrong ({ frames := 10, cells := 0, slots := 0, locals := 243 } : Room) q [.ref a0, .int n1] (fun r q' => sx_V h L q' ∧ sx_fr h L (fun a => sx_ck (h.1 a)) q q' ∧ (q'.2.2.1 a0 0 = t0 ∧ (q'.1 t0 1).toInt = (q.1 t0 1).toInt ∧ (q'.1 a0 14).toInt = (q.1 a0 14).toInt)) := by
  refine cm_i (cc := cX11_wrong) (mL := 2) (own := RX11) hN (by decide) rfl rfl (Nat.le_of_ble_eq_true rfl) (fun Z B hret => ?_)
  have hF : sx_fr h L (fun a => sx_ck (h.1 a)) q q := sx_fr.rf
  obtain ⟨ht0, kt0, lt0⟩ : t0 ∈ L ∧ h.1 t0 = 7 ∧ h.2.1 t0 = 1 := by obtain ⟨r9, e9, z1, z2, z3⟩ := hV.refn (t := 7) (n := 1) ha0 ka0 0 rfl (by decide) rfl (by decide); rw [← et0, e9]; exact ⟨z1, z2, z3⟩
  show WA l dC dI h L ({ frames := 10, cells := 0, slots := 0, locals := 243 } : Room) 2 Z q 0 [(0, .ref a0), (1, .int n1)] []
  refine wa_aload_n B dX11_wrong_0 rfl 0 rfl ?_
  refine wa_iload_n B dX11_wrong_1 rfl 1 rfl ?_
  refine wa_callVi B (x := (RX11, TX11, 16)) (As := [.int n1]) (rest := []) (k_X11_isTablet l dC dI h L hN q hV (a0 := a0) ha0 ka0 n1  ) (cwV 1 B.1.2.2.2.2 gX11_wrong_X11_isTablet rfl rfl rfl (by decide +kernel) ⟨Nat.le_of_ble_eq_true rfl, Nat.le_of_ble_eq_true rfl⟩) ha0 ka0 (by decide) rfl rfl rfl (Nat.le_of_ble_eq_true rfl) dX11_wrong_2 (fun r_2 q_1 w_3 => ?_)
  obtain ⟨ew_3, hw_3⟩ := w_3
  subst ew_3
  refine wa_if_eq B 19 dX11_wrong_5 (by decide) (fun (t_4 : r_2.toInt = 0) => ?_) (fun (t_4 : ¬ r_2.toInt = 0) => ?_)
  · refine wa_iconst B (-1) dX11_wrong_19 (by decide) ?_
    exact hret _ _ _ _ dX11_wrong_20 ⟨hV, hF, ⟨et0, by have h9 : ((-1) : Int32).toInt = (-1) := rfl; omega, by have h9 : ((-1) : Int32).toInt = (-1) := rfl; omega⟩⟩
  · refine wa_aload_n B dX11_wrong_8 rfl 0 rfl ?_
    refine wa_iload_n B dX11_wrong_9 rfl 1 rfl ?_
    refine wa_callVr B (x := (RX11, TX11, 16)) (As := [.int n1]) (rest := []) (k_X11_solved l dC dI h L hN q hV (a0 := a0) ha0 ka0 n1  (by first | assumption | omega | decide) (by first | assumption | omega | decide)) (cwV 1 B.1.2.2.2.2 gX11_wrong_X11_solved rfl rfl rfl (by decide +kernel) ⟨Nat.le_of_ble_eq_true rfl, Nat.le_of_ble_eq_true rfl⟩) ha0 ka0 (by decide) rfl rfl rfl (Nat.le_of_ble_eq_true rfl) dX11_wrong_10 (fun r_6 q_5 w_7 => ?_)
    obtain ⟨hV_q_5, h2_q_5, hw_7⟩ := w_7
    have hF_q_5 : sx_fr h L (fun a => sx_ck (h.1 a)) q q_5 := hF.tr (h2_q_5.mono (fun a (z : h.1 a = 4 ∨ h.1 a = 5 ∨ h.1 a = 1 ∨ h.1 a = 2) => (show sx_ck (h.1 a) from by (try unfold sx_mk at *); (try unfold sx_ck at *); omega)))
    obtain ⟨hr_6, kr_6⟩ := hw_7
    refine wa_getI B (C := RX5) (T := TX5) (N := 7) iq_X11_wrong_X5 hr_6 kr_6 (by decide) rfl 6 (by decide) (by decide) (by decide +kernel) rfl (by decide) (v := (q_5.1 r_6 6)) rfl dX11_wrong_13 ?_
    refine wa_goto B 20 dX11_wrong_16 (by decide) ?_
    have z_8 : q_5.1 a0 14 = q.1 a0 14 := h2_q_5.I ha0 (show ¬ (h.1 a0 = 4 ∨ h.1 a0 = 5 ∨ h.1 a0 = 1 ∨ h.1 a0 = 2) from by omega) 14
    have y_9 : (q_5.1 a0 14).toInt = (q.1 a0 14).toInt := by rw [z_8]
    have z_10 : q_5.1 t0 1 = q.1 t0 1 := h2_q_5.I ht0 (show ¬ (h.1 t0 = 4 ∨ h.1 t0 = 5 ∨ h.1 t0 = 1 ∨ h.1 t0 = 2) from by omega) 1
    have y_11 : (q_5.1 t0 1).toInt = (q.1 t0 1).toInt := by rw [z_10]
    have z_12 : q_5.2.2.1 a0 0 = t0 := (h2_q_5.R ha0 (show ¬ ((h.1 a0 = 4 ∨ h.1 a0 = 5 ∨ h.1 a0 = 1 ∨ h.1 a0 = 2) ∧ (h.1 a0 = 8 ∨ h.1 a0 = 11)) from fun z9 => (show ¬ (h.1 a0 = 4 ∨ h.1 a0 = 5 ∨ h.1 a0 = 1 ∨ h.1 a0 = 2) from by omega) z9.1) 0).trans (et0)
    exact hret _ _ _ _ dX11_wrong_20 ⟨hV_q_5, hF_q_5, ⟨z_12, by omega, by omega⟩⟩
theorem iq_X11_fragment_X11 : ∀ w ∈ wsX110, w ∈ wsX11_fragment := fun _ h => List.mem_cons_of_mem _ (List.mem_append_left _ (List.mem_append_left _ (List.mem_append_right _ h)))
theorem iq_X11_fragment_X7 : ∀ w ∈ wsX70, w ∈ wsX11_fragment := fun _ h => List.mem_cons_of_mem _ (List.mem_append_left _ (List.mem_append_right _ h))
set_option maxHeartbeats 4000000 in
set_option maxRecDepth 100000 in
theorem k_X11_fragment (l : Launch) (dC : Nat → ClassId) (dI : Nat → Nat → Nat) (h : Sh) (L : List Nat) (hN : sx_nd L) (q : Sg) (hV : sx_V h L q) {a0 : Nat} (ha0 : a0 ∈ L) (ka0 : h.1 a0 = 11) (n1 : Int32) (n2 : Int32) {t0 : Nat} (et0 : q.2.2.1 a0 0 = t0)   : CMi l dC dI h L yX11_fragment wsX11_fragment ({ frames := 2, cells := 0, slots := 0, locals := 46 } : Room) q [.ref a0, .int n1, .int n2] (fun r q' => sx_V h L q' ∧ sx_fr h L (fun a => sx_ck (h.1 a)) q q' ∧ (q'.2.2.1 a0 0 = t0 ∧ (q'.1 t0 1).toInt = 0 ∧ (((q.1 a0 14).toInt < 12 ∧ (0 ≤ n1.toInt ∧ n1.toInt ≤ 99999999) ∧ (0 ≤ n2.toInt ∧ n2.toInt ≤ 99999999) ∧ (q.1 t0 1).toInt ≤ 200) ∧ (q'.1 a0 14).toInt = (q.1 a0 14).toInt + 1 ∧ r.toInt = (q.1 a0 14).toInt ∨ ¬ ((q.1 a0 14).toInt < 12 ∧ (0 ≤ n1.toInt ∧ n1.toInt ≤ 99999999) ∧ (0 ≤ n2.toInt ∧ n2.toInt ≤ 99999999) ∧ (q.1 t0 1).toInt ≤ 200) ∧ (q'.1 a0 14).toInt = (q.1 a0 14).toInt ∧ r.toInt = -1))) := by
  refine cm_i (cc := cX11_fragment) (mL := 4) (own := RX11) hN (by decide) rfl rfl (Nat.le_of_ble_eq_true rfl) (fun Z B hret => ?_)
  have hF : sx_fr h L (fun a => sx_ck (h.1 a)) q q := sx_fr.rf
  obtain ⟨ht0, kt0, lt0⟩ : t0 ∈ L ∧ h.1 t0 = 7 ∧ h.2.1 t0 = 1 := by obtain ⟨r9, e9, z1, z2, z3⟩ := hV.refn (t := 7) (n := 1) ha0 ka0 0 rfl (by decide) rfl (by decide); rw [← et0, e9]; exact ⟨z1, z2, z3⟩
  show WA l dC dI h L ({ frames := 2, cells := 0, slots := 0, locals := 46 } : Room) 4 Z q 0 [(0, .ref a0), (1, .int n1), (2, .int n2)] []
  refine wa_aload_n B dX11_fragment_0 rfl 0 rfl ?_
  refine wa_getI B (C := RX11) (T := TX11) (N := 16) iq_X11_fragment_X11 ha0 ka0 (by decide) rfl 14 (by decide) (by decide) (by decide +kernel) rfl (by decide) (v := (q.1 a0 14)) rfl dX11_fragment_1 ?_
  have g_1 : (0 : Int) ≤ (q.1 a0 14).toInt ∧ (q.1 a0 14).toInt ≤ 12 := hV.int ha0 ka0 14
  refine wa_bipush B 12 dX11_fragment_4 (by decide) ?_
  refine wa_icmp_ge B 40 dX11_fragment_6 (by decide) (fun (t_2 : 12 ≤ (q.1 a0 14).toInt) => ?_) (fun (t_2 : ¬ 12 ≤ (q.1 a0 14).toInt) => ?_)
  · refine wa_iconst B 0 dX11_fragment_40 (by decide) ?_
    refine wa_istore_n B [(3, .int 0), (0, .ref a0), (1, .int n1), (2, .int n2)] dX11_fragment_41 rfl (by decide) rfl ?_
    refine wa_iload_n B dX11_fragment_42 rfl 0 rfl ?_
    refine wa_if_eq B 74 dX11_fragment_43 (by decide) (fun _ => ?_) (fun z => absurd z (by decide))
    refine wa_aload_n B dX11_fragment_74 rfl 1 rfl ?_
    refine wa_getR B (C := RX11) (T := TX11) (N := 16) iq_X11_fragment_X11 ha0 ka0 (by decide) rfl 0 (by decide) (by decide) (by decide +kernel) rfl (fun _ _ _ => rfl) (v := t0) et0 dX11_fragment_75 ?_
    refine wa_callVv B (x := (RX7, TX7, 2)) (As := []) (rest := []) (k_X7_clear l dC dI h L hN q hV (a0 := t0) ht0 kt0  ) (cwV 0 B.1.2.2.2.2 gX11_fragment_X7_clear rfl rfl rfl (by decide +kernel) ⟨Nat.le_of_ble_eq_true rfl, Nat.le_of_ble_eq_true rfl⟩) ht0 kt0 (by decide) rfl rfl rfl (Nat.le_of_ble_eq_true rfl) dX11_fragment_78 (fun q_3 w_4 => ?_)
    obtain ⟨hV_q_3, h2_q_3, hw_4⟩ := w_4
    have hF_q_3 : sx_fr h L (fun a => sx_ck (h.1 a)) q q_3 := hF.tr (h2_q_3.mono (fun a (z : a = t0 ∧ h.1 a = 7) => (show sx_ck (h.1 a) from by (try unfold sx_mk at *); (try unfold sx_ck at *); omega)))
    refine wa_iload_n B dX11_fragment_81 rfl 0 rfl ?_
    refine wa_if_eq B 94 dX11_fragment_82 (by decide) (fun _ => ?_) (fun z => absurd z (by decide))
    refine wa_iconst B (-1) dX11_fragment_94 (by decide) ?_
    have z_5 : q_3.1 a0 14 = q.1 a0 14 := h2_q_3.I ha0 (show ¬ (a0 = t0 ∧ h.1 a0 = 7) from by omega) 14
    have y_6 : (q_3.1 a0 14).toInt = (q.1 a0 14).toInt := by rw [z_5]
    have y_7 : (q_3.1 t0 1).toInt = 0 := by rw [hw_4]; rfl
    have z_8 : q_3.2.2.1 a0 0 = t0 := (h2_q_3.R ha0 (show ¬ ((a0 = t0 ∧ h.1 a0 = 7) ∧ (h.1 a0 = 8 ∨ h.1 a0 = 11)) from fun z9 => (show ¬ (a0 = t0 ∧ h.1 a0 = 7) from by omega) z9.1) 0).trans (et0)
    exact hret _ _ _ _ dX11_fragment_95 ⟨hV_q_3, hF_q_3, ⟨z_8, by have h9 : ((-1) : Int32).toInt = (-1) := rfl; omega, by have h9 : ((-1) : Int32).toInt = (-1) := rfl; omega⟩⟩
  · refine wa_iload_n B dX11_fragment_9 rfl 1 rfl ?_
    refine wa_callSi B (As := [.int n1]) (rest := []) (k_X11_isEdge l dC dI h L hN q hV n1  ) (va_cwS 1 B.1.2.2.2.2 gX11_fragment_X11_isEdge rfl rfl rfl (by decide +kernel) ⟨Nat.le_of_ble_eq_true rfl, Nat.le_of_ble_eq_true rfl⟩) rfl rfl (Nat.le_of_ble_eq_true rfl) dX11_fragment_10 (fun r_10 q_9 w_11 => ?_)
    obtain ⟨ew_11, hw_11⟩ := w_11
    subst ew_11
    refine wa_if_eq B 40 dX11_fragment_13 (by decide) (fun (t_12 : r_10.toInt = 0) => ?_) (fun (t_12 : ¬ r_10.toInt = 0) => ?_)
    · refine wa_iconst B 0 dX11_fragment_40 (by decide) ?_
      refine wa_istore_n B [(3, .int 0), (0, .ref a0), (1, .int n1), (2, .int n2)] dX11_fragment_41 rfl (by decide) rfl ?_
      refine wa_iload_n B dX11_fragment_42 rfl 0 rfl ?_
      refine wa_if_eq B 74 dX11_fragment_43 (by decide) (fun _ => ?_) (fun z => absurd z (by decide))
      refine wa_aload_n B dX11_fragment_74 rfl 1 rfl ?_
      refine wa_getR B (C := RX11) (T := TX11) (N := 16) iq_X11_fragment_X11 ha0 ka0 (by decide) rfl 0 (by decide) (by decide) (by decide +kernel) rfl (fun _ _ _ => rfl) (v := t0) et0 dX11_fragment_75 ?_
      refine wa_callVv B (x := (RX7, TX7, 2)) (As := []) (rest := []) (k_X7_clear l dC dI h L hN q hV (a0 := t0) ht0 kt0  ) (cwV 0 B.1.2.2.2.2 gX11_fragment_X7_clear rfl rfl rfl (by decide +kernel) ⟨Nat.le_of_ble_eq_true rfl, Nat.le_of_ble_eq_true rfl⟩) ht0 kt0 (by decide) rfl rfl rfl (Nat.le_of_ble_eq_true rfl) dX11_fragment_78 (fun q_13 w_14 => ?_)
      obtain ⟨hV_q_13, h2_q_13, hw_14⟩ := w_14
      have hF_q_13 : sx_fr h L (fun a => sx_ck (h.1 a)) q q_13 := hF.tr (h2_q_13.mono (fun a (z : a = t0 ∧ h.1 a = 7) => (show sx_ck (h.1 a) from by (try unfold sx_mk at *); (try unfold sx_ck at *); omega)))
      refine wa_iload_n B dX11_fragment_81 rfl 0 rfl ?_
      refine wa_if_eq B 94 dX11_fragment_82 (by decide) (fun _ => ?_) (fun z => absurd z (by decide))
      refine wa_iconst B (-1) dX11_fragment_94 (by decide) ?_
      have z_15 : q_13.1 a0 14 = q.1 a0 14 := h2_q_13.I ha0 (show ¬ (a0 = t0 ∧ h.1 a0 = 7) from by omega) 14
      have y_16 : (q_13.1 a0 14).toInt = (q.1 a0 14).toInt := by rw [z_15]
      have y_17 : (q_13.1 t0 1).toInt = 0 := by rw [hw_14]; rfl
      have z_18 : q_13.2.2.1 a0 0 = t0 := (h2_q_13.R ha0 (show ¬ ((a0 = t0 ∧ h.1 a0 = 7) ∧ (h.1 a0 = 8 ∨ h.1 a0 = 11)) from fun z9 => (show ¬ (a0 = t0 ∧ h.1 a0 = 7) from by omega) z9.1) 0).trans (et0)
      exact hret _ _ _ _ dX11_fragment_95 ⟨hV_q_13, hF_q_13, ⟨z_18, by have h9 : ((-1) : Int32).toInt = (-1) := rfl; omega, by have h9 : ((-1) : Int32).toInt = (-1) := rfl; omega⟩⟩
    · refine wa_iload_n B dX11_fragment_16 rfl 2 rfl ?_
      refine wa_callSi B (As := [.int n2]) (rest := []) (k_X11_isEdge l dC dI h L hN q hV n2  ) (va_cwS 1 B.1.2.2.2.2 gX11_fragment_X11_isEdge rfl rfl rfl (by decide +kernel) ⟨Nat.le_of_ble_eq_true rfl, Nat.le_of_ble_eq_true rfl⟩) rfl rfl (Nat.le_of_ble_eq_true rfl) dX11_fragment_17 (fun r_20 q_19 w_21 => ?_)
      obtain ⟨ew_21, hw_21⟩ := w_21
      subst ew_21
      refine wa_if_eq B 40 dX11_fragment_20 (by decide) (fun (t_22 : r_20.toInt = 0) => ?_) (fun (t_22 : ¬ r_20.toInt = 0) => ?_)
      · refine wa_iconst B 0 dX11_fragment_40 (by decide) ?_
        refine wa_istore_n B [(3, .int 0), (0, .ref a0), (1, .int n1), (2, .int n2)] dX11_fragment_41 rfl (by decide) rfl ?_
        refine wa_iload_n B dX11_fragment_42 rfl 0 rfl ?_
        refine wa_if_eq B 74 dX11_fragment_43 (by decide) (fun _ => ?_) (fun z => absurd z (by decide))
        refine wa_aload_n B dX11_fragment_74 rfl 1 rfl ?_
        refine wa_getR B (C := RX11) (T := TX11) (N := 16) iq_X11_fragment_X11 ha0 ka0 (by decide) rfl 0 (by decide) (by decide) (by decide +kernel) rfl (fun _ _ _ => rfl) (v := t0) et0 dX11_fragment_75 ?_
        refine wa_callVv B (x := (RX7, TX7, 2)) (As := []) (rest := []) (k_X7_clear l dC dI h L hN q hV (a0 := t0) ht0 kt0  ) (cwV 0 B.1.2.2.2.2 gX11_fragment_X7_clear rfl rfl rfl (by decide +kernel) ⟨Nat.le_of_ble_eq_true rfl, Nat.le_of_ble_eq_true rfl⟩) ht0 kt0 (by decide) rfl rfl rfl (Nat.le_of_ble_eq_true rfl) dX11_fragment_78 (fun q_23 w_24 => ?_)
        obtain ⟨hV_q_23, h2_q_23, hw_24⟩ := w_24
        have hF_q_23 : sx_fr h L (fun a => sx_ck (h.1 a)) q q_23 := hF.tr (h2_q_23.mono (fun a (z : a = t0 ∧ h.1 a = 7) => (show sx_ck (h.1 a) from by (try unfold sx_mk at *); (try unfold sx_ck at *); omega)))
        refine wa_iload_n B dX11_fragment_81 rfl 0 rfl ?_
        refine wa_if_eq B 94 dX11_fragment_82 (by decide) (fun _ => ?_) (fun z => absurd z (by decide))
        refine wa_iconst B (-1) dX11_fragment_94 (by decide) ?_
        have z_25 : q_23.1 a0 14 = q.1 a0 14 := h2_q_23.I ha0 (show ¬ (a0 = t0 ∧ h.1 a0 = 7) from by omega) 14
        have y_26 : (q_23.1 a0 14).toInt = (q.1 a0 14).toInt := by rw [z_25]
        have y_27 : (q_23.1 t0 1).toInt = 0 := by rw [hw_24]; rfl
        have z_28 : q_23.2.2.1 a0 0 = t0 := (h2_q_23.R ha0 (show ¬ ((a0 = t0 ∧ h.1 a0 = 7) ∧ (h.1 a0 = 8 ∨ h.1 a0 = 11)) from fun z9 => (show ¬ (a0 = t0 ∧ h.1 a0 = 7) from by omega) z9.1) 0).trans (et0)
        exact hret _ _ _ _ dX11_fragment_95 ⟨hV_q_23, hF_q_23, ⟨z_28, by have h9 : ((-1) : Int32).toInt = (-1) := rfl; omega, by have h9 : ((-1) : Int32).toInt = (-1) := rfl; omega⟩⟩
      · refine wa_aload_n B dX11_fragment_23 rfl 0 rfl ?_
        refine wa_getR B (C := RX11) (T := TX11) (N := 16) iq_X11_fragment_X11 ha0 ka0 (by decide) rfl 0 (by decide) (by decide) (by decide +kernel) rfl (fun _ _ _ => rfl) (v := t0) et0 dX11_fragment_24 ?_
        refine wa_getI B (C := RX7) (T := TX7) (N := 2) iq_X11_fragment_X7 ht0 kt0 (by decide) rfl 1 (by decide) (by decide) (by decide +kernel) rfl (by decide) (v := (q.1 t0 1)) rfl dX11_fragment_27 ?_
        obtain ⟨a_30, ea_30, ha_30, ka_30, la_30⟩ := hV.refn (n := 440) (t := 300) ht0 kt0 0 rfl (by decide) (by rw [lt0]; rfl) (by decide)
        have g_29 : (0 : Int) ≤ (q.1 t0 1).toInt ∧ (q.1 t0 1).toInt ≤ (h.2.1 a_30 : Int) := by have z9 := hV.int ht0 kt0 1; rw [ea_30] at z9; exact z9
        refine wa_sipush B 200 dX11_fragment_30 (by decide) ?_
        refine wa_icmp_gt B 40 dX11_fragment_33 (by decide) (fun (t_31 : 200 < (q.1 t0 1).toInt) => ?_) (fun (t_31 : ¬ 200 < (q.1 t0 1).toInt) => ?_)
        · refine wa_iconst B 0 dX11_fragment_40 (by decide) ?_
          refine wa_istore_n B [(3, .int 0), (0, .ref a0), (1, .int n1), (2, .int n2)] dX11_fragment_41 rfl (by decide) rfl ?_
          refine wa_iload_n B dX11_fragment_42 rfl 0 rfl ?_
          refine wa_if_eq B 74 dX11_fragment_43 (by decide) (fun _ => ?_) (fun z => absurd z (by decide))
          refine wa_aload_n B dX11_fragment_74 rfl 1 rfl ?_
          refine wa_getR B (C := RX11) (T := TX11) (N := 16) iq_X11_fragment_X11 ha0 ka0 (by decide) rfl 0 (by decide) (by decide) (by decide +kernel) rfl (fun _ _ _ => rfl) (v := t0) et0 dX11_fragment_75 ?_
          refine wa_callVv B (x := (RX7, TX7, 2)) (As := []) (rest := []) (k_X7_clear l dC dI h L hN q hV (a0 := t0) ht0 kt0  ) (cwV 0 B.1.2.2.2.2 gX11_fragment_X7_clear rfl rfl rfl (by decide +kernel) ⟨Nat.le_of_ble_eq_true rfl, Nat.le_of_ble_eq_true rfl⟩) ht0 kt0 (by decide) rfl rfl rfl (Nat.le_of_ble_eq_true rfl) dX11_fragment_78 (fun q_32 w_33 => ?_)
          obtain ⟨hV_q_32, h2_q_32, hw_33⟩ := w_33
          have hF_q_32 : sx_fr h L (fun a => sx_ck (h.1 a)) q q_32 := hF.tr (h2_q_32.mono (fun a (z : a = t0 ∧ h.1 a = 7) => (show sx_ck (h.1 a) from by (try unfold sx_mk at *); (try unfold sx_ck at *); omega)))
          refine wa_iload_n B dX11_fragment_81 rfl 0 rfl ?_
          refine wa_if_eq B 94 dX11_fragment_82 (by decide) (fun _ => ?_) (fun z => absurd z (by decide))
          refine wa_iconst B (-1) dX11_fragment_94 (by decide) ?_
          have z_34 : q_32.1 a0 14 = q.1 a0 14 := h2_q_32.I ha0 (show ¬ (a0 = t0 ∧ h.1 a0 = 7) from by omega) 14
          have y_35 : (q_32.1 a0 14).toInt = (q.1 a0 14).toInt := by rw [z_34]
          have y_36 : (q_32.1 t0 1).toInt = 0 := by rw [hw_33]; rfl
          have z_37 : q_32.2.2.1 a0 0 = t0 := (h2_q_32.R ha0 (show ¬ ((a0 = t0 ∧ h.1 a0 = 7) ∧ (h.1 a0 = 8 ∨ h.1 a0 = 11)) from fun z9 => (show ¬ (a0 = t0 ∧ h.1 a0 = 7) from by omega) z9.1) 0).trans (et0)
          exact hret _ _ _ _ dX11_fragment_95 ⟨hV_q_32, hF_q_32, ⟨z_37, by have h9 : ((-1) : Int32).toInt = (-1) := rfl; omega, by have h9 : ((-1) : Int32).toInt = (-1) := rfl; omega⟩⟩
        · refine wa_iconst B 1 dX11_fragment_36 (by decide) ?_
          refine wa_goto B 41 dX11_fragment_37 (by decide) ?_
          refine wa_istore_n B [(3, .int 1), (0, .ref a0), (1, .int n1), (2, .int n2)] dX11_fragment_41 rfl (by decide) rfl ?_
          refine wa_iload_n B dX11_fragment_42 rfl 0 rfl ?_
          refine wa_if_eq B 74 dX11_fragment_43 (by decide) (fun z => absurd z (by decide)) (fun _ => ?_)
          refine wa_aload_n B dX11_fragment_46 rfl 1 rfl ?_
          obtain ⟨a_38, ea_38, ha_38, ka_38, la_38⟩ := hV.refn (n := 12) (t := 403) ha0 ka0 9 rfl (by decide) rfl (by decide)
          refine wa_getR B (C := RX11) (T := TX11) (N := 16) iq_X11_fragment_X11 ha0 ka0 (by decide) rfl 9 (by decide) (by decide) (by decide +kernel) rfl (fun _ _ _ => rfl) (v := a_38) ea_38 dX11_fragment_47 ?_
          refine wa_aload_n B dX11_fragment_50 rfl 1 rfl ?_
          refine wa_getI B (C := RX11) (T := TX11) (N := 16) iq_X11_fragment_X11 ha0 ka0 (by decide) rfl 14 (by decide) (by decide) (by decide +kernel) rfl (by decide) (v := (q.1 a0 14)) rfl dX11_fragment_51 ?_
          obtain ⟨a_39, ea_39, ha_39, ka_39⟩ := hV.elem (t := 0) ha_38 ka_38 (by decide) rfl (zx_ix (i := (q.1 a0 14)) (show 0 ≤ (q.1 a0 14).toInt by omega) (show (q.1 a0 14).toInt < (h.2.1 a_38 : Int) by omega))
          refine wa_aaload B (t0 := 6) ha_38 ka_38 (by decide) rfl (show 0 ≤ (q.1 a0 14).toInt by omega) (show (q.1 a0 14).toInt < (h.2.1 a_38 : Int) by omega) (v := a_39) ea_39 dX11_fragment_54 ?_
          refine wa_aload_n B dX11_fragment_55 rfl 1 rfl ?_
          refine wa_getR B (C := RX11) (T := TX11) (N := 16) iq_X11_fragment_X11 ha0 ka0 (by decide) rfl 0 (by decide) (by decide) (by decide +kernel) rfl (fun _ _ _ => rfl) (v := t0) et0 dX11_fragment_56 ?_
          refine wa_iload_n B dX11_fragment_59 rfl 2 rfl ?_
          refine wa_iload_n B dX11_fragment_60 rfl 3 rfl ?_
          obtain ⟨a_40, ea_40, ha_40, ka_40, la_40⟩ := hV.refn (n := 4) (t := 7) ha_39 ka_39 0 rfl (by decide) rfl (by decide)
          have nt0_a_40 : ¬ t0 = a_40 := fun z9 => absurd (z9 ▸ lt0 : h.2.1 a_40 = 1) (by rw [la_40]; decide)
          obtain ⟨a_41, ea_41, ha_41, ka_41, la_41⟩ := hV.refn (n := 200) (t := 300) ha_40 ka_40 0 rfl (by decide) (by rw [la_40]; rfl) (by decide)
          refine wa_callVv B (x := (RX0, TX0, 4)) (As := [.ref t0, .int n1, .int n2]) (rest := []) (k_X0_take l dC dI h L hN q hV (a0 := a_39) ha_39 ka_39 (a1 := t0) ht0 kt0 n1 n2 (t0 := a_40) ea_40 (b0 := a_41) ea_41 (by omega)  ) (cwV 3 B.1.2.2.2.2 gX11_fragment_X0_take rfl rfl rfl (by decide +kernel) ⟨Nat.le_of_ble_eq_true rfl, Nat.le_of_ble_eq_true rfl⟩) ha_39 ka_39 (by decide) rfl rfl rfl (Nat.le_of_ble_eq_true rfl) dX11_fragment_61 (fun q_42 w_43 => ?_)
          obtain ⟨hV_q_42, h2_q_42⟩ := w_43
          have hF_q_42 : sx_fr h L (fun a => sx_ck (h.1 a)) q q_42 := hF.tr (h2_q_42.mono (fun a (z : a = a_39 ∧ h.1 a = 0 ∨ a = a_40 ∧ h.1 a = 7 ∨ a = a_41 ∧ h.1 a = 300) => (show sx_ck (h.1 a) from by (try unfold sx_mk at *); (try unfold sx_ck at *); omega)))
          refine wa_aload_n B dX11_fragment_64 rfl 1 rfl ?_
          refine wa_dup B dX11_fragment_65 rfl ?_
          have z_44 : q_42.1 a0 14 = q.1 a0 14 := h2_q_42.I ha0 (show ¬ (a0 = a_39 ∧ h.1 a0 = 0 ∨ a0 = a_40 ∧ h.1 a0 = 7 ∨ a0 = a_41 ∧ h.1 a0 = 300) from by omega) 14
          refine wa_getI B (C := RX11) (T := TX11) (N := 16) iq_X11_fragment_X11 ha0 ka0 (by decide) rfl 14 (by decide) (by decide) (by decide +kernel) rfl (by decide) (v := (q.1 a0 14)) z_44 dX11_fragment_66 ?_
          refine wa_iconst B 1 dX11_fragment_69 (by decide) ?_
          refine wa_iadd B dX11_fragment_70 (fun v_45 ev_45 => ?_)
          have tv_45 : v_45.toInt = (q.1 a0 14).toInt + 1 := by have b0 := zx_bd (q.1 a0 14); rw [ev_45]; exact zx_add (show (-2147483648 : Int) ≤ (q.1 a0 14).toInt + 1 by omega) (show (q.1 a0 14).toInt + 1 < (2147483648 : Int) by omega)
          refine wa_putI B (C := RX11) (T := TX11) (N := 16) iq_X11_fragment_X11 ha0 ka0 (by decide) rfl 14 (by decide) (by decide) (by decide +kernel) rfl (by decide) (v := v_45) (ty := .int) tyX11 tyX11_ok nmX11 rfl (by decide +kernel) rfl rfl dX11_fragment_71 (fun q_46 eq_46 => ?_)
          have hV_q_46 : sx_V h L q_46 := by rw [eq_46]; exact hV_q_42.pI ka0 (show sx_in v_45 (0) 12 from ⟨by omega, by omega⟩)
          have hF_q_46 : sx_fr h L (fun a => sx_ck (h.1 a)) q q_46 := hF_q_42.tr (by rw [eq_46]; exact sx_fr.pI (show sx_ck (h.1 a0) from by (try unfold sx_mk at *); (try unfold sx_ck at *); omega))
          have z_47 : q_46.1 a0 14 = v_45 := by rw [eq_46]; exact sg_pI_e
          refine wa_aload_n B dX11_fragment_74 rfl 1 rfl ?_
          have z_48 : q_46.2.2.1 a0 0 = t0 := ((show q_46.2.2.1 a0 0 = q_42.2.2.1 a0 0 from by rw [eq_46]; rfl)).trans ((h2_q_42.R ha0 (show ¬ ((a0 = a_39 ∧ h.1 a0 = 0 ∨ a0 = a_40 ∧ h.1 a0 = 7 ∨ a0 = a_41 ∧ h.1 a0 = 300) ∧ (h.1 a0 = 8 ∨ h.1 a0 = 11)) from fun z9 => (show ¬ (a0 = a_39 ∧ h.1 a0 = 0 ∨ a0 = a_40 ∧ h.1 a0 = 7 ∨ a0 = a_41 ∧ h.1 a0 = 300) from by omega) z9.1) 0).trans (et0))
          refine wa_getR B (C := RX11) (T := TX11) (N := 16) iq_X11_fragment_X11 ha0 ka0 (by decide) rfl 0 (by decide) (by decide) (by decide +kernel) rfl (fun _ _ _ => rfl) (v := t0) z_48 dX11_fragment_75 ?_
          refine wa_callVv B (x := (RX7, TX7, 2)) (As := []) (rest := []) (k_X7_clear l dC dI h L hN q_46 hV_q_46 (a0 := t0) ht0 kt0  ) (cwV 0 B.1.2.2.2.2 gX11_fragment_X7_clear rfl rfl rfl (by decide +kernel) ⟨Nat.le_of_ble_eq_true rfl, Nat.le_of_ble_eq_true rfl⟩) ht0 kt0 (by decide) rfl rfl rfl (Nat.le_of_ble_eq_true rfl) dX11_fragment_78 (fun q_49 w_50 => ?_)
          obtain ⟨hV_q_49, h2_q_49, hw_50⟩ := w_50
          have hF_q_49 : sx_fr h L (fun a => sx_ck (h.1 a)) q q_49 := hF_q_46.tr (h2_q_49.mono (fun a (z : a = t0 ∧ h.1 a = 7) => (show sx_ck (h.1 a) from by (try unfold sx_mk at *); (try unfold sx_ck at *); omega)))
          refine wa_iload_n B dX11_fragment_81 rfl 0 rfl ?_
          refine wa_if_eq B 94 dX11_fragment_82 (by decide) (fun z => absurd z (by decide)) (fun _ => ?_)
          refine wa_aload_n B dX11_fragment_85 rfl 1 rfl ?_
          have z_51 : q_49.1 a0 14 = v_45 := (h2_q_49.I ha0 (show ¬ (a0 = t0 ∧ h.1 a0 = 7) from by omega) 14).trans (z_47)
          refine wa_getI B (C := RX11) (T := TX11) (N := 16) iq_X11_fragment_X11 ha0 ka0 (by decide) rfl 14 (by decide) (by decide) (by decide +kernel) rfl (by decide) (v := v_45) z_51 dX11_fragment_86 ?_
          have g_52 : (0 : Int) ≤ v_45.toInt ∧ v_45.toInt ≤ 12 := by rw [← z_51]; exact hV_q_49.int ha0 ka0 14
          refine wa_iconst B 1 dX11_fragment_89 (by decide) ?_
          refine wa_isub B dX11_fragment_90 (fun v_53 ev_53 => ?_)
          refine wa_goto B 95 dX11_fragment_91 (by decide) ?_
          have tv_53 : v_53.toInt = v_45.toInt - 1 := by have b0 := zx_bd v_45; rw [ev_53]; exact zx_sub (show (-2147483648 : Int) ≤ v_45.toInt - 1 by omega) (show v_45.toInt - 1 < (2147483648 : Int) by omega)
          have y_54 : (q_49.1 a0 14).toInt = v_45.toInt := by rw [z_51]
          have y_55 : (q_49.1 t0 1).toInt = 0 := by rw [hw_50]; rfl
          have z_56 : q_49.2.2.1 a0 0 = t0 := (h2_q_49.R ha0 (show ¬ ((a0 = t0 ∧ h.1 a0 = 7) ∧ (h.1 a0 = 8 ∨ h.1 a0 = 11)) from fun z9 => (show ¬ (a0 = t0 ∧ h.1 a0 = 7) from by omega) z9.1) 0).trans (z_48)
          exact hret _ _ _ _ dX11_fragment_95 ⟨hV_q_49, hF_q_49, ⟨z_56, by omega, by omega⟩⟩
theorem iq_X11_rows_X0 : ∀ w ∈ wsX00, w ∈ wsX11_rows := fun _ h => List.mem_cons_of_mem _ (List.mem_append_right _ h)
theorem iq_X11_rows_X11 : ∀ w ∈ wsX110, w ∈ wsX11_rows := fun _ h => List.mem_cons_of_mem _ (List.mem_append_left _ (List.mem_append_right _ h))
set_option maxHeartbeats 4000000 in
set_option maxRecDepth 100000 in
theorem k_X11_rows (l : Launch) (dC : Nat → ClassId) (dI : Nat → Nat → Nat) (h : Sh) (L : List Nat) (hN : sx_nd L) (q : Sg) (hV : sx_V h L q) {a0 : Nat} (ha0 : a0 ∈ L) (ka0 : h.1 a0 = 11) (n1 : Int32)   : CMi l dC dI h L yX11_rows wsX11_rows ({ frames := 1, cells := 0, slots := 0, locals := 21 } : Room) q [.ref a0, .int n1] (fun r q' => q = q') := by
  refine cm_i (cc := cX11_rows) (mL := 2) (own := RX11) hN (by decide) rfl rfl (Nat.le_of_ble_eq_true rfl) (fun Z B hret => ?_)
  show WA l dC dI h L ({ frames := 1, cells := 0, slots := 0, locals := 21 } : Room) 2 Z q 0 [(0, .ref a0), (1, .int n1)] []
  refine wa_aload_n B dX11_rows_0 rfl 0 rfl ?_
  refine wa_iload_n B dX11_rows_1 rfl 1 rfl ?_
  refine wa_callVi B (x := (RX11, TX11, 16)) (As := [.int n1]) (rest := []) (k_X11_isFragment l dC dI h L hN q hV (a0 := a0) ha0 ka0 n1  ) (cwV 1 B.1.2.2.2.2 gX11_rows_X11_isFragment rfl rfl rfl (by decide +kernel) ⟨Nat.le_of_ble_eq_true rfl, Nat.le_of_ble_eq_true rfl⟩) ha0 ka0 (by decide) rfl rfl rfl (Nat.le_of_ble_eq_true rfl) dX11_rows_2 (fun r_2 q_1 w_3 => ?_)
  obtain ⟨ew_3, hw_3⟩ := w_3
  subst ew_3
  refine wa_if_eq B 20 dX11_rows_5 (by decide) (fun (t_4 : r_2.toInt = 0) => ?_) (fun (t_4 : ¬ r_2.toInt = 0) => ?_)
  · refine wa_iconst B (-1) dX11_rows_20 (by decide) ?_
    exact hret _ _ _ _ dX11_rows_21 rfl
  · refine wa_aload_n B dX11_rows_8 rfl 0 rfl ?_
    obtain ⟨a_5, ea_5, ha_5, ka_5, la_5⟩ := hV.refn (n := 12) (t := 403) ha0 ka0 9 rfl (by decide) rfl (by decide)
    refine wa_getR B (C := RX11) (T := TX11) (N := 16) iq_X11_rows_X11 ha0 ka0 (by decide) rfl 9 (by decide) (by decide) (by decide +kernel) rfl (fun _ _ _ => rfl) (v := a_5) ea_5 dX11_rows_9 ?_
    refine wa_iload_n B dX11_rows_12 rfl 1 rfl ?_
    obtain ⟨a_6, ea_6, ha_6, ka_6⟩ := hV.elem (t := 0) ha_5 ka_5 (by decide) rfl (zx_ix (i := n1) (show 0 ≤ n1.toInt by omega) (show n1.toInt < (h.2.1 a_5 : Int) by omega))
    refine wa_aaload B (t0 := 6) ha_5 ka_5 (by decide) rfl (show 0 ≤ n1.toInt by omega) (show n1.toInt < (h.2.1 a_5 : Int) by omega) (v := a_6) ea_6 dX11_rows_13 ?_
    refine wa_getI B (C := RX0) (T := TX0) (N := 4) iq_X11_rows_X0 ha_6 ka_6 (by decide) rfl 3 (by decide) (by decide) (by decide +kernel) rfl (by decide) (v := (q.1 a_6 3)) rfl dX11_rows_14 ?_
    refine wa_goto B 21 dX11_rows_17 (by decide) ?_
    exact hret _ _ _ _ dX11_rows_21 rfl
theorem iq_X11_joined_X11 : ∀ w ∈ wsX110, w ∈ wsX11_joined := fun _ h => List.mem_cons_of_mem _ (List.mem_append_left _ (List.mem_append_left _ (List.mem_append_left _ (List.mem_append_left _ (List.mem_append_left _ (List.mem_append_left _ (List.mem_append_left _ (List.mem_append_left _ (List.mem_append_left _ (List.mem_append_right _ h))))))))))
theorem iq_X11_joined_X5 : ∀ w ∈ wsX50, w ∈ wsX11_joined := fun _ h => List.mem_cons_of_mem _ (List.mem_append_left _ (List.mem_append_left _ (List.mem_append_left _ (List.mem_append_left _ (List.mem_append_left _ (List.mem_append_left _ (List.mem_append_left _ (List.mem_append_left _ (List.mem_append_right _ h)))))))))
set_option maxHeartbeats 4000000 in
set_option maxRecDepth 100000 in
theorem k_X11_joined (l : Launch) (dC : Nat → ClassId) (dI : Nat → Nat → Nat) (h : Sh) (L : List Nat) (hN : sx_nd L) (q : Sg) (hV : sx_V h L q) {a0 : Nat} (ha0 : a0 ∈ L) (ka0 : h.1 a0 = 11) (n1 : Int32) (n2 : Int32) {s0 : Nat} (es0 : q.2.2.1 a0 2 = s0)  (hy0 : 0 ≤ n1.toInt) (hy1 : n1.toInt ≤ 11) (hy2 : 0 ≤ n2.toInt) (hy3 : n2.toInt ≤ 11) : CMi l dC dI h L yX11_joined wsX11_joined ({ frames := 9, cells := 0, slots := 0, locals := 221 } : Room) q [.ref a0, .int n1, .int n2] (fun r q' => sx_V h L q' ∧ sx_fr h L (fun a => h.1 a = 6 ∨ h.1 a = 8 ∨ h.1 a = 5 ∨ h.1 a = 2 ∨ h.1 a = 1 ∨ h.1 a = 4 ∨ a = s0 ∧ h.1 a = 7 ∨ h.1 a = 300) q q') := by
  refine cm_i (cc := cX11_joined) (mL := 5) (own := RX11) hN (by decide) rfl rfl (Nat.le_of_ble_eq_true rfl) (fun Z B hret => ?_)
  have hF : sx_fr h L (fun a => h.1 a = 6 ∨ h.1 a = 8 ∨ h.1 a = 5 ∨ h.1 a = 2 ∨ h.1 a = 1 ∨ h.1 a = 4 ∨ a = s0 ∧ h.1 a = 7 ∨ h.1 a = 300) q q := sx_fr.rf
  obtain ⟨hs0, ks0, ls0⟩ : s0 ∈ L ∧ h.1 s0 = 7 ∧ h.2.1 s0 = 3 := by obtain ⟨r9, e9, z1, z2, z3⟩ := hV.refn (t := 7) (n := 3) ha0 ka0 2 rfl (by decide) rfl (by decide); rw [← es0, e9]; exact ⟨z1, z2, z3⟩
  show WA l dC dI h L ({ frames := 9, cells := 0, slots := 0, locals := 221 } : Room) 5 Z q 0 [(0, .ref a0), (1, .int n1), (2, .int n2)] []
  refine wa_iload_n B dX11_joined_0 rfl 1 rfl ?_
  refine wa_bipush B 12 dX11_joined_1 (by decide) ?_
  refine wa_imul B dX11_joined_3 (fun v_1 ev_1 => ?_)
  refine wa_iload_n B dX11_joined_4 rfl 2 rfl ?_
  refine wa_iadd B dX11_joined_5 (fun v_2 ev_2 => ?_)
  refine wa_istore_n B [(3, .int v_2), (0, .ref a0), (1, .int n1), (2, .int n2)] dX11_joined_6 rfl (by decide) rfl ?_
  refine wa_aload_n B dX11_joined_7 rfl 1 rfl ?_
  obtain ⟨a_3, ea_3, ha_3, ka_3, la_3⟩ := hV.refn (n := 144) (t := 100) ha0 ka0 10 rfl (by decide) rfl (by decide)
  refine wa_getR B (C := RX11) (T := TX11) (N := 16) iq_X11_joined_X11 ha0 ka0 (by decide) rfl 10 (by decide) (by decide) (by decide +kernel) rfl (fun _ _ _ => rfl) (v := a_3) ea_3 dX11_joined_8 ?_
  refine wa_iload_n B dX11_joined_11 rfl 0 rfl ?_
  have tv_1 : v_1.toInt = n1.toInt * 12 := by have b0 := zx_bd n1; rw [ev_1]; exact zx_mul (show (-2147483648 : Int) ≤ n1.toInt * 12 by omega) (show n1.toInt * 12 < (2147483648 : Int) by omega)
  have tv_2 : v_2.toInt = v_1.toInt + n2.toInt := by have b0 := zx_bd v_1; have b1 := zx_bd n2; rw [ev_2]; exact zx_add (show (-2147483648 : Int) ≤ v_1.toInt + n2.toInt by omega) (show v_1.toInt + n2.toInt < (2147483648 : Int) by omega)
  refine wa_iaload B ha_3 ka_3 (by decide) (by decide) (show 0 ≤ v_2.toInt by omega) (show v_2.toInt < (h.2.1 a_3 : Int) by omega) (v := (q.2.2.2.1 a_3 (v_2 : Int32).toNatClampNeg)) rfl dX11_joined_12 ?_
  refine wa_iconst B (-1) dX11_joined_13 (by decide) ?_
  refine wa_icmp_ne B 42 dX11_joined_14 (by decide) (fun (t_4 : ¬ ((q.2.2.2.1 a_3 (v_2 : Int32).toNatClampNeg)).toInt = (-1)) => ?_) (fun (t_4 : ((q.2.2.2.1 a_3 (v_2 : Int32).toNatClampNeg)).toInt = (-1)) => ?_)
  · refine wa_aload_n B dX11_joined_42 rfl 1 rfl ?_
    refine wa_getR B (C := RX11) (T := TX11) (N := 16) iq_X11_joined_X11 ha0 ka0 (by decide) rfl 10 (by decide) (by decide) (by decide +kernel) rfl (fun _ _ _ => rfl) (v := a_3) ea_3 dX11_joined_43 ?_
    refine wa_iload_n B dX11_joined_46 rfl 0 rfl ?_
    refine wa_iaload B ha_3 ka_3 (by decide) (by decide) (show 0 ≤ v_2.toInt by omega) (show v_2.toInt < (h.2.1 a_3 : Int) by omega) (v := (q.2.2.2.1 a_3 (v_2 : Int32).toNatClampNeg)) rfl dX11_joined_47 ?_
    refine wa_iconst B (-1) dX11_joined_48 (by decide) ?_
    refine wa_icmp_ne B 135 dX11_joined_49 (by decide) (fun (t_5 : ¬ ((q.2.2.2.1 a_3 (v_2 : Int32).toNatClampNeg)).toInt = (-1)) => ?_) (fun (t_5 : ((q.2.2.2.1 a_3 (v_2 : Int32).toNatClampNeg)).toInt = (-1)) => ?_)
    · refine wa_aload_n B dX11_joined_135 rfl 1 rfl ?_
      refine wa_getR B (C := RX11) (T := TX11) (N := 16) iq_X11_joined_X11 ha0 ka0 (by decide) rfl 10 (by decide) (by decide) (by decide +kernel) rfl (fun _ _ _ => rfl) (v := a_3) ea_3 dX11_joined_136 ?_
      refine wa_iload_n B dX11_joined_139 rfl 0 rfl ?_
      refine wa_iaload B ha_3 ka_3 (by decide) (by decide) (show 0 ≤ v_2.toInt by omega) (show v_2.toInt < (h.2.1 a_3 : Int) by omega) (v := (q.2.2.2.1 a_3 (v_2 : Int32).toNatClampNeg)) rfl dX11_joined_140 ?_
      exact hret _ _ _ _ dX11_joined_141 ⟨hV, hF⟩
    · refine wa_aload_n B dX11_joined_52 rfl 1 rfl ?_
      obtain ⟨a_6, ea_6, ha_6, ka_6, la_6⟩ := hV.refn (n := 12) (t := 403) ha0 ka0 9 rfl (by decide) rfl (by decide)
      refine wa_getR B (C := RX11) (T := TX11) (N := 16) iq_X11_joined_X11 ha0 ka0 (by decide) rfl 9 (by decide) (by decide) (by decide +kernel) rfl (fun _ _ _ => rfl) (v := a_6) ea_6 dX11_joined_53 ?_
      refine wa_iload_n B dX11_joined_56 rfl 2 rfl ?_
      obtain ⟨a_7, ea_7, ha_7, ka_7⟩ := hV.elem (t := 0) ha_6 ka_6 (by decide) rfl (zx_ix (i := n1) (show 0 ≤ n1.toInt by omega) (show n1.toInt < (h.2.1 a_6 : Int) by omega))
      refine wa_aaload B (t0 := 6) ha_6 ka_6 (by decide) rfl (show 0 ≤ n1.toInt by omega) (show n1.toInt < (h.2.1 a_6 : Int) by omega) (v := a_7) ea_7 dX11_joined_57 ?_
      refine wa_aload_n B dX11_joined_58 rfl 1 rfl ?_
      refine wa_getR B (C := RX11) (T := TX11) (N := 16) iq_X11_joined_X11 ha0 ka0 (by decide) rfl 9 (by decide) (by decide) (by decide +kernel) rfl (fun _ _ _ => rfl) (v := a_6) ea_6 dX11_joined_59 ?_
      refine wa_iload_n B dX11_joined_62 rfl 3 rfl ?_
      obtain ⟨a_8, ea_8, ha_8, ka_8⟩ := hV.elem (t := 0) ha_6 ka_6 (by decide) rfl (zx_ix (i := n2) (show 0 ≤ n2.toInt by omega) (show n2.toInt < (h.2.1 a_6 : Int) by omega))
      refine wa_aaload B (t0 := 6) ha_6 ka_6 (by decide) rfl (show 0 ≤ n2.toInt by omega) (show n2.toInt < (h.2.1 a_6 : Int) by omega) (v := a_8) ea_8 dX11_joined_63 ?_
      refine wa_aload_n B dX11_joined_64 rfl 1 rfl ?_
      refine wa_getR B (C := RX11) (T := TX11) (N := 16) iq_X11_joined_X11 ha0 ka0 (by decide) rfl 2 (by decide) (by decide) (by decide +kernel) rfl (fun _ _ _ => rfl) (v := s0) es0 dX11_joined_65 ?_
      obtain ⟨a_9, ea_9, ha_9, ka_9, la_9⟩ := hV.refn (n := 4) (t := 7) ha_7 ka_7 0 rfl (by decide) rfl (by decide)
      have ns0_a_9 : ¬ s0 = a_9 := fun z9 => absurd (z9 ▸ ls0 : h.2.1 a_9 = 3) (by rw [la_9]; decide)
      obtain ⟨a_10, ea_10, ha_10, ka_10, la_10⟩ := hV.refn (n := 4) (t := 7) ha_8 ka_8 0 rfl (by decide) rfl (by decide)
      have ns0_a_10 : ¬ s0 = a_10 := fun z9 => absurd (z9 ▸ ls0 : h.2.1 a_10 = 3) (by rw [la_10]; decide)
      obtain ⟨a_11, ea_11, ha_11, ka_11, la_11⟩ := hV.refn (n := 402) (t := 300) hs0 ks0 0 rfl (by decide) (by rw [ls0]; rfl) (by decide)
      refine wa_callVv B (x := (RX0, TX0, 4)) (As := [.ref a_8, .ref s0]) (rest := []) (k_X0_sayWith l dC dI h L hN q hV (a0 := a_7) ha_7 ka_7 (a1 := a_8) ha_8 ka_8 (a2 := s0) hs0 ks0 (t0 := a_9) ea_9 (t1 := a_10) ea_10 (b0 := a_11) ea_11 (by omega) (by omega)  ) (cwV 2 B.1.2.2.2.2 gX11_joined_X0_sayWith rfl rfl rfl (by decide +kernel) ⟨Nat.le_of_ble_eq_true rfl, Nat.le_of_ble_eq_true rfl⟩) ha_7 ka_7 (by decide) rfl rfl rfl (Nat.le_of_ble_eq_true rfl) dX11_joined_68 (fun q_12 w_13 => ?_)
      obtain ⟨hV_q_12, h2_q_12⟩ := w_13
      have hF_q_12 : sx_fr h L (fun a => h.1 a = 6 ∨ h.1 a = 8 ∨ h.1 a = 5 ∨ h.1 a = 2 ∨ h.1 a = 1 ∨ h.1 a = 4 ∨ a = s0 ∧ h.1 a = 7 ∨ h.1 a = 300) q q_12 := hF.tr (h2_q_12.mono (fun a (z : a = s0 ∧ h.1 a = 7 ∨ a = a_11 ∧ h.1 a = 300) => (show h.1 a = 6 ∨ h.1 a = 8 ∨ h.1 a = 5 ∨ h.1 a = 2 ∨ h.1 a = 1 ∨ h.1 a = 4 ∨ a = s0 ∧ h.1 a = 7 ∨ h.1 a = 300 from by omega)))
      refine wa_aload_n B dX11_joined_71 rfl 1 rfl ?_
      obtain ⟨a_14, ea_14, ha_14, ka_14⟩ := hV_q_12.ref (t := 6) ha0 ka0 4 rfl (by decide)
      refine wa_getR B (C := RX11) (T := TX11) (N := 16) iq_X11_joined_X11 ha0 ka0 (by decide) rfl 4 (by decide) (by decide) (by decide +kernel) rfl (fun _ _ _ => rfl) (v := a_14) ea_14 dX11_joined_72 ?_
      refine wa_aload_n B dX11_joined_75 rfl 1 rfl ?_
      have z_15 : q_12.2.2.1 a0 2 = s0 := (h2_q_12.R ha0 (show ¬ ((a0 = s0 ∧ h.1 a0 = 7 ∨ a0 = a_11 ∧ h.1 a0 = 300) ∧ (h.1 a0 = 8 ∨ h.1 a0 = 11)) from fun z9 => (show ¬ (a0 = s0 ∧ h.1 a0 = 7 ∨ a0 = a_11 ∧ h.1 a0 = 300) from by omega) z9.1) 2).trans (es0)
      refine wa_getR B (C := RX11) (T := TX11) (N := 16) iq_X11_joined_X11 ha0 ka0 (by decide) rfl 2 (by decide) (by decide) (by decide +kernel) rfl (fun _ _ _ => rfl) (v := s0) z_15 dX11_joined_76 ?_
      refine wa_aload_n B dX11_joined_79 rfl 1 rfl ?_
      obtain ⟨a_16, ea_16, ha_16, ka_16⟩ := hV_q_12.ref (t := 9) ha0 ka0 11 rfl (by decide)
      refine wa_getR B (C := RX11) (T := TX11) (N := 16) iq_X11_joined_X11 ha0 ka0 (by decide) rfl 11 (by decide) (by decide) (by decide +kernel) rfl (fun _ _ _ => rfl) (v := a_16) ea_16 dX11_joined_80 ?_
      refine wa_aload_n B dX11_joined_83 rfl 1 rfl ?_
      obtain ⟨a_17, ea_17, ha_17, ka_17⟩ := hV_q_12.ref (t := 5) ha0 ka0 8 rfl (by decide)
      refine wa_getR B (C := RX11) (T := TX11) (N := 16) iq_X11_joined_X11 ha0 ka0 (by decide) rfl 8 (by decide) (by decide) (by decide +kernel) rfl (fun _ _ _ => rfl) (v := a_17) ea_17 dX11_joined_84 ?_
      refine wa_callVi B (x := (RX6, TX6, 8)) (As := [.ref s0, .ref a_16, .ref a_17]) (rest := []) (k_X6_read l dC dI h L hN q_12 hV_q_12 (a0 := a_14) ha_14 ka_14 (a1 := s0) hs0 ks0 (a2 := a_16) ha_16 ka_16 (a3 := a_17) ha_17 ka_17  ) (cwV 3 B.1.2.2.2.2 gX11_joined_X6_read rfl rfl rfl (by decide +kernel) ⟨Nat.le_of_ble_eq_true rfl, Nat.le_of_ble_eq_true rfl⟩) ha_14 ka_14 (by decide) rfl rfl rfl (Nat.le_of_ble_eq_true rfl) dX11_joined_87 (fun r_19 q_18 w_20 => ?_)
      obtain ⟨hV_q_18, h2_q_18, hw_20⟩ := w_20
      have hF_q_18 : sx_fr h L (fun a => h.1 a = 6 ∨ h.1 a = 8 ∨ h.1 a = 5 ∨ h.1 a = 2 ∨ h.1 a = 1 ∨ h.1 a = 4 ∨ a = s0 ∧ h.1 a = 7 ∨ h.1 a = 300) q q_18 := hF_q_12.tr (h2_q_18.mono (fun a (z : h.1 a = 6 ∨ h.1 a = 8 ∨ h.1 a = 5 ∨ h.1 a = 2 ∨ h.1 a = 1) => (show h.1 a = 6 ∨ h.1 a = 8 ∨ h.1 a = 5 ∨ h.1 a = 2 ∨ h.1 a = 1 ∨ h.1 a = 4 ∨ a = s0 ∧ h.1 a = 7 ∨ h.1 a = 300 from by omega)))
      refine wa_istore B [(4, .int r_19), (3, .int v_2), (0, .ref a0), (1, .int n1), (2, .int n2)] dX11_joined_90 (by decide) rfl ?_
      refine wa_iload B dX11_joined_92 0 rfl ?_
      refine wa_if_eq B 109 dX11_joined_94 (by decide) (fun (t_21 : r_19.toInt = 0) => ?_) (fun (t_21 : ¬ r_19.toInt = 0) => ?_)
      · refine wa_aload_n B dX11_joined_109 rfl 2 rfl ?_
        have z_22 : q_18.2.2.1 a0 10 = a_3 := (h2_q_18.R ha0 (show ¬ ((h.1 a0 = 6 ∨ h.1 a0 = 8 ∨ h.1 a0 = 5 ∨ h.1 a0 = 2 ∨ h.1 a0 = 1) ∧ (h.1 a0 = 8 ∨ h.1 a0 = 11)) from fun z9 => (show ¬ (h.1 a0 = 6 ∨ h.1 a0 = 8 ∨ h.1 a0 = 5 ∨ h.1 a0 = 2 ∨ h.1 a0 = 1) from by omega) z9.1) 10).trans ((h2_q_12.R ha0 (show ¬ ((a0 = s0 ∧ h.1 a0 = 7 ∨ a0 = a_11 ∧ h.1 a0 = 300) ∧ (h.1 a0 = 8 ∨ h.1 a0 = 11)) from fun z9 => (show ¬ (a0 = s0 ∧ h.1 a0 = 7 ∨ a0 = a_11 ∧ h.1 a0 = 300) from by omega) z9.1) 10).trans (ea_3))
        refine wa_getR B (C := RX11) (T := TX11) (N := 16) iq_X11_joined_X11 ha0 ka0 (by decide) rfl 10 (by decide) (by decide) (by decide +kernel) rfl (fun _ _ _ => rfl) (v := a_3) z_22 dX11_joined_110 ?_
        refine wa_iload_n B dX11_joined_113 rfl 1 rfl ?_
        refine wa_iload B dX11_joined_114 0 rfl ?_
        refine wa_if_eq B 133 dX11_joined_116 (by decide) (fun (t_23 : r_19.toInt = 0) => ?_) (fun (t_23 : ¬ r_19.toInt = 0) => ?_)
        · refine wa_iconst B 1 dX11_joined_133 (by decide) ?_
          refine wa_iastore B ha_3 ka_3 (by decide) (by decide) (show 0 ≤ v_2.toInt by omega) (show v_2.toInt < (h.2.1 a_3 : Int) by omega) dX11_joined_134 (fun q_24 eq_24 => ?_)
          have hV_q_24 : sx_V h L q_24 := by rw [eq_24]; exact hV_q_18.up1 ha_3 ka_3 trivial
          have hF_q_24 : sx_fr h L (fun a => h.1 a = 6 ∨ h.1 a = 8 ∨ h.1 a = 5 ∨ h.1 a = 2 ∨ h.1 a = 1 ∨ h.1 a = 4 ∨ a = s0 ∧ h.1 a = 7 ∨ h.1 a = 300) q q_24 := hF_q_18.tr (by rw [eq_24]; exact sx_fr.pG (show h.1 a_3 = 100 ∨ (h.1 a_3 = 6 ∨ h.1 a_3 = 8 ∨ h.1 a_3 = 5 ∨ h.1 a_3 = 2 ∨ h.1 a_3 = 1 ∨ h.1 a_3 = 4 ∨ a_3 = s0 ∧ h.1 a_3 = 7 ∨ h.1 a_3 = 300) from by omega))
          have z_25 : q_24.2.2.2.1 a_3 (v_2 : Int32).toNatClampNeg = 1 := by rw [eq_24, sg_pG_e]; exact if_pos rfl
          refine wa_aload_n B dX11_joined_135 rfl 2 rfl ?_
          have z_26 : q_24.2.2.1 a0 10 = a_3 := ((show q_24.2.2.1 a0 10 = q_18.2.2.1 a0 10 from by rw [eq_24]; rfl)).trans (z_22)
          refine wa_getR B (C := RX11) (T := TX11) (N := 16) iq_X11_joined_X11 ha0 ka0 (by decide) rfl 10 (by decide) (by decide) (by decide +kernel) rfl (fun _ _ _ => rfl) (v := a_3) z_26 dX11_joined_136 ?_
          refine wa_iload_n B dX11_joined_139 rfl 1 rfl ?_
          refine wa_iaload B ha_3 ka_3 (by decide) (by decide) (show 0 ≤ v_2.toInt by omega) (show v_2.toInt < (h.2.1 a_3 : Int) by omega) (v := 1) z_25 dX11_joined_140 ?_
          exact hret _ _ _ _ dX11_joined_141 ⟨hV_q_24, hF_q_24⟩
        · refine wa_aload_n B dX11_joined_119 rfl 2 rfl ?_
          have z_27 : q_18.2.2.1 a0 8 = a_17 := (h2_q_18.R ha0 (show ¬ ((h.1 a0 = 6 ∨ h.1 a0 = 8 ∨ h.1 a0 = 5 ∨ h.1 a0 = 2 ∨ h.1 a0 = 1) ∧ (h.1 a0 = 8 ∨ h.1 a0 = 11)) from fun z9 => (show ¬ (h.1 a0 = 6 ∨ h.1 a0 = 8 ∨ h.1 a0 = 5 ∨ h.1 a0 = 2 ∨ h.1 a0 = 1) from by omega) z9.1) 8).trans (ea_17)
          refine wa_getR B (C := RX11) (T := TX11) (N := 16) iq_X11_joined_X11 ha0 ka0 (by decide) rfl 8 (by decide) (by decide) (by decide +kernel) rfl (fun _ _ _ => rfl) (v := a_17) z_27 dX11_joined_120 ?_
          refine wa_getI B (C := RX5) (T := TX5) (N := 7) iq_X11_joined_X5 ha_17 ka_17 (by decide) rfl 5 (by decide) (by decide) (by decide +kernel) rfl (by decide) (v := (q_18.1 a_17 5)) rfl dX11_joined_123 ?_
          refine wa_if_le B 133 dX11_joined_126 (by decide) (fun (t_28 : (q_18.1 a_17 5).toInt ≤ 0) => ?_) (fun (t_28 : ¬ (q_18.1 a_17 5).toInt ≤ 0) => ?_)
          · refine wa_iconst B 1 dX11_joined_133 (by decide) ?_
            refine wa_iastore B ha_3 ka_3 (by decide) (by decide) (show 0 ≤ v_2.toInt by omega) (show v_2.toInt < (h.2.1 a_3 : Int) by omega) dX11_joined_134 (fun q_29 eq_29 => ?_)
            have hV_q_29 : sx_V h L q_29 := by rw [eq_29]; exact hV_q_18.up1 ha_3 ka_3 trivial
            have hF_q_29 : sx_fr h L (fun a => h.1 a = 6 ∨ h.1 a = 8 ∨ h.1 a = 5 ∨ h.1 a = 2 ∨ h.1 a = 1 ∨ h.1 a = 4 ∨ a = s0 ∧ h.1 a = 7 ∨ h.1 a = 300) q q_29 := hF_q_18.tr (by rw [eq_29]; exact sx_fr.pG (show h.1 a_3 = 100 ∨ (h.1 a_3 = 6 ∨ h.1 a_3 = 8 ∨ h.1 a_3 = 5 ∨ h.1 a_3 = 2 ∨ h.1 a_3 = 1 ∨ h.1 a_3 = 4 ∨ a_3 = s0 ∧ h.1 a_3 = 7 ∨ h.1 a_3 = 300) from by omega))
            have z_30 : q_29.2.2.2.1 a_3 (v_2 : Int32).toNatClampNeg = 1 := by rw [eq_29, sg_pG_e]; exact if_pos rfl
            refine wa_aload_n B dX11_joined_135 rfl 2 rfl ?_
            have z_31 : q_29.2.2.1 a0 10 = a_3 := ((show q_29.2.2.1 a0 10 = q_18.2.2.1 a0 10 from by rw [eq_29]; rfl)).trans (z_22)
            refine wa_getR B (C := RX11) (T := TX11) (N := 16) iq_X11_joined_X11 ha0 ka0 (by decide) rfl 10 (by decide) (by decide) (by decide +kernel) rfl (fun _ _ _ => rfl) (v := a_3) z_31 dX11_joined_136 ?_
            refine wa_iload_n B dX11_joined_139 rfl 1 rfl ?_
            refine wa_iaload B ha_3 ka_3 (by decide) (by decide) (show 0 ≤ v_2.toInt by omega) (show v_2.toInt < (h.2.1 a_3 : Int) by omega) (v := 1) z_30 dX11_joined_140 ?_
            exact hret _ _ _ _ dX11_joined_141 ⟨hV_q_29, hF_q_29⟩
          · refine wa_iconst B 2 dX11_joined_129 (by decide) ?_
            refine wa_goto B 134 dX11_joined_130 (by decide) ?_
            refine wa_iastore B ha_3 ka_3 (by decide) (by decide) (show 0 ≤ v_2.toInt by omega) (show v_2.toInt < (h.2.1 a_3 : Int) by omega) dX11_joined_134 (fun q_32 eq_32 => ?_)
            have hV_q_32 : sx_V h L q_32 := by rw [eq_32]; exact hV_q_18.up1 ha_3 ka_3 trivial
            have hF_q_32 : sx_fr h L (fun a => h.1 a = 6 ∨ h.1 a = 8 ∨ h.1 a = 5 ∨ h.1 a = 2 ∨ h.1 a = 1 ∨ h.1 a = 4 ∨ a = s0 ∧ h.1 a = 7 ∨ h.1 a = 300) q q_32 := hF_q_18.tr (by rw [eq_32]; exact sx_fr.pG (show h.1 a_3 = 100 ∨ (h.1 a_3 = 6 ∨ h.1 a_3 = 8 ∨ h.1 a_3 = 5 ∨ h.1 a_3 = 2 ∨ h.1 a_3 = 1 ∨ h.1 a_3 = 4 ∨ a_3 = s0 ∧ h.1 a_3 = 7 ∨ h.1 a_3 = 300) from by omega))
            have z_33 : q_32.2.2.2.1 a_3 (v_2 : Int32).toNatClampNeg = 2 := by rw [eq_32, sg_pG_e]; exact if_pos rfl
            refine wa_aload_n B dX11_joined_135 rfl 2 rfl ?_
            have z_34 : q_32.2.2.1 a0 10 = a_3 := ((show q_32.2.2.1 a0 10 = q_18.2.2.1 a0 10 from by rw [eq_32]; rfl)).trans (z_22)
            refine wa_getR B (C := RX11) (T := TX11) (N := 16) iq_X11_joined_X11 ha0 ka0 (by decide) rfl 10 (by decide) (by decide) (by decide +kernel) rfl (fun _ _ _ => rfl) (v := a_3) z_34 dX11_joined_136 ?_
            refine wa_iload_n B dX11_joined_139 rfl 1 rfl ?_
            refine wa_iaload B ha_3 ka_3 (by decide) (by decide) (show 0 ≤ v_2.toInt by omega) (show v_2.toInt < (h.2.1 a_3 : Int) by omega) (v := 2) z_33 dX11_joined_140 ?_
            exact hret _ _ _ _ dX11_joined_141 ⟨hV_q_32, hF_q_32⟩
      · refine wa_aload_n B dX11_joined_97 rfl 2 rfl ?_
        obtain ⟨a_35, ea_35, ha_35, ka_35⟩ := hV_q_18.ref (t := 4) ha0 ka0 5 rfl (by decide)
        refine wa_getR B (C := RX11) (T := TX11) (N := 16) iq_X11_joined_X11 ha0 ka0 (by decide) rfl 5 (by decide) (by decide) (by decide +kernel) rfl (fun _ _ _ => rfl) (v := a_35) ea_35 dX11_joined_98 ?_
        refine wa_aload_n B dX11_joined_101 rfl 2 rfl ?_
        have z_36 : q_18.2.2.1 a0 8 = a_17 := (h2_q_18.R ha0 (show ¬ ((h.1 a0 = 6 ∨ h.1 a0 = 8 ∨ h.1 a0 = 5 ∨ h.1 a0 = 2 ∨ h.1 a0 = 1) ∧ (h.1 a0 = 8 ∨ h.1 a0 = 11)) from fun z9 => (show ¬ (h.1 a0 = 6 ∨ h.1 a0 = 8 ∨ h.1 a0 = 5 ∨ h.1 a0 = 2 ∨ h.1 a0 = 1) from by omega) z9.1) 8).trans (ea_17)
        refine wa_getR B (C := RX11) (T := TX11) (N := 16) iq_X11_joined_X11 ha0 ka0 (by decide) rfl 8 (by decide) (by decide) (by decide +kernel) rfl (fun _ _ _ => rfl) (v := a_17) z_36 dX11_joined_102 ?_
        refine wa_iconst B 1 dX11_joined_105 (by decide) ?_
        refine wa_callVv B (x := (RX4, TX4, 7)) (As := [.ref a_17, .int 1]) (rest := []) (k_X4_solve l dC dI h L hN q_18 hV_q_18 (a0 := a_35) ha_35 ka_35 (a1 := a_17) ha_17 ka_17 1  (by first | assumption | omega | decide)) (cwV 2 B.1.2.2.2.2 gX11_joined_X4_solve rfl rfl rfl (by decide +kernel) ⟨Nat.le_of_ble_eq_true rfl, Nat.le_of_ble_eq_true rfl⟩) ha_35 ka_35 (by decide) rfl rfl rfl (Nat.le_of_ble_eq_true rfl) dX11_joined_106 (fun q_37 w_38 => ?_)
        obtain ⟨hV_q_37, h2_q_37⟩ := w_38
        have hF_q_37 : sx_fr h L (fun a => h.1 a = 6 ∨ h.1 a = 8 ∨ h.1 a = 5 ∨ h.1 a = 2 ∨ h.1 a = 1 ∨ h.1 a = 4 ∨ a = s0 ∧ h.1 a = 7 ∨ h.1 a = 300) q q_37 := hF_q_18.tr (h2_q_37.mono (fun a (z : a = a_35 ∧ h.1 a = 4 ∨ a = a_17 ∧ h.1 a = 5 ∨ h.1 a = 1 ∨ h.1 a = 2) => (show h.1 a = 6 ∨ h.1 a = 8 ∨ h.1 a = 5 ∨ h.1 a = 2 ∨ h.1 a = 1 ∨ h.1 a = 4 ∨ a = s0 ∧ h.1 a = 7 ∨ h.1 a = 300 from by omega)))
        refine wa_aload_n B dX11_joined_109 rfl 2 rfl ?_
        have z_39 : q_37.2.2.1 a0 10 = a_3 := (h2_q_37.R ha0 (show ¬ ((a0 = a_35 ∧ h.1 a0 = 4 ∨ a0 = a_17 ∧ h.1 a0 = 5 ∨ h.1 a0 = 1 ∨ h.1 a0 = 2) ∧ (h.1 a0 = 8 ∨ h.1 a0 = 11)) from fun z9 => (show ¬ (a0 = a_35 ∧ h.1 a0 = 4 ∨ a0 = a_17 ∧ h.1 a0 = 5 ∨ h.1 a0 = 1 ∨ h.1 a0 = 2) from by omega) z9.1) 10).trans ((h2_q_18.R ha0 (show ¬ ((h.1 a0 = 6 ∨ h.1 a0 = 8 ∨ h.1 a0 = 5 ∨ h.1 a0 = 2 ∨ h.1 a0 = 1) ∧ (h.1 a0 = 8 ∨ h.1 a0 = 11)) from fun z9 => (show ¬ (h.1 a0 = 6 ∨ h.1 a0 = 8 ∨ h.1 a0 = 5 ∨ h.1 a0 = 2 ∨ h.1 a0 = 1) from by omega) z9.1) 10).trans ((h2_q_12.R ha0 (show ¬ ((a0 = s0 ∧ h.1 a0 = 7 ∨ a0 = a_11 ∧ h.1 a0 = 300) ∧ (h.1 a0 = 8 ∨ h.1 a0 = 11)) from fun z9 => (show ¬ (a0 = s0 ∧ h.1 a0 = 7 ∨ a0 = a_11 ∧ h.1 a0 = 300) from by omega) z9.1) 10).trans (ea_3)))
        refine wa_getR B (C := RX11) (T := TX11) (N := 16) iq_X11_joined_X11 ha0 ka0 (by decide) rfl 10 (by decide) (by decide) (by decide +kernel) rfl (fun _ _ _ => rfl) (v := a_3) z_39 dX11_joined_110 ?_
        refine wa_iload_n B dX11_joined_113 rfl 1 rfl ?_
        refine wa_iload B dX11_joined_114 0 rfl ?_
        refine wa_if_eq B 133 dX11_joined_116 (by decide) (fun (t_40 : r_19.toInt = 0) => ?_) (fun (t_40 : ¬ r_19.toInt = 0) => ?_)
        · refine wa_iconst B 1 dX11_joined_133 (by decide) ?_
          refine wa_iastore B ha_3 ka_3 (by decide) (by decide) (show 0 ≤ v_2.toInt by omega) (show v_2.toInt < (h.2.1 a_3 : Int) by omega) dX11_joined_134 (fun q_41 eq_41 => ?_)
          have hV_q_41 : sx_V h L q_41 := by rw [eq_41]; exact hV_q_37.up1 ha_3 ka_3 trivial
          have hF_q_41 : sx_fr h L (fun a => h.1 a = 6 ∨ h.1 a = 8 ∨ h.1 a = 5 ∨ h.1 a = 2 ∨ h.1 a = 1 ∨ h.1 a = 4 ∨ a = s0 ∧ h.1 a = 7 ∨ h.1 a = 300) q q_41 := hF_q_37.tr (by rw [eq_41]; exact sx_fr.pG (show h.1 a_3 = 100 ∨ (h.1 a_3 = 6 ∨ h.1 a_3 = 8 ∨ h.1 a_3 = 5 ∨ h.1 a_3 = 2 ∨ h.1 a_3 = 1 ∨ h.1 a_3 = 4 ∨ a_3 = s0 ∧ h.1 a_3 = 7 ∨ h.1 a_3 = 300) from by omega))
          have z_42 : q_41.2.2.2.1 a_3 (v_2 : Int32).toNatClampNeg = 1 := by rw [eq_41, sg_pG_e]; exact if_pos rfl
          refine wa_aload_n B dX11_joined_135 rfl 2 rfl ?_
          have z_43 : q_41.2.2.1 a0 10 = a_3 := ((show q_41.2.2.1 a0 10 = q_37.2.2.1 a0 10 from by rw [eq_41]; rfl)).trans (z_39)
          refine wa_getR B (C := RX11) (T := TX11) (N := 16) iq_X11_joined_X11 ha0 ka0 (by decide) rfl 10 (by decide) (by decide) (by decide +kernel) rfl (fun _ _ _ => rfl) (v := a_3) z_43 dX11_joined_136 ?_
          refine wa_iload_n B dX11_joined_139 rfl 1 rfl ?_
          refine wa_iaload B ha_3 ka_3 (by decide) (by decide) (show 0 ≤ v_2.toInt by omega) (show v_2.toInt < (h.2.1 a_3 : Int) by omega) (v := 1) z_42 dX11_joined_140 ?_
          exact hret _ _ _ _ dX11_joined_141 ⟨hV_q_41, hF_q_41⟩
        · refine wa_aload_n B dX11_joined_119 rfl 2 rfl ?_
          have z_44 : q_37.2.2.1 a0 8 = a_17 := (h2_q_37.R ha0 (show ¬ ((a0 = a_35 ∧ h.1 a0 = 4 ∨ a0 = a_17 ∧ h.1 a0 = 5 ∨ h.1 a0 = 1 ∨ h.1 a0 = 2) ∧ (h.1 a0 = 8 ∨ h.1 a0 = 11)) from fun z9 => (show ¬ (a0 = a_35 ∧ h.1 a0 = 4 ∨ a0 = a_17 ∧ h.1 a0 = 5 ∨ h.1 a0 = 1 ∨ h.1 a0 = 2) from by omega) z9.1) 8).trans (z_36)
          refine wa_getR B (C := RX11) (T := TX11) (N := 16) iq_X11_joined_X11 ha0 ka0 (by decide) rfl 8 (by decide) (by decide) (by decide +kernel) rfl (fun _ _ _ => rfl) (v := a_17) z_44 dX11_joined_120 ?_
          refine wa_getI B (C := RX5) (T := TX5) (N := 7) iq_X11_joined_X5 ha_17 ka_17 (by decide) rfl 5 (by decide) (by decide) (by decide +kernel) rfl (by decide) (v := (q_37.1 a_17 5)) rfl dX11_joined_123 ?_
          refine wa_if_le B 133 dX11_joined_126 (by decide) (fun (t_45 : (q_37.1 a_17 5).toInt ≤ 0) => ?_) (fun (t_45 : ¬ (q_37.1 a_17 5).toInt ≤ 0) => ?_)
          · refine wa_iconst B 1 dX11_joined_133 (by decide) ?_
            refine wa_iastore B ha_3 ka_3 (by decide) (by decide) (show 0 ≤ v_2.toInt by omega) (show v_2.toInt < (h.2.1 a_3 : Int) by omega) dX11_joined_134 (fun q_46 eq_46 => ?_)
            have hV_q_46 : sx_V h L q_46 := by rw [eq_46]; exact hV_q_37.up1 ha_3 ka_3 trivial
            have hF_q_46 : sx_fr h L (fun a => h.1 a = 6 ∨ h.1 a = 8 ∨ h.1 a = 5 ∨ h.1 a = 2 ∨ h.1 a = 1 ∨ h.1 a = 4 ∨ a = s0 ∧ h.1 a = 7 ∨ h.1 a = 300) q q_46 := hF_q_37.tr (by rw [eq_46]; exact sx_fr.pG (show h.1 a_3 = 100 ∨ (h.1 a_3 = 6 ∨ h.1 a_3 = 8 ∨ h.1 a_3 = 5 ∨ h.1 a_3 = 2 ∨ h.1 a_3 = 1 ∨ h.1 a_3 = 4 ∨ a_3 = s0 ∧ h.1 a_3 = 7 ∨ h.1 a_3 = 300) from by omega))
            have z_47 : q_46.2.2.2.1 a_3 (v_2 : Int32).toNatClampNeg = 1 := by rw [eq_46, sg_pG_e]; exact if_pos rfl
            refine wa_aload_n B dX11_joined_135 rfl 2 rfl ?_
            have z_48 : q_46.2.2.1 a0 10 = a_3 := ((show q_46.2.2.1 a0 10 = q_37.2.2.1 a0 10 from by rw [eq_46]; rfl)).trans (z_39)
            refine wa_getR B (C := RX11) (T := TX11) (N := 16) iq_X11_joined_X11 ha0 ka0 (by decide) rfl 10 (by decide) (by decide) (by decide +kernel) rfl (fun _ _ _ => rfl) (v := a_3) z_48 dX11_joined_136 ?_
            refine wa_iload_n B dX11_joined_139 rfl 1 rfl ?_
            refine wa_iaload B ha_3 ka_3 (by decide) (by decide) (show 0 ≤ v_2.toInt by omega) (show v_2.toInt < (h.2.1 a_3 : Int) by omega) (v := 1) z_47 dX11_joined_140 ?_
            exact hret _ _ _ _ dX11_joined_141 ⟨hV_q_46, hF_q_46⟩
          · refine wa_iconst B 2 dX11_joined_129 (by decide) ?_
            refine wa_goto B 134 dX11_joined_130 (by decide) ?_
            refine wa_iastore B ha_3 ka_3 (by decide) (by decide) (show 0 ≤ v_2.toInt by omega) (show v_2.toInt < (h.2.1 a_3 : Int) by omega) dX11_joined_134 (fun q_49 eq_49 => ?_)
            have hV_q_49 : sx_V h L q_49 := by rw [eq_49]; exact hV_q_37.up1 ha_3 ka_3 trivial
            have hF_q_49 : sx_fr h L (fun a => h.1 a = 6 ∨ h.1 a = 8 ∨ h.1 a = 5 ∨ h.1 a = 2 ∨ h.1 a = 1 ∨ h.1 a = 4 ∨ a = s0 ∧ h.1 a = 7 ∨ h.1 a = 300) q q_49 := hF_q_37.tr (by rw [eq_49]; exact sx_fr.pG (show h.1 a_3 = 100 ∨ (h.1 a_3 = 6 ∨ h.1 a_3 = 8 ∨ h.1 a_3 = 5 ∨ h.1 a_3 = 2 ∨ h.1 a_3 = 1 ∨ h.1 a_3 = 4 ∨ a_3 = s0 ∧ h.1 a_3 = 7 ∨ h.1 a_3 = 300) from by omega))
            have z_50 : q_49.2.2.2.1 a_3 (v_2 : Int32).toNatClampNeg = 2 := by rw [eq_49, sg_pG_e]; exact if_pos rfl
            refine wa_aload_n B dX11_joined_135 rfl 2 rfl ?_
            have z_51 : q_49.2.2.1 a0 10 = a_3 := ((show q_49.2.2.1 a0 10 = q_37.2.2.1 a0 10 from by rw [eq_49]; rfl)).trans (z_39)
            refine wa_getR B (C := RX11) (T := TX11) (N := 16) iq_X11_joined_X11 ha0 ka0 (by decide) rfl 10 (by decide) (by decide) (by decide +kernel) rfl (fun _ _ _ => rfl) (v := a_3) z_51 dX11_joined_136 ?_
            refine wa_iload_n B dX11_joined_139 rfl 1 rfl ?_
            refine wa_iaload B ha_3 ka_3 (by decide) (by decide) (show 0 ≤ v_2.toInt by omega) (show v_2.toInt < (h.2.1 a_3 : Int) by omega) (v := 2) z_50 dX11_joined_140 ?_
            exact hret _ _ _ _ dX11_joined_141 ⟨hV_q_49, hF_q_49⟩
  · refine wa_aload_n B dX11_joined_17 rfl 1 rfl ?_
    obtain ⟨a_52, ea_52, ha_52, ka_52, la_52⟩ := hV.refn (n := 12) (t := 403) ha0 ka0 9 rfl (by decide) rfl (by decide)
    refine wa_getR B (C := RX11) (T := TX11) (N := 16) iq_X11_joined_X11 ha0 ka0 (by decide) rfl 9 (by decide) (by decide) (by decide +kernel) rfl (fun _ _ _ => rfl) (v := a_52) ea_52 dX11_joined_18 ?_
    refine wa_iload_n B dX11_joined_21 rfl 2 rfl ?_
    obtain ⟨a_53, ea_53, ha_53, ka_53⟩ := hV.elem (t := 0) ha_52 ka_52 (by decide) rfl (zx_ix (i := n1) (show 0 ≤ n1.toInt by omega) (show n1.toInt < (h.2.1 a_52 : Int) by omega))
    refine wa_aaload B (t0 := 6) ha_52 ka_52 (by decide) rfl (show 0 ≤ n1.toInt by omega) (show n1.toInt < (h.2.1 a_52 : Int) by omega) (v := a_53) ea_53 dX11_joined_22 ?_
    refine wa_aload_n B dX11_joined_23 rfl 1 rfl ?_
    refine wa_getR B (C := RX11) (T := TX11) (N := 16) iq_X11_joined_X11 ha0 ka0 (by decide) rfl 9 (by decide) (by decide) (by decide +kernel) rfl (fun _ _ _ => rfl) (v := a_52) ea_52 dX11_joined_24 ?_
    refine wa_iload_n B dX11_joined_27 rfl 3 rfl ?_
    obtain ⟨a_54, ea_54, ha_54, ka_54⟩ := hV.elem (t := 0) ha_52 ka_52 (by decide) rfl (zx_ix (i := n2) (show 0 ≤ n2.toInt by omega) (show n2.toInt < (h.2.1 a_52 : Int) by omega))
    refine wa_aaload B (t0 := 6) ha_52 ka_52 (by decide) rfl (show 0 ≤ n2.toInt by omega) (show n2.toInt < (h.2.1 a_52 : Int) by omega) (v := a_54) ea_54 dX11_joined_28 ?_
    refine wa_callVi B (x := (RX0, TX0, 4)) (As := [.ref a_54]) (rest := []) (k_X0_goesLeftOf l dC dI h L hN q hV (a0 := a_53) ha_53 ka_53 (a1 := a_54) ha_54 ka_54  ) (cwV 1 B.1.2.2.2.2 gX11_joined_X0_goesLeftOf rfl rfl rfl (by decide +kernel) ⟨Nat.le_of_ble_eq_true rfl, Nat.le_of_ble_eq_true rfl⟩) ha_53 ka_53 (by decide) rfl rfl rfl (Nat.le_of_ble_eq_true rfl) dX11_joined_29 (fun r_56 q_55 w_57 => ?_)
    obtain ⟨ew_57, hw_57⟩ := w_57
    subst ew_57
    refine wa_if_ne B 42 dX11_joined_32 (by decide) (fun (t_58 : ¬ r_56.toInt = 0) => ?_) (fun (t_58 : r_56.toInt = 0) => ?_)
    · refine wa_aload_n B dX11_joined_42 rfl 1 rfl ?_
      refine wa_getR B (C := RX11) (T := TX11) (N := 16) iq_X11_joined_X11 ha0 ka0 (by decide) rfl 10 (by decide) (by decide) (by decide +kernel) rfl (fun _ _ _ => rfl) (v := a_3) ea_3 dX11_joined_43 ?_
      refine wa_iload_n B dX11_joined_46 rfl 0 rfl ?_
      refine wa_iaload B ha_3 ka_3 (by decide) (by decide) (show 0 ≤ v_2.toInt by omega) (show v_2.toInt < (h.2.1 a_3 : Int) by omega) (v := (q.2.2.2.1 a_3 (v_2 : Int32).toNatClampNeg)) rfl dX11_joined_47 ?_
      refine wa_iconst B (-1) dX11_joined_48 (by decide) ?_
      refine wa_icmp_ne B 135 dX11_joined_49 (by decide) (fun (t_59 : ¬ ((q.2.2.2.1 a_3 (v_2 : Int32).toNatClampNeg)).toInt = (-1)) => ?_) (fun (t_59 : ((q.2.2.2.1 a_3 (v_2 : Int32).toNatClampNeg)).toInt = (-1)) => ?_)
      · refine wa_aload_n B dX11_joined_135 rfl 1 rfl ?_
        refine wa_getR B (C := RX11) (T := TX11) (N := 16) iq_X11_joined_X11 ha0 ka0 (by decide) rfl 10 (by decide) (by decide) (by decide +kernel) rfl (fun _ _ _ => rfl) (v := a_3) ea_3 dX11_joined_136 ?_
        refine wa_iload_n B dX11_joined_139 rfl 0 rfl ?_
        refine wa_iaload B ha_3 ka_3 (by decide) (by decide) (show 0 ≤ v_2.toInt by omega) (show v_2.toInt < (h.2.1 a_3 : Int) by omega) (v := (q.2.2.2.1 a_3 (v_2 : Int32).toNatClampNeg)) rfl dX11_joined_140 ?_
        exact hret _ _ _ _ dX11_joined_141 ⟨hV, hF⟩
      · refine wa_aload_n B dX11_joined_52 rfl 1 rfl ?_
        refine wa_getR B (C := RX11) (T := TX11) (N := 16) iq_X11_joined_X11 ha0 ka0 (by decide) rfl 9 (by decide) (by decide) (by decide +kernel) rfl (fun _ _ _ => rfl) (v := a_52) ea_52 dX11_joined_53 ?_
        refine wa_iload_n B dX11_joined_56 rfl 2 rfl ?_
        refine wa_aaload B (t0 := 6) ha_52 ka_52 (by decide) rfl (show 0 ≤ n1.toInt by omega) (show n1.toInt < (h.2.1 a_52 : Int) by omega) (v := a_53) ea_53 dX11_joined_57 ?_
        refine wa_aload_n B dX11_joined_58 rfl 1 rfl ?_
        refine wa_getR B (C := RX11) (T := TX11) (N := 16) iq_X11_joined_X11 ha0 ka0 (by decide) rfl 9 (by decide) (by decide) (by decide +kernel) rfl (fun _ _ _ => rfl) (v := a_52) ea_52 dX11_joined_59 ?_
        refine wa_iload_n B dX11_joined_62 rfl 3 rfl ?_
        refine wa_aaload B (t0 := 6) ha_52 ka_52 (by decide) rfl (show 0 ≤ n2.toInt by omega) (show n2.toInt < (h.2.1 a_52 : Int) by omega) (v := a_54) ea_54 dX11_joined_63 ?_
        refine wa_aload_n B dX11_joined_64 rfl 1 rfl ?_
        refine wa_getR B (C := RX11) (T := TX11) (N := 16) iq_X11_joined_X11 ha0 ka0 (by decide) rfl 2 (by decide) (by decide) (by decide +kernel) rfl (fun _ _ _ => rfl) (v := s0) es0 dX11_joined_65 ?_
        obtain ⟨a_60, ea_60, ha_60, ka_60, la_60⟩ := hV.refn (n := 4) (t := 7) ha_53 ka_53 0 rfl (by decide) rfl (by decide)
        have ns0_a_60 : ¬ s0 = a_60 := fun z9 => absurd (z9 ▸ ls0 : h.2.1 a_60 = 3) (by rw [la_60]; decide)
        obtain ⟨a_61, ea_61, ha_61, ka_61, la_61⟩ := hV.refn (n := 4) (t := 7) ha_54 ka_54 0 rfl (by decide) rfl (by decide)
        have ns0_a_61 : ¬ s0 = a_61 := fun z9 => absurd (z9 ▸ ls0 : h.2.1 a_61 = 3) (by rw [la_61]; decide)
        obtain ⟨a_62, ea_62, ha_62, ka_62, la_62⟩ := hV.refn (n := 402) (t := 300) hs0 ks0 0 rfl (by decide) (by rw [ls0]; rfl) (by decide)
        refine wa_callVv B (x := (RX0, TX0, 4)) (As := [.ref a_54, .ref s0]) (rest := []) (k_X0_sayWith l dC dI h L hN q hV (a0 := a_53) ha_53 ka_53 (a1 := a_54) ha_54 ka_54 (a2 := s0) hs0 ks0 (t0 := a_60) ea_60 (t1 := a_61) ea_61 (b0 := a_62) ea_62 (by omega) (by omega)  ) (cwV 2 B.1.2.2.2.2 gX11_joined_X0_sayWith rfl rfl rfl (by decide +kernel) ⟨Nat.le_of_ble_eq_true rfl, Nat.le_of_ble_eq_true rfl⟩) ha_53 ka_53 (by decide) rfl rfl rfl (Nat.le_of_ble_eq_true rfl) dX11_joined_68 (fun q_63 w_64 => ?_)
        obtain ⟨hV_q_63, h2_q_63⟩ := w_64
        have hF_q_63 : sx_fr h L (fun a => h.1 a = 6 ∨ h.1 a = 8 ∨ h.1 a = 5 ∨ h.1 a = 2 ∨ h.1 a = 1 ∨ h.1 a = 4 ∨ a = s0 ∧ h.1 a = 7 ∨ h.1 a = 300) q q_63 := hF.tr (h2_q_63.mono (fun a (z : a = s0 ∧ h.1 a = 7 ∨ a = a_62 ∧ h.1 a = 300) => (show h.1 a = 6 ∨ h.1 a = 8 ∨ h.1 a = 5 ∨ h.1 a = 2 ∨ h.1 a = 1 ∨ h.1 a = 4 ∨ a = s0 ∧ h.1 a = 7 ∨ h.1 a = 300 from by omega)))
        refine wa_aload_n B dX11_joined_71 rfl 1 rfl ?_
        obtain ⟨a_65, ea_65, ha_65, ka_65⟩ := hV_q_63.ref (t := 6) ha0 ka0 4 rfl (by decide)
        refine wa_getR B (C := RX11) (T := TX11) (N := 16) iq_X11_joined_X11 ha0 ka0 (by decide) rfl 4 (by decide) (by decide) (by decide +kernel) rfl (fun _ _ _ => rfl) (v := a_65) ea_65 dX11_joined_72 ?_
        refine wa_aload_n B dX11_joined_75 rfl 1 rfl ?_
        have z_66 : q_63.2.2.1 a0 2 = s0 := (h2_q_63.R ha0 (show ¬ ((a0 = s0 ∧ h.1 a0 = 7 ∨ a0 = a_62 ∧ h.1 a0 = 300) ∧ (h.1 a0 = 8 ∨ h.1 a0 = 11)) from fun z9 => (show ¬ (a0 = s0 ∧ h.1 a0 = 7 ∨ a0 = a_62 ∧ h.1 a0 = 300) from by omega) z9.1) 2).trans (es0)
        refine wa_getR B (C := RX11) (T := TX11) (N := 16) iq_X11_joined_X11 ha0 ka0 (by decide) rfl 2 (by decide) (by decide) (by decide +kernel) rfl (fun _ _ _ => rfl) (v := s0) z_66 dX11_joined_76 ?_
        refine wa_aload_n B dX11_joined_79 rfl 1 rfl ?_
        obtain ⟨a_67, ea_67, ha_67, ka_67⟩ := hV_q_63.ref (t := 9) ha0 ka0 11 rfl (by decide)
        refine wa_getR B (C := RX11) (T := TX11) (N := 16) iq_X11_joined_X11 ha0 ka0 (by decide) rfl 11 (by decide) (by decide) (by decide +kernel) rfl (fun _ _ _ => rfl) (v := a_67) ea_67 dX11_joined_80 ?_
        refine wa_aload_n B dX11_joined_83 rfl 1 rfl ?_
        obtain ⟨a_68, ea_68, ha_68, ka_68⟩ := hV_q_63.ref (t := 5) ha0 ka0 8 rfl (by decide)
        refine wa_getR B (C := RX11) (T := TX11) (N := 16) iq_X11_joined_X11 ha0 ka0 (by decide) rfl 8 (by decide) (by decide) (by decide +kernel) rfl (fun _ _ _ => rfl) (v := a_68) ea_68 dX11_joined_84 ?_
        refine wa_callVi B (x := (RX6, TX6, 8)) (As := [.ref s0, .ref a_67, .ref a_68]) (rest := []) (k_X6_read l dC dI h L hN q_63 hV_q_63 (a0 := a_65) ha_65 ka_65 (a1 := s0) hs0 ks0 (a2 := a_67) ha_67 ka_67 (a3 := a_68) ha_68 ka_68  ) (cwV 3 B.1.2.2.2.2 gX11_joined_X6_read rfl rfl rfl (by decide +kernel) ⟨Nat.le_of_ble_eq_true rfl, Nat.le_of_ble_eq_true rfl⟩) ha_65 ka_65 (by decide) rfl rfl rfl (Nat.le_of_ble_eq_true rfl) dX11_joined_87 (fun r_70 q_69 w_71 => ?_)
        obtain ⟨hV_q_69, h2_q_69, hw_71⟩ := w_71
        have hF_q_69 : sx_fr h L (fun a => h.1 a = 6 ∨ h.1 a = 8 ∨ h.1 a = 5 ∨ h.1 a = 2 ∨ h.1 a = 1 ∨ h.1 a = 4 ∨ a = s0 ∧ h.1 a = 7 ∨ h.1 a = 300) q q_69 := hF_q_63.tr (h2_q_69.mono (fun a (z : h.1 a = 6 ∨ h.1 a = 8 ∨ h.1 a = 5 ∨ h.1 a = 2 ∨ h.1 a = 1) => (show h.1 a = 6 ∨ h.1 a = 8 ∨ h.1 a = 5 ∨ h.1 a = 2 ∨ h.1 a = 1 ∨ h.1 a = 4 ∨ a = s0 ∧ h.1 a = 7 ∨ h.1 a = 300 from by omega)))
        refine wa_istore B [(4, .int r_70), (3, .int v_2), (0, .ref a0), (1, .int n1), (2, .int n2)] dX11_joined_90 (by decide) rfl ?_
        refine wa_iload B dX11_joined_92 0 rfl ?_
        refine wa_if_eq B 109 dX11_joined_94 (by decide) (fun (t_72 : r_70.toInt = 0) => ?_) (fun (t_72 : ¬ r_70.toInt = 0) => ?_)
        · refine wa_aload_n B dX11_joined_109 rfl 2 rfl ?_
          have z_73 : q_69.2.2.1 a0 10 = a_3 := (h2_q_69.R ha0 (show ¬ ((h.1 a0 = 6 ∨ h.1 a0 = 8 ∨ h.1 a0 = 5 ∨ h.1 a0 = 2 ∨ h.1 a0 = 1) ∧ (h.1 a0 = 8 ∨ h.1 a0 = 11)) from fun z9 => (show ¬ (h.1 a0 = 6 ∨ h.1 a0 = 8 ∨ h.1 a0 = 5 ∨ h.1 a0 = 2 ∨ h.1 a0 = 1) from by omega) z9.1) 10).trans ((h2_q_63.R ha0 (show ¬ ((a0 = s0 ∧ h.1 a0 = 7 ∨ a0 = a_62 ∧ h.1 a0 = 300) ∧ (h.1 a0 = 8 ∨ h.1 a0 = 11)) from fun z9 => (show ¬ (a0 = s0 ∧ h.1 a0 = 7 ∨ a0 = a_62 ∧ h.1 a0 = 300) from by omega) z9.1) 10).trans (ea_3))
          refine wa_getR B (C := RX11) (T := TX11) (N := 16) iq_X11_joined_X11 ha0 ka0 (by decide) rfl 10 (by decide) (by decide) (by decide +kernel) rfl (fun _ _ _ => rfl) (v := a_3) z_73 dX11_joined_110 ?_
          refine wa_iload_n B dX11_joined_113 rfl 1 rfl ?_
          refine wa_iload B dX11_joined_114 0 rfl ?_
          refine wa_if_eq B 133 dX11_joined_116 (by decide) (fun (t_74 : r_70.toInt = 0) => ?_) (fun (t_74 : ¬ r_70.toInt = 0) => ?_)
          · refine wa_iconst B 1 dX11_joined_133 (by decide) ?_
            refine wa_iastore B ha_3 ka_3 (by decide) (by decide) (show 0 ≤ v_2.toInt by omega) (show v_2.toInt < (h.2.1 a_3 : Int) by omega) dX11_joined_134 (fun q_75 eq_75 => ?_)
            have hV_q_75 : sx_V h L q_75 := by rw [eq_75]; exact hV_q_69.up1 ha_3 ka_3 trivial
            have hF_q_75 : sx_fr h L (fun a => h.1 a = 6 ∨ h.1 a = 8 ∨ h.1 a = 5 ∨ h.1 a = 2 ∨ h.1 a = 1 ∨ h.1 a = 4 ∨ a = s0 ∧ h.1 a = 7 ∨ h.1 a = 300) q q_75 := hF_q_69.tr (by rw [eq_75]; exact sx_fr.pG (show h.1 a_3 = 100 ∨ (h.1 a_3 = 6 ∨ h.1 a_3 = 8 ∨ h.1 a_3 = 5 ∨ h.1 a_3 = 2 ∨ h.1 a_3 = 1 ∨ h.1 a_3 = 4 ∨ a_3 = s0 ∧ h.1 a_3 = 7 ∨ h.1 a_3 = 300) from by omega))
            have z_76 : q_75.2.2.2.1 a_3 (v_2 : Int32).toNatClampNeg = 1 := by rw [eq_75, sg_pG_e]; exact if_pos rfl
            refine wa_aload_n B dX11_joined_135 rfl 2 rfl ?_
            have z_77 : q_75.2.2.1 a0 10 = a_3 := ((show q_75.2.2.1 a0 10 = q_69.2.2.1 a0 10 from by rw [eq_75]; rfl)).trans (z_73)
            refine wa_getR B (C := RX11) (T := TX11) (N := 16) iq_X11_joined_X11 ha0 ka0 (by decide) rfl 10 (by decide) (by decide) (by decide +kernel) rfl (fun _ _ _ => rfl) (v := a_3) z_77 dX11_joined_136 ?_
            refine wa_iload_n B dX11_joined_139 rfl 1 rfl ?_
            refine wa_iaload B ha_3 ka_3 (by decide) (by decide) (show 0 ≤ v_2.toInt by omega) (show v_2.toInt < (h.2.1 a_3 : Int) by omega) (v := 1) z_76 dX11_joined_140 ?_
            exact hret _ _ _ _ dX11_joined_141 ⟨hV_q_75, hF_q_75⟩
          · refine wa_aload_n B dX11_joined_119 rfl 2 rfl ?_
            have z_78 : q_69.2.2.1 a0 8 = a_68 := (h2_q_69.R ha0 (show ¬ ((h.1 a0 = 6 ∨ h.1 a0 = 8 ∨ h.1 a0 = 5 ∨ h.1 a0 = 2 ∨ h.1 a0 = 1) ∧ (h.1 a0 = 8 ∨ h.1 a0 = 11)) from fun z9 => (show ¬ (h.1 a0 = 6 ∨ h.1 a0 = 8 ∨ h.1 a0 = 5 ∨ h.1 a0 = 2 ∨ h.1 a0 = 1) from by omega) z9.1) 8).trans (ea_68)
            refine wa_getR B (C := RX11) (T := TX11) (N := 16) iq_X11_joined_X11 ha0 ka0 (by decide) rfl 8 (by decide) (by decide) (by decide +kernel) rfl (fun _ _ _ => rfl) (v := a_68) z_78 dX11_joined_120 ?_
            refine wa_getI B (C := RX5) (T := TX5) (N := 7) iq_X11_joined_X5 ha_68 ka_68 (by decide) rfl 5 (by decide) (by decide) (by decide +kernel) rfl (by decide) (v := (q_69.1 a_68 5)) rfl dX11_joined_123 ?_
            refine wa_if_le B 133 dX11_joined_126 (by decide) (fun (t_79 : (q_69.1 a_68 5).toInt ≤ 0) => ?_) (fun (t_79 : ¬ (q_69.1 a_68 5).toInt ≤ 0) => ?_)
            · refine wa_iconst B 1 dX11_joined_133 (by decide) ?_
              refine wa_iastore B ha_3 ka_3 (by decide) (by decide) (show 0 ≤ v_2.toInt by omega) (show v_2.toInt < (h.2.1 a_3 : Int) by omega) dX11_joined_134 (fun q_80 eq_80 => ?_)
              have hV_q_80 : sx_V h L q_80 := by rw [eq_80]; exact hV_q_69.up1 ha_3 ka_3 trivial
              have hF_q_80 : sx_fr h L (fun a => h.1 a = 6 ∨ h.1 a = 8 ∨ h.1 a = 5 ∨ h.1 a = 2 ∨ h.1 a = 1 ∨ h.1 a = 4 ∨ a = s0 ∧ h.1 a = 7 ∨ h.1 a = 300) q q_80 := hF_q_69.tr (by rw [eq_80]; exact sx_fr.pG (show h.1 a_3 = 100 ∨ (h.1 a_3 = 6 ∨ h.1 a_3 = 8 ∨ h.1 a_3 = 5 ∨ h.1 a_3 = 2 ∨ h.1 a_3 = 1 ∨ h.1 a_3 = 4 ∨ a_3 = s0 ∧ h.1 a_3 = 7 ∨ h.1 a_3 = 300) from by omega))
              have z_81 : q_80.2.2.2.1 a_3 (v_2 : Int32).toNatClampNeg = 1 := by rw [eq_80, sg_pG_e]; exact if_pos rfl
              refine wa_aload_n B dX11_joined_135 rfl 2 rfl ?_
              have z_82 : q_80.2.2.1 a0 10 = a_3 := ((show q_80.2.2.1 a0 10 = q_69.2.2.1 a0 10 from by rw [eq_80]; rfl)).trans (z_73)
              refine wa_getR B (C := RX11) (T := TX11) (N := 16) iq_X11_joined_X11 ha0 ka0 (by decide) rfl 10 (by decide) (by decide) (by decide +kernel) rfl (fun _ _ _ => rfl) (v := a_3) z_82 dX11_joined_136 ?_
              refine wa_iload_n B dX11_joined_139 rfl 1 rfl ?_
              refine wa_iaload B ha_3 ka_3 (by decide) (by decide) (show 0 ≤ v_2.toInt by omega) (show v_2.toInt < (h.2.1 a_3 : Int) by omega) (v := 1) z_81 dX11_joined_140 ?_
              exact hret _ _ _ _ dX11_joined_141 ⟨hV_q_80, hF_q_80⟩
            · refine wa_iconst B 2 dX11_joined_129 (by decide) ?_
              refine wa_goto B 134 dX11_joined_130 (by decide) ?_
              refine wa_iastore B ha_3 ka_3 (by decide) (by decide) (show 0 ≤ v_2.toInt by omega) (show v_2.toInt < (h.2.1 a_3 : Int) by omega) dX11_joined_134 (fun q_83 eq_83 => ?_)
              have hV_q_83 : sx_V h L q_83 := by rw [eq_83]; exact hV_q_69.up1 ha_3 ka_3 trivial
              have hF_q_83 : sx_fr h L (fun a => h.1 a = 6 ∨ h.1 a = 8 ∨ h.1 a = 5 ∨ h.1 a = 2 ∨ h.1 a = 1 ∨ h.1 a = 4 ∨ a = s0 ∧ h.1 a = 7 ∨ h.1 a = 300) q q_83 := hF_q_69.tr (by rw [eq_83]; exact sx_fr.pG (show h.1 a_3 = 100 ∨ (h.1 a_3 = 6 ∨ h.1 a_3 = 8 ∨ h.1 a_3 = 5 ∨ h.1 a_3 = 2 ∨ h.1 a_3 = 1 ∨ h.1 a_3 = 4 ∨ a_3 = s0 ∧ h.1 a_3 = 7 ∨ h.1 a_3 = 300) from by omega))
              have z_84 : q_83.2.2.2.1 a_3 (v_2 : Int32).toNatClampNeg = 2 := by rw [eq_83, sg_pG_e]; exact if_pos rfl
              refine wa_aload_n B dX11_joined_135 rfl 2 rfl ?_
              have z_85 : q_83.2.2.1 a0 10 = a_3 := ((show q_83.2.2.1 a0 10 = q_69.2.2.1 a0 10 from by rw [eq_83]; rfl)).trans (z_73)
              refine wa_getR B (C := RX11) (T := TX11) (N := 16) iq_X11_joined_X11 ha0 ka0 (by decide) rfl 10 (by decide) (by decide) (by decide +kernel) rfl (fun _ _ _ => rfl) (v := a_3) z_85 dX11_joined_136 ?_
              refine wa_iload_n B dX11_joined_139 rfl 1 rfl ?_
              refine wa_iaload B ha_3 ka_3 (by decide) (by decide) (show 0 ≤ v_2.toInt by omega) (show v_2.toInt < (h.2.1 a_3 : Int) by omega) (v := 2) z_84 dX11_joined_140 ?_
              exact hret _ _ _ _ dX11_joined_141 ⟨hV_q_83, hF_q_83⟩
        · refine wa_aload_n B dX11_joined_97 rfl 2 rfl ?_
          obtain ⟨a_86, ea_86, ha_86, ka_86⟩ := hV_q_69.ref (t := 4) ha0 ka0 5 rfl (by decide)
          refine wa_getR B (C := RX11) (T := TX11) (N := 16) iq_X11_joined_X11 ha0 ka0 (by decide) rfl 5 (by decide) (by decide) (by decide +kernel) rfl (fun _ _ _ => rfl) (v := a_86) ea_86 dX11_joined_98 ?_
          refine wa_aload_n B dX11_joined_101 rfl 2 rfl ?_
          have z_87 : q_69.2.2.1 a0 8 = a_68 := (h2_q_69.R ha0 (show ¬ ((h.1 a0 = 6 ∨ h.1 a0 = 8 ∨ h.1 a0 = 5 ∨ h.1 a0 = 2 ∨ h.1 a0 = 1) ∧ (h.1 a0 = 8 ∨ h.1 a0 = 11)) from fun z9 => (show ¬ (h.1 a0 = 6 ∨ h.1 a0 = 8 ∨ h.1 a0 = 5 ∨ h.1 a0 = 2 ∨ h.1 a0 = 1) from by omega) z9.1) 8).trans (ea_68)
          refine wa_getR B (C := RX11) (T := TX11) (N := 16) iq_X11_joined_X11 ha0 ka0 (by decide) rfl 8 (by decide) (by decide) (by decide +kernel) rfl (fun _ _ _ => rfl) (v := a_68) z_87 dX11_joined_102 ?_
          refine wa_iconst B 1 dX11_joined_105 (by decide) ?_
          refine wa_callVv B (x := (RX4, TX4, 7)) (As := [.ref a_68, .int 1]) (rest := []) (k_X4_solve l dC dI h L hN q_69 hV_q_69 (a0 := a_86) ha_86 ka_86 (a1 := a_68) ha_68 ka_68 1  (by first | assumption | omega | decide)) (cwV 2 B.1.2.2.2.2 gX11_joined_X4_solve rfl rfl rfl (by decide +kernel) ⟨Nat.le_of_ble_eq_true rfl, Nat.le_of_ble_eq_true rfl⟩) ha_86 ka_86 (by decide) rfl rfl rfl (Nat.le_of_ble_eq_true rfl) dX11_joined_106 (fun q_88 w_89 => ?_)
          obtain ⟨hV_q_88, h2_q_88⟩ := w_89
          have hF_q_88 : sx_fr h L (fun a => h.1 a = 6 ∨ h.1 a = 8 ∨ h.1 a = 5 ∨ h.1 a = 2 ∨ h.1 a = 1 ∨ h.1 a = 4 ∨ a = s0 ∧ h.1 a = 7 ∨ h.1 a = 300) q q_88 := hF_q_69.tr (h2_q_88.mono (fun a (z : a = a_86 ∧ h.1 a = 4 ∨ a = a_68 ∧ h.1 a = 5 ∨ h.1 a = 1 ∨ h.1 a = 2) => (show h.1 a = 6 ∨ h.1 a = 8 ∨ h.1 a = 5 ∨ h.1 a = 2 ∨ h.1 a = 1 ∨ h.1 a = 4 ∨ a = s0 ∧ h.1 a = 7 ∨ h.1 a = 300 from by omega)))
          refine wa_aload_n B dX11_joined_109 rfl 2 rfl ?_
          have z_90 : q_88.2.2.1 a0 10 = a_3 := (h2_q_88.R ha0 (show ¬ ((a0 = a_86 ∧ h.1 a0 = 4 ∨ a0 = a_68 ∧ h.1 a0 = 5 ∨ h.1 a0 = 1 ∨ h.1 a0 = 2) ∧ (h.1 a0 = 8 ∨ h.1 a0 = 11)) from fun z9 => (show ¬ (a0 = a_86 ∧ h.1 a0 = 4 ∨ a0 = a_68 ∧ h.1 a0 = 5 ∨ h.1 a0 = 1 ∨ h.1 a0 = 2) from by omega) z9.1) 10).trans ((h2_q_69.R ha0 (show ¬ ((h.1 a0 = 6 ∨ h.1 a0 = 8 ∨ h.1 a0 = 5 ∨ h.1 a0 = 2 ∨ h.1 a0 = 1) ∧ (h.1 a0 = 8 ∨ h.1 a0 = 11)) from fun z9 => (show ¬ (h.1 a0 = 6 ∨ h.1 a0 = 8 ∨ h.1 a0 = 5 ∨ h.1 a0 = 2 ∨ h.1 a0 = 1) from by omega) z9.1) 10).trans ((h2_q_63.R ha0 (show ¬ ((a0 = s0 ∧ h.1 a0 = 7 ∨ a0 = a_62 ∧ h.1 a0 = 300) ∧ (h.1 a0 = 8 ∨ h.1 a0 = 11)) from fun z9 => (show ¬ (a0 = s0 ∧ h.1 a0 = 7 ∨ a0 = a_62 ∧ h.1 a0 = 300) from by omega) z9.1) 10).trans (ea_3)))
          refine wa_getR B (C := RX11) (T := TX11) (N := 16) iq_X11_joined_X11 ha0 ka0 (by decide) rfl 10 (by decide) (by decide) (by decide +kernel) rfl (fun _ _ _ => rfl) (v := a_3) z_90 dX11_joined_110 ?_
          refine wa_iload_n B dX11_joined_113 rfl 1 rfl ?_
          refine wa_iload B dX11_joined_114 0 rfl ?_
          refine wa_if_eq B 133 dX11_joined_116 (by decide) (fun (t_91 : r_70.toInt = 0) => ?_) (fun (t_91 : ¬ r_70.toInt = 0) => ?_)
          · refine wa_iconst B 1 dX11_joined_133 (by decide) ?_
            refine wa_iastore B ha_3 ka_3 (by decide) (by decide) (show 0 ≤ v_2.toInt by omega) (show v_2.toInt < (h.2.1 a_3 : Int) by omega) dX11_joined_134 (fun q_92 eq_92 => ?_)
            have hV_q_92 : sx_V h L q_92 := by rw [eq_92]; exact hV_q_88.up1 ha_3 ka_3 trivial
            have hF_q_92 : sx_fr h L (fun a => h.1 a = 6 ∨ h.1 a = 8 ∨ h.1 a = 5 ∨ h.1 a = 2 ∨ h.1 a = 1 ∨ h.1 a = 4 ∨ a = s0 ∧ h.1 a = 7 ∨ h.1 a = 300) q q_92 := hF_q_88.tr (by rw [eq_92]; exact sx_fr.pG (show h.1 a_3 = 100 ∨ (h.1 a_3 = 6 ∨ h.1 a_3 = 8 ∨ h.1 a_3 = 5 ∨ h.1 a_3 = 2 ∨ h.1 a_3 = 1 ∨ h.1 a_3 = 4 ∨ a_3 = s0 ∧ h.1 a_3 = 7 ∨ h.1 a_3 = 300) from by omega))
            have z_93 : q_92.2.2.2.1 a_3 (v_2 : Int32).toNatClampNeg = 1 := by rw [eq_92, sg_pG_e]; exact if_pos rfl
            refine wa_aload_n B dX11_joined_135 rfl 2 rfl ?_
            have z_94 : q_92.2.2.1 a0 10 = a_3 := ((show q_92.2.2.1 a0 10 = q_88.2.2.1 a0 10 from by rw [eq_92]; rfl)).trans (z_90)
            refine wa_getR B (C := RX11) (T := TX11) (N := 16) iq_X11_joined_X11 ha0 ka0 (by decide) rfl 10 (by decide) (by decide) (by decide +kernel) rfl (fun _ _ _ => rfl) (v := a_3) z_94 dX11_joined_136 ?_
            refine wa_iload_n B dX11_joined_139 rfl 1 rfl ?_
            refine wa_iaload B ha_3 ka_3 (by decide) (by decide) (show 0 ≤ v_2.toInt by omega) (show v_2.toInt < (h.2.1 a_3 : Int) by omega) (v := 1) z_93 dX11_joined_140 ?_
            exact hret _ _ _ _ dX11_joined_141 ⟨hV_q_92, hF_q_92⟩
          · refine wa_aload_n B dX11_joined_119 rfl 2 rfl ?_
            have z_95 : q_88.2.2.1 a0 8 = a_68 := (h2_q_88.R ha0 (show ¬ ((a0 = a_86 ∧ h.1 a0 = 4 ∨ a0 = a_68 ∧ h.1 a0 = 5 ∨ h.1 a0 = 1 ∨ h.1 a0 = 2) ∧ (h.1 a0 = 8 ∨ h.1 a0 = 11)) from fun z9 => (show ¬ (a0 = a_86 ∧ h.1 a0 = 4 ∨ a0 = a_68 ∧ h.1 a0 = 5 ∨ h.1 a0 = 1 ∨ h.1 a0 = 2) from by omega) z9.1) 8).trans (z_87)
            refine wa_getR B (C := RX11) (T := TX11) (N := 16) iq_X11_joined_X11 ha0 ka0 (by decide) rfl 8 (by decide) (by decide) (by decide +kernel) rfl (fun _ _ _ => rfl) (v := a_68) z_95 dX11_joined_120 ?_
            refine wa_getI B (C := RX5) (T := TX5) (N := 7) iq_X11_joined_X5 ha_68 ka_68 (by decide) rfl 5 (by decide) (by decide) (by decide +kernel) rfl (by decide) (v := (q_88.1 a_68 5)) rfl dX11_joined_123 ?_
            refine wa_if_le B 133 dX11_joined_126 (by decide) (fun (t_96 : (q_88.1 a_68 5).toInt ≤ 0) => ?_) (fun (t_96 : ¬ (q_88.1 a_68 5).toInt ≤ 0) => ?_)
            · refine wa_iconst B 1 dX11_joined_133 (by decide) ?_
              refine wa_iastore B ha_3 ka_3 (by decide) (by decide) (show 0 ≤ v_2.toInt by omega) (show v_2.toInt < (h.2.1 a_3 : Int) by omega) dX11_joined_134 (fun q_97 eq_97 => ?_)
              have hV_q_97 : sx_V h L q_97 := by rw [eq_97]; exact hV_q_88.up1 ha_3 ka_3 trivial
              have hF_q_97 : sx_fr h L (fun a => h.1 a = 6 ∨ h.1 a = 8 ∨ h.1 a = 5 ∨ h.1 a = 2 ∨ h.1 a = 1 ∨ h.1 a = 4 ∨ a = s0 ∧ h.1 a = 7 ∨ h.1 a = 300) q q_97 := hF_q_88.tr (by rw [eq_97]; exact sx_fr.pG (show h.1 a_3 = 100 ∨ (h.1 a_3 = 6 ∨ h.1 a_3 = 8 ∨ h.1 a_3 = 5 ∨ h.1 a_3 = 2 ∨ h.1 a_3 = 1 ∨ h.1 a_3 = 4 ∨ a_3 = s0 ∧ h.1 a_3 = 7 ∨ h.1 a_3 = 300) from by omega))
              have z_98 : q_97.2.2.2.1 a_3 (v_2 : Int32).toNatClampNeg = 1 := by rw [eq_97, sg_pG_e]; exact if_pos rfl
              refine wa_aload_n B dX11_joined_135 rfl 2 rfl ?_
              have z_99 : q_97.2.2.1 a0 10 = a_3 := ((show q_97.2.2.1 a0 10 = q_88.2.2.1 a0 10 from by rw [eq_97]; rfl)).trans (z_90)
              refine wa_getR B (C := RX11) (T := TX11) (N := 16) iq_X11_joined_X11 ha0 ka0 (by decide) rfl 10 (by decide) (by decide) (by decide +kernel) rfl (fun _ _ _ => rfl) (v := a_3) z_99 dX11_joined_136 ?_
              refine wa_iload_n B dX11_joined_139 rfl 1 rfl ?_
              refine wa_iaload B ha_3 ka_3 (by decide) (by decide) (show 0 ≤ v_2.toInt by omega) (show v_2.toInt < (h.2.1 a_3 : Int) by omega) (v := 1) z_98 dX11_joined_140 ?_
              exact hret _ _ _ _ dX11_joined_141 ⟨hV_q_97, hF_q_97⟩
            · refine wa_iconst B 2 dX11_joined_129 (by decide) ?_
              refine wa_goto B 134 dX11_joined_130 (by decide) ?_
              refine wa_iastore B ha_3 ka_3 (by decide) (by decide) (show 0 ≤ v_2.toInt by omega) (show v_2.toInt < (h.2.1 a_3 : Int) by omega) dX11_joined_134 (fun q_100 eq_100 => ?_)
              have hV_q_100 : sx_V h L q_100 := by rw [eq_100]; exact hV_q_88.up1 ha_3 ka_3 trivial
              have hF_q_100 : sx_fr h L (fun a => h.1 a = 6 ∨ h.1 a = 8 ∨ h.1 a = 5 ∨ h.1 a = 2 ∨ h.1 a = 1 ∨ h.1 a = 4 ∨ a = s0 ∧ h.1 a = 7 ∨ h.1 a = 300) q q_100 := hF_q_88.tr (by rw [eq_100]; exact sx_fr.pG (show h.1 a_3 = 100 ∨ (h.1 a_3 = 6 ∨ h.1 a_3 = 8 ∨ h.1 a_3 = 5 ∨ h.1 a_3 = 2 ∨ h.1 a_3 = 1 ∨ h.1 a_3 = 4 ∨ a_3 = s0 ∧ h.1 a_3 = 7 ∨ h.1 a_3 = 300) from by omega))
              have z_101 : q_100.2.2.2.1 a_3 (v_2 : Int32).toNatClampNeg = 2 := by rw [eq_100, sg_pG_e]; exact if_pos rfl
              refine wa_aload_n B dX11_joined_135 rfl 2 rfl ?_
              have z_102 : q_100.2.2.1 a0 10 = a_3 := ((show q_100.2.2.1 a0 10 = q_88.2.2.1 a0 10 from by rw [eq_100]; rfl)).trans (z_90)
              refine wa_getR B (C := RX11) (T := TX11) (N := 16) iq_X11_joined_X11 ha0 ka0 (by decide) rfl 10 (by decide) (by decide) (by decide +kernel) rfl (fun _ _ _ => rfl) (v := a_3) z_102 dX11_joined_136 ?_
              refine wa_iload_n B dX11_joined_139 rfl 1 rfl ?_
              refine wa_iaload B ha_3 ka_3 (by decide) (by decide) (show 0 ≤ v_2.toInt by omega) (show v_2.toInt < (h.2.1 a_3 : Int) by omega) (v := 2) z_101 dX11_joined_140 ?_
              exact hret _ _ _ _ dX11_joined_141 ⟨hV_q_100, hF_q_100⟩
    · refine wa_aload_n B dX11_joined_35 rfl 1 rfl ?_
      refine wa_getR B (C := RX11) (T := TX11) (N := 16) iq_X11_joined_X11 ha0 ka0 (by decide) rfl 10 (by decide) (by decide) (by decide +kernel) rfl (fun _ _ _ => rfl) (v := a_3) ea_3 dX11_joined_36 ?_
      refine wa_iload_n B dX11_joined_39 rfl 0 rfl ?_
      refine wa_iconst B 0 dX11_joined_40 (by decide) ?_
      refine wa_iastore B ha_3 ka_3 (by decide) (by decide) (show 0 ≤ v_2.toInt by omega) (show v_2.toInt < (h.2.1 a_3 : Int) by omega) dX11_joined_41 (fun q_103 eq_103 => ?_)
      have hV_q_103 : sx_V h L q_103 := by rw [eq_103]; exact hV.up1 ha_3 ka_3 trivial
      have hF_q_103 : sx_fr h L (fun a => h.1 a = 6 ∨ h.1 a = 8 ∨ h.1 a = 5 ∨ h.1 a = 2 ∨ h.1 a = 1 ∨ h.1 a = 4 ∨ a = s0 ∧ h.1 a = 7 ∨ h.1 a = 300) q q_103 := hF.tr (by rw [eq_103]; exact sx_fr.pG (show h.1 a_3 = 100 ∨ (h.1 a_3 = 6 ∨ h.1 a_3 = 8 ∨ h.1 a_3 = 5 ∨ h.1 a_3 = 2 ∨ h.1 a_3 = 1 ∨ h.1 a_3 = 4 ∨ a_3 = s0 ∧ h.1 a_3 = 7 ∨ h.1 a_3 = 300) from by omega))
      have z_104 : q_103.2.2.2.1 a_3 (v_2 : Int32).toNatClampNeg = 0 := by rw [eq_103, sg_pG_e]; exact if_pos rfl
      refine wa_aload_n B dX11_joined_42 rfl 1 rfl ?_
      have z_105 : q_103.2.2.1 a0 10 = a_3 := ((show q_103.2.2.1 a0 10 = q.2.2.1 a0 10 from by rw [eq_103]; rfl)).trans (ea_3)
      refine wa_getR B (C := RX11) (T := TX11) (N := 16) iq_X11_joined_X11 ha0 ka0 (by decide) rfl 10 (by decide) (by decide) (by decide +kernel) rfl (fun _ _ _ => rfl) (v := a_3) z_105 dX11_joined_43 ?_
      refine wa_iload_n B dX11_joined_46 rfl 0 rfl ?_
      refine wa_iaload B ha_3 ka_3 (by decide) (by decide) (show 0 ≤ v_2.toInt by omega) (show v_2.toInt < (h.2.1 a_3 : Int) by omega) (v := 0) z_104 dX11_joined_47 ?_
      refine wa_iconst B (-1) dX11_joined_48 (by decide) ?_
      refine wa_icmp_ne B 135 dX11_joined_49 (by decide) (fun _ => ?_) (fun z => absurd z (by decide))
      refine wa_aload_n B dX11_joined_135 rfl 1 rfl ?_
      refine wa_getR B (C := RX11) (T := TX11) (N := 16) iq_X11_joined_X11 ha0 ka0 (by decide) rfl 10 (by decide) (by decide) (by decide +kernel) rfl (fun _ _ _ => rfl) (v := a_3) z_105 dX11_joined_136 ?_
      refine wa_iload_n B dX11_joined_139 rfl 0 rfl ?_
      refine wa_iaload B ha_3 ka_3 (by decide) (by decide) (show 0 ≤ v_2.toInt by omega) (show v_2.toInt < (h.2.1 a_3 : Int) by omega) (v := 0) z_104 dX11_joined_140 ?_
      exact hret _ _ _ _ dX11_joined_141 ⟨hV_q_103, hF_q_103⟩
set_option maxHeartbeats 4000000 in
set_option maxRecDepth 100000 in
theorem k_X11_join (l : Launch) (dC : Nat → ClassId) (dI : Nat → Nat → Nat) (h : Sh) (L : List Nat) (hN : sx_nd L) (q : Sg) (hV : sx_V h L q) {a0 : Nat} (ha0 : a0 ∈ L) (ka0 : h.1 a0 = 11) (n1 : Int32) (n2 : Int32) {t0 : Nat} (et0 : q.2.2.1 a0 0 = t0)   : CMi l dC dI h L yX11_join wsX11_join ({ frames := 10, cells := 0, slots := 0, locals := 245 } : Room) q [.ref a0, .int n1, .int n2] (fun r q' => sx_V h L q' ∧ sx_fr h L (fun a => sx_ck (h.1 a)) q q' ∧ (q'.2.2.1 a0 0 = t0 ∧ (q'.1 t0 1).toInt = (q.1 t0 1).toInt ∧ (q'.1 a0 14).toInt = (q.1 a0 14).toInt)) := by
  refine cm_i (cc := cX11_join) (mL := 3) (own := RX11) hN (by decide) rfl rfl (Nat.le_of_ble_eq_true rfl) (fun Z B hret => ?_)
  have hF : sx_fr h L (fun a => sx_ck (h.1 a)) q q := sx_fr.rf
  obtain ⟨ht0, kt0, lt0⟩ : t0 ∈ L ∧ h.1 t0 = 7 ∧ h.2.1 t0 = 1 := by obtain ⟨r9, e9, z1, z2, z3⟩ := hV.refn (t := 7) (n := 1) ha0 ka0 0 rfl (by decide) rfl (by decide); rw [← et0, e9]; exact ⟨z1, z2, z3⟩
  show WA l dC dI h L ({ frames := 10, cells := 0, slots := 0, locals := 245 } : Room) 3 Z q 0 [(0, .ref a0), (1, .int n1), (2, .int n2)] []
  refine wa_aload_n B dX11_join_0 rfl 0 rfl ?_
  refine wa_iload_n B dX11_join_1 rfl 1 rfl ?_
  refine wa_callVi B (x := (RX11, TX11, 16)) (As := [.int n1]) (rest := []) (k_X11_isFragment l dC dI h L hN q hV (a0 := a0) ha0 ka0 n1  ) (cwV 1 B.1.2.2.2.2 gX11_join_X11_isFragment rfl rfl rfl (by decide +kernel) ⟨Nat.le_of_ble_eq_true rfl, Nat.le_of_ble_eq_true rfl⟩) ha0 ka0 (by decide) rfl rfl rfl (Nat.le_of_ble_eq_true rfl) dX11_join_2 (fun r_2 q_1 w_3 => ?_)
  obtain ⟨ew_3, hw_3⟩ := w_3
  subst ew_3
  refine wa_if_eq B 21 dX11_join_5 (by decide) (fun (t_4 : r_2.toInt = 0) => ?_) (fun (t_4 : ¬ r_2.toInt = 0) => ?_)
  · refine wa_iconst B (-1) dX11_join_21 (by decide) ?_
    exact hret _ _ _ _ dX11_join_22 ⟨hV, hF, ⟨et0, by have h9 : ((-1) : Int32).toInt = (-1) := rfl; omega, by have h9 : ((-1) : Int32).toInt = (-1) := rfl; omega⟩⟩
  · refine wa_aload_n B dX11_join_8 rfl 0 rfl ?_
    refine wa_iload_n B dX11_join_9 rfl 2 rfl ?_
    refine wa_callVi B (x := (RX11, TX11, 16)) (As := [.int n2]) (rest := []) (k_X11_isFragment l dC dI h L hN q hV (a0 := a0) ha0 ka0 n2  ) (cwV 1 B.1.2.2.2.2 gX11_join_X11_isFragment rfl rfl rfl (by decide +kernel) ⟨Nat.le_of_ble_eq_true rfl, Nat.le_of_ble_eq_true rfl⟩) ha0 ka0 (by decide) rfl rfl rfl (Nat.le_of_ble_eq_true rfl) dX11_join_10 (fun r_6 q_5 w_7 => ?_)
    obtain ⟨ew_7, hw_7⟩ := w_7
    subst ew_7
    refine wa_if_eq B 21 dX11_join_13 (by decide) (fun (t_8 : r_6.toInt = 0) => ?_) (fun (t_8 : ¬ r_6.toInt = 0) => ?_)
    · refine wa_iconst B (-1) dX11_join_21 (by decide) ?_
      exact hret _ _ _ _ dX11_join_22 ⟨hV, hF, ⟨et0, by have h9 : ((-1) : Int32).toInt = (-1) := rfl; omega, by have h9 : ((-1) : Int32).toInt = (-1) := rfl; omega⟩⟩
    · refine wa_iload_n B dX11_join_16 rfl 1 rfl ?_
      refine wa_iload_n B dX11_join_17 rfl 2 rfl ?_
      refine wa_icmp_ne B 23 dX11_join_18 (by decide) (fun (t_9 : ¬ n1.toInt = n2.toInt) => ?_) (fun (t_9 : n1.toInt = n2.toInt) => ?_)
      · refine wa_aload_n B dX11_join_23 rfl 0 rfl ?_
        refine wa_iload_n B dX11_join_24 rfl 1 rfl ?_
        refine wa_iload_n B dX11_join_25 rfl 2 rfl ?_
        obtain ⟨a_10, ea_10, ha_10, ka_10, la_10⟩ := hV.refn (n := 3) (t := 7) ha0 ka0 2 rfl (by decide) rfl (by decide)
        have nt0_a_10 : ¬ t0 = a_10 := fun z9 => absurd (z9 ▸ lt0 : h.2.1 a_10 = 1) (by rw [la_10]; decide)
        refine wa_callVi B (x := (RX11, TX11, 16)) (As := [.int n1, .int n2]) (rest := []) (k_X11_joined l dC dI h L hN q hV (a0 := a0) ha0 ka0 n1 n2 (s0 := a_10) ea_10  (by first | assumption | omega | decide) (by first | assumption | omega | decide) (by first | assumption | omega | decide) (by first | assumption | omega | decide)) (cwV 2 B.1.2.2.2.2 gX11_join_X11_joined rfl rfl rfl (by decide +kernel) ⟨Nat.le_of_ble_eq_true rfl, Nat.le_of_ble_eq_true rfl⟩) ha0 ka0 (by decide) rfl rfl rfl (Nat.le_of_ble_eq_true rfl) dX11_join_26 (fun r_12 q_11 w_13 => ?_)
        obtain ⟨hV_q_11, h2_q_11⟩ := w_13
        have hF_q_11 : sx_fr h L (fun a => sx_ck (h.1 a)) q q_11 := hF.tr (h2_q_11.mono (fun a (z : h.1 a = 6 ∨ h.1 a = 8 ∨ h.1 a = 5 ∨ h.1 a = 2 ∨ h.1 a = 1 ∨ h.1 a = 4 ∨ a = a_10 ∧ h.1 a = 7 ∨ h.1 a = 300) => (show sx_ck (h.1 a) from by (try unfold sx_mk at *); (try unfold sx_ck at *); omega)))
        have z_14 : q_11.1 a0 14 = q.1 a0 14 := h2_q_11.I ha0 (show ¬ (h.1 a0 = 6 ∨ h.1 a0 = 8 ∨ h.1 a0 = 5 ∨ h.1 a0 = 2 ∨ h.1 a0 = 1 ∨ h.1 a0 = 4 ∨ a0 = a_10 ∧ h.1 a0 = 7 ∨ h.1 a0 = 300) from by omega) 14
        have y_15 : (q_11.1 a0 14).toInt = (q.1 a0 14).toInt := by rw [z_14]
        have z_16 : q_11.1 t0 1 = q.1 t0 1 := h2_q_11.I ht0 (show ¬ (h.1 t0 = 6 ∨ h.1 t0 = 8 ∨ h.1 t0 = 5 ∨ h.1 t0 = 2 ∨ h.1 t0 = 1 ∨ h.1 t0 = 4 ∨ t0 = a_10 ∧ h.1 t0 = 7 ∨ h.1 t0 = 300) from by omega) 1
        have y_17 : (q_11.1 t0 1).toInt = (q.1 t0 1).toInt := by rw [z_16]
        have z_18 : q_11.2.2.1 a0 0 = t0 := (h2_q_11.R ha0 (show ¬ ((h.1 a0 = 6 ∨ h.1 a0 = 8 ∨ h.1 a0 = 5 ∨ h.1 a0 = 2 ∨ h.1 a0 = 1 ∨ h.1 a0 = 4 ∨ a0 = a_10 ∧ h.1 a0 = 7 ∨ h.1 a0 = 300) ∧ (h.1 a0 = 8 ∨ h.1 a0 = 11)) from fun z9 => (show ¬ (h.1 a0 = 6 ∨ h.1 a0 = 8 ∨ h.1 a0 = 5 ∨ h.1 a0 = 2 ∨ h.1 a0 = 1 ∨ h.1 a0 = 4 ∨ a0 = a_10 ∧ h.1 a0 = 7 ∨ h.1 a0 = 300) from by omega) z9.1) 0).trans (et0)
        exact hret _ _ _ _ dX11_join_29 ⟨hV_q_11, hF_q_11, ⟨z_18, by omega, by omega⟩⟩
      · refine wa_iconst B (-1) dX11_join_21 (by decide) ?_
        exact hret _ _ _ _ dX11_join_22 ⟨hV, hF, ⟨et0, by have h9 : ((-1) : Int32).toInt = (-1) := rfl; omega, by have h9 : ((-1) : Int32).toInt = (-1) := rfl; omega⟩⟩
theorem iq_X11_match_X11 : ∀ w ∈ wsX110, w ∈ wsX11_match := fun _ h => List.mem_cons_of_mem _ (List.mem_append_left _ (List.mem_append_left _ (List.mem_append_left _ (List.mem_append_left _ (List.mem_append_left _ (List.mem_append_left _ (List.mem_append_left _ (List.mem_append_left _ (List.mem_append_left _ (List.mem_append_left _ (List.mem_append_right _ h)))))))))))
theorem iq_X11_match_X3 : ∀ w ∈ wsX30, w ∈ wsX11_match := fun _ h => List.mem_cons_of_mem _ (List.mem_append_left _ (List.mem_append_left _ (List.mem_append_left _ (List.mem_append_left _ (List.mem_append_left _ (List.mem_append_left _ (List.mem_append_left _ (List.mem_append_left _ (List.mem_append_left _ (List.mem_append_right _ h))))))))))
set_option maxHeartbeats 4000000 in
set_option maxRecDepth 100000 in
theorem k_X11_match (l : Launch) (dC : Nat → ClassId) (dI : Nat → Nat → Nat) (h : Sh) (L : List Nat) (hN : sx_nd L) (q : Sg) (hV : sx_V h L q) {a0 : Nat} (ha0 : a0 ∈ L) (ka0 : h.1 a0 = 11) {t0 : Nat} (et0 : q.2.2.1 a0 0 = t0)   : CMi l dC dI h L yX11_match wsX11_match ({ frames := 10, cells := 0, slots := 0, locals := 245 } : Room) q [.ref a0] (fun r q' => sx_V h L q' ∧ sx_fr h L (fun a => sx_ck (h.1 a)) q q' ∧ (q'.2.2.1 a0 0 = t0 ∧ (q'.1 t0 1).toInt = (q.1 t0 1).toInt ∧ (q'.1 a0 14).toInt = (q.1 a0 14).toInt)) := by
  refine cm_i (cc := cX11_match) (mL := 3) (own := RX11) hN (by decide) rfl rfl (Nat.le_of_ble_eq_true rfl) (fun Z B hret => ?_)
  have hF : sx_fr h L (fun a => sx_ck (h.1 a)) q q := sx_fr.rf
  obtain ⟨ht0, kt0, lt0⟩ : t0 ∈ L ∧ h.1 t0 = 7 ∧ h.2.1 t0 = 1 := by obtain ⟨r9, e9, z1, z2, z3⟩ := hV.refn (t := 7) (n := 1) ha0 ka0 0 rfl (by decide) rfl (by decide); rw [← et0, e9]; exact ⟨z1, z2, z3⟩
  show WA l dC dI h L ({ frames := 10, cells := 0, slots := 0, locals := 245 } : Room) 3 Z q 0 [(0, .ref a0)] []
  refine wa_iconst B 0 dX11_match_0 (by decide) ?_
  refine wa_istore_n B [(1, .int 0), (0, .ref a0)] dX11_match_1 rfl (by decide) rfl ?_
  have Lp_2_4 : ∀ (n : Nat) (v_1 : Int32) (q_2 : Sg), sx_V h L q_2 → sx_fr h L (fun a => sx_ck (h.1 a)) q q_2 → q_2.1 t0 1 = (q.1 t0 1) → q_2.1 a0 14 = (q.1 a0 14) → q_2.2.2.1 a0 0 = t0 → 0 ≤ v_1.toInt → ((q_2.1 a0 14).toInt - v_1.toInt : Int).toNat < n → WA l dC dI h L ({ frames := 10, cells := 0, slots := 0, locals := 245 } : Room) 3 Z q_2 2 [(1, .int v_1), (0, .ref a0)] [] := by
    intro n
    induction n with
    | zero =>
      intro v_1 q_2 hV_q_2 hF_q_2 p0_q_2 p1_q_2 p2_q_2 x_3 hn
      exact absurd hn (Nat.not_lt_zero _)
    | succ n ih_6 =>
      intro v_1 q_2 hV_q_2 hF_q_2 p0_q_2 p1_q_2 p2_q_2 x_3 hn
      have y_5 : (q_2.1 a0 14).toInt = (q.1 a0 14).toInt := by rw [p1_q_2]
      refine wa_iload_n B dX11_match_2 rfl 0 rfl ?_
      refine wa_aload_n B dX11_match_3 rfl 1 rfl ?_
      refine wa_getI B (C := RX11) (T := TX11) (N := 16) iq_X11_match_X11 ha0 ka0 (by decide) rfl 14 (by decide) (by decide) (by decide +kernel) rfl (by decide) (v := (q.1 a0 14)) p1_q_2 dX11_match_4 ?_
      have g_7 : (0 : Int) ≤ (q.1 a0 14).toInt ∧ (q.1 a0 14).toInt ≤ 12 := by rw [← p1_q_2]; exact hV_q_2.int ha0 ka0 14
      refine wa_icmp_ge B 58 dX11_match_7 (by decide) (fun (t_8 : (q.1 a0 14).toInt ≤ v_1.toInt) => ?_) (fun (t_8 : ¬ (q.1 a0 14).toInt ≤ v_1.toInt) => ?_)
      · refine wa_aload_n B dX11_match_58 rfl 1 rfl ?_
        obtain ⟨a_9, ea_9, ha_9, ka_9⟩ := hV_q_2.ref (t := 3) ha0 ka0 6 rfl (by decide)
        refine wa_getR B (C := RX11) (T := TX11) (N := 16) iq_X11_match_X11 ha0 ka0 (by decide) rfl 6 (by decide) (by decide) (by decide +kernel) rfl (fun _ _ _ => rfl) (v := a_9) ea_9 dX11_match_59 ?_
        refine wa_aload_n B dX11_match_62 rfl 1 rfl ?_
        refine wa_getI B (C := RX11) (T := TX11) (N := 16) iq_X11_match_X11 ha0 ka0 (by decide) rfl 14 (by decide) (by decide) (by decide +kernel) rfl (by decide) (v := (q.1 a0 14)) p1_q_2 dX11_match_63 ?_
        refine wa_callVv B (x := (RX3, TX3, 5)) (As := [.int (q.1 a0 14)]) (rest := []) (k_X3_pairUp l dC dI h L hN q_2 hV_q_2 (a0 := a_9) ha_9 ka_9 (q.1 a0 14)  (by first | assumption | omega | decide) (by first | assumption | omega | decide)) (cwV 1 B.1.2.2.2.2 gX11_match_X3_pairUp rfl rfl rfl (by decide +kernel) ⟨Nat.le_of_ble_eq_true rfl, Nat.le_of_ble_eq_true rfl⟩) ha_9 ka_9 (by decide) rfl rfl rfl (Nat.le_of_ble_eq_true rfl) dX11_match_66 (fun q_10 w_11 => ?_)
        obtain ⟨hV_q_10, h2_q_10⟩ := w_11
        have hF_q_10 : sx_fr h L (fun a => sx_ck (h.1 a)) q q_10 := hF_q_2.tr (h2_q_10.mono (fun a (z : a = a_9 ∧ h.1 a = 3) => (show sx_ck (h.1 a) from by (try unfold sx_mk at *); (try unfold sx_ck at *); omega)))
        refine wa_aload_n B dX11_match_69 rfl 1 rfl ?_
        have z_12 : q_10.2.2.1 a0 6 = a_9 := (h2_q_10.R ha0 (show ¬ ((a0 = a_9 ∧ h.1 a0 = 3) ∧ (h.1 a0 = 8 ∨ h.1 a0 = 11)) from fun z9 => (show ¬ (a0 = a_9 ∧ h.1 a0 = 3) from by omega) z9.1) 6).trans (ea_9)
        refine wa_getR B (C := RX11) (T := TX11) (N := 16) iq_X11_match_X11 ha0 ka0 (by decide) rfl 6 (by decide) (by decide) (by decide +kernel) rfl (fun _ _ _ => rfl) (v := a_9) z_12 dX11_match_70 ?_
        refine wa_getI B (C := RX3) (T := TX3) (N := 5) iq_X11_match_X3 ha_9 ka_9 (by decide) rfl 1 (by decide) (by decide) (by decide +kernel) rfl (by decide) (v := (q_10.1 a_9 1)) rfl dX11_match_73 ?_
        have z_13 : q_10.1 a0 14 = (q.1 a0 14) := (h2_q_10.I ha0 (show ¬ (a0 = a_9 ∧ h.1 a0 = 3) from by omega) 14).trans (p1_q_2)
        have y_14 : (q_10.1 a0 14).toInt = (q.1 a0 14).toInt := by rw [z_13]
        have z_15 : q_10.1 t0 1 = (q.1 t0 1) := (h2_q_10.I ht0 (show ¬ (t0 = a_9 ∧ h.1 t0 = 3) from by omega) 1).trans (p0_q_2)
        have y_16 : (q_10.1 t0 1).toInt = (q.1 t0 1).toInt := by rw [z_15]
        have z_17 : q_10.2.2.1 a0 0 = t0 := (h2_q_10.R ha0 (show ¬ ((a0 = a_9 ∧ h.1 a0 = 3) ∧ (h.1 a0 = 8 ∨ h.1 a0 = 11)) from fun z9 => (show ¬ (a0 = a_9 ∧ h.1 a0 = 3) from by omega) z9.1) 0).trans (p2_q_2)
        exact hret _ _ _ _ dX11_match_76 ⟨hV_q_10, hF_q_10, ⟨z_17, by omega, by omega⟩⟩
      · refine wa_iload_n B dX11_match_10 rfl 0 rfl ?_
        refine wa_iconst B 1 dX11_match_11 (by decide) ?_
        refine wa_iadd B dX11_match_12 (fun v_18 ev_18 => ?_)
        refine wa_istore_n B [(2, .int v_18), (1, .int v_1), (0, .ref a0)] dX11_match_13 rfl (by decide) rfl ?_
        have Lp_14_23 : ∀ (n : Nat) (v_19 : Int32) (q_20 : Sg), sx_V h L q_20 → sx_fr h L (fun a => sx_ck (h.1 a)) q q_20 → q_20.1 t0 1 = (q.1 t0 1) → q_20.1 a0 14 = (q.1 a0 14) → q_20.2.2.1 a0 0 = t0 → 0 ≤ v_19.toInt → v_1.toInt < (q_20.1 a0 14).toInt → ((q_20.1 a0 14).toInt - v_19.toInt : Int).toNat < n → WA l dC dI h L ({ frames := 10, cells := 0, slots := 0, locals := 245 } : Room) 3 Z q_20 14 [(2, .int v_19), (1, .int v_1), (0, .ref a0)] [] := by
          intro n
          induction n with
          | zero =>
            intro v_19 q_20 hV_q_20 hF_q_20 p0_q_20 p1_q_20 p2_q_20 x_21 x_22 hn
            exact absurd hn (Nat.not_lt_zero _)
          | succ n ih_25 =>
            intro v_19 q_20 hV_q_20 hF_q_20 p0_q_20 p1_q_20 p2_q_20 x_21 x_22 hn
            have y_24 : (q_20.1 a0 14).toInt = (q.1 a0 14).toInt := by rw [p1_q_20]
            refine wa_iload_n B dX11_match_14 rfl 0 rfl ?_
            refine wa_aload_n B dX11_match_15 rfl 2 rfl ?_
            refine wa_getI B (C := RX11) (T := TX11) (N := 16) iq_X11_match_X11 ha0 ka0 (by decide) rfl 14 (by decide) (by decide) (by decide +kernel) rfl (by decide) (v := (q.1 a0 14)) p1_q_20 dX11_match_16 ?_
            have g_26 : (0 : Int) ≤ (q.1 a0 14).toInt ∧ (q.1 a0 14).toInt ≤ 12 := by rw [← p1_q_20]; exact hV_q_20.int ha0 ka0 14
            refine wa_icmp_ge B 52 dX11_match_19 (by decide) (fun (t_27 : (q.1 a0 14).toInt ≤ v_19.toInt) => ?_) (fun (t_27 : ¬ (q.1 a0 14).toInt ≤ v_19.toInt) => ?_)
            · obtain ⟨v_28, ev_28⟩ : ∃ z : Int32, z = v_1 + 1 := ⟨_, rfl⟩
              refine wa_iinc B [(1, .int v_28), (2, .int v_19), (0, .ref a0)] v_28 dX11_match_52 1 rfl (by rw [ev_28]; rfl) (by decide) rfl ?_
              refine wa_goto B 2 dX11_match_55 (by decide) ?_
              have tv_28 : v_28.toInt = v_1.toInt + 1 := by have b0 := zx_bd v_1; rw [ev_28]; exact zx_add (show (-2147483648 : Int) ≤ v_1.toInt + 1 by omega) (show v_1.toInt + 1 < (2147483648 : Int) by omega)
              have y_29 : (q_20.1 a0 14).toInt = (q.1 a0 14).toInt := by rw [p1_q_20]
              refine WA.sub [0, 2] rfl ?_
              exact ih_6 v_28 q_20 hV_q_20 hF_q_20 p0_q_20 p1_q_20 p2_q_20 (show 0 ≤ v_28.toInt from by first | assumption | omega | decide) (show ((q_20.1 a0 14).toInt - v_28.toInt : Int).toNat < _ from by omega)
            · refine wa_aload_n B dX11_match_22 rfl 2 rfl ?_
              obtain ⟨a_30, ea_30, ha_30, ka_30⟩ := hV_q_20.ref (t := 3) ha0 ka0 6 rfl (by decide)
              refine wa_getR B (C := RX11) (T := TX11) (N := 16) iq_X11_match_X11 ha0 ka0 (by decide) rfl 6 (by decide) (by decide) (by decide +kernel) rfl (fun _ _ _ => rfl) (v := a_30) ea_30 dX11_match_23 ?_
              refine wa_iload_n B dX11_match_26 rfl 1 rfl ?_
              refine wa_iload_n B dX11_match_27 rfl 0 rfl ?_
              refine wa_aload_n B dX11_match_28 rfl 2 rfl ?_
              refine wa_iload_n B dX11_match_29 rfl 1 rfl ?_
              refine wa_iload_n B dX11_match_30 rfl 0 rfl ?_
              obtain ⟨a_31, ea_31, ha_31, ka_31, la_31⟩ := hV_q_20.refn (n := 3) (t := 7) ha0 ka0 2 rfl (by decide) rfl (by decide)
              have nt0_a_31 : ¬ t0 = a_31 := fun z9 => absurd (z9 ▸ lt0 : h.2.1 a_31 = 1) (by rw [la_31]; decide)
              refine wa_callVi B (x := (RX11, TX11, 16)) (As := [.int v_1, .int v_19]) (rest := [.int v_19, .int v_1, .ref a_30]) (k_X11_joined l dC dI h L hN q_20 hV_q_20 (a0 := a0) ha0 ka0 v_1 v_19 (s0 := a_31) ea_31  (by first | assumption | omega | decide) (by first | assumption | omega | decide) (by first | assumption | omega | decide) (by first | assumption | omega | decide)) (cwV 2 B.1.2.2.2.2 gX11_match_X11_joined rfl rfl rfl (by decide +kernel) ⟨Nat.le_of_ble_eq_true rfl, Nat.le_of_ble_eq_true rfl⟩) ha0 ka0 (by decide) rfl rfl rfl (Nat.le_of_ble_eq_true rfl) dX11_match_31 (fun r_33 q_32 w_34 => ?_)
              obtain ⟨hV_q_32, h2_q_32⟩ := w_34
              have hF_q_32 : sx_fr h L (fun a => sx_ck (h.1 a)) q q_32 := hF_q_20.tr (h2_q_32.mono (fun a (z : h.1 a = 6 ∨ h.1 a = 8 ∨ h.1 a = 5 ∨ h.1 a = 2 ∨ h.1 a = 1 ∨ h.1 a = 4 ∨ a = a_31 ∧ h.1 a = 7 ∨ h.1 a = 300) => (show sx_ck (h.1 a) from by (try unfold sx_mk at *); (try unfold sx_ck at *); omega)))
              refine wa_aload_n B dX11_match_34 rfl 2 rfl ?_
              refine wa_iload_n B dX11_match_35 rfl 0 rfl ?_
              refine wa_iload_n B dX11_match_36 rfl 1 rfl ?_
              have z_35 : q_32.2.2.1 a0 2 = a_31 := (h2_q_32.R ha0 (show ¬ ((h.1 a0 = 6 ∨ h.1 a0 = 8 ∨ h.1 a0 = 5 ∨ h.1 a0 = 2 ∨ h.1 a0 = 1 ∨ h.1 a0 = 4 ∨ a0 = a_31 ∧ h.1 a0 = 7 ∨ h.1 a0 = 300) ∧ (h.1 a0 = 8 ∨ h.1 a0 = 11)) from fun z9 => (show ¬ (h.1 a0 = 6 ∨ h.1 a0 = 8 ∨ h.1 a0 = 5 ∨ h.1 a0 = 2 ∨ h.1 a0 = 1 ∨ h.1 a0 = 4 ∨ a0 = a_31 ∧ h.1 a0 = 7 ∨ h.1 a0 = 300) from by omega) z9.1) 2).trans (ea_31)
              refine wa_callVi B (x := (RX11, TX11, 16)) (As := [.int v_19, .int v_1]) (rest := [.int r_33, .int v_19, .int v_1, .ref a_30]) (k_X11_joined l dC dI h L hN q_32 hV_q_32 (a0 := a0) ha0 ka0 v_19 v_1 (s0 := a_31) z_35  (by first | assumption | omega | decide) (by first | assumption | omega | decide) (by first | assumption | omega | decide) (by first | assumption | omega | decide)) (cwV 2 B.1.2.2.2.2 gX11_match_X11_joined rfl rfl rfl (by decide +kernel) ⟨Nat.le_of_ble_eq_true rfl, Nat.le_of_ble_eq_true rfl⟩) ha0 ka0 (by decide) rfl rfl rfl (Nat.le_of_ble_eq_true rfl) dX11_match_37 (fun r_37 q_36 w_38 => ?_)
              obtain ⟨hV_q_36, h2_q_36⟩ := w_38
              have hF_q_36 : sx_fr h L (fun a => sx_ck (h.1 a)) q q_36 := hF_q_32.tr (h2_q_36.mono (fun a (z : h.1 a = 6 ∨ h.1 a = 8 ∨ h.1 a = 5 ∨ h.1 a = 2 ∨ h.1 a = 1 ∨ h.1 a = 4 ∨ a = a_31 ∧ h.1 a = 7 ∨ h.1 a = 300) => (show sx_ck (h.1 a) from by (try unfold sx_mk at *); (try unfold sx_ck at *); omega)))
              refine wa_mmax B (by decide +kernel) (by decide +kernel) (by decide +kernel) (by decide +kernel) (Nat.le_of_ble_eq_true rfl) (Nat.le_of_ble_eq_true rfl) dX11_match_40 (fun v_39 ev_39 => ?_)
              have gv_39 : (v_39.toInt = r_33.toInt ∨ v_39.toInt = r_37.toInt) ∧ r_33.toInt ≤ v_39.toInt ∧ r_37.toInt ≤ v_39.toInt := by rw [ev_39]; exact zx_max
              refine wa_callVv B (x := (RX3, TX3, 5)) (As := [.int v_1, .int v_19, .int v_39]) (rest := []) (k_X3_tell l dC dI h L hN q_36 hV_q_36 (a0 := a_30) ha_30 ka_30 v_1 v_19 v_39  (by first | assumption | omega | decide) (by first | assumption | omega | decide) (by first | assumption | omega | decide) (by first | assumption | omega | decide)) (cwV 3 B.1.2.2.2.2 gX11_match_X3_tell rfl rfl rfl (by decide +kernel) ⟨Nat.le_of_ble_eq_true rfl, Nat.le_of_ble_eq_true rfl⟩) ha_30 ka_30 (by decide) rfl rfl rfl (Nat.le_of_ble_eq_true rfl) dX11_match_43 (fun q_40 w_41 => ?_)
              obtain ⟨hV_q_40, h2_q_40⟩ := w_41
              have hF_q_40 : sx_fr h L (fun a => sx_ck (h.1 a)) q q_40 := hF_q_36.tr (h2_q_40.mono (fun a (z : False) => z.elim))
              obtain ⟨v_42, ev_42⟩ : ∃ z : Int32, z = v_19 + 1 := ⟨_, rfl⟩
              refine wa_iinc B [(2, .int v_42), (1, .int v_1), (0, .ref a0)] v_42 dX11_match_46 0 rfl (by rw [ev_42]; rfl) (by decide) rfl ?_
              refine wa_goto B 14 dX11_match_49 (by decide) ?_
              have tv_42 : v_42.toInt = v_19.toInt + 1 := by have b0 := zx_bd v_19; rw [ev_42]; exact zx_add (show (-2147483648 : Int) ≤ v_19.toInt + 1 by omega) (show v_19.toInt + 1 < (2147483648 : Int) by omega)
              have z_43 : q_40.1 a0 14 = (q.1 a0 14) := (h2_q_40.I ha0 (show ¬ (False) from id) 14).trans ((h2_q_36.I ha0 (show ¬ (h.1 a0 = 6 ∨ h.1 a0 = 8 ∨ h.1 a0 = 5 ∨ h.1 a0 = 2 ∨ h.1 a0 = 1 ∨ h.1 a0 = 4 ∨ a0 = a_31 ∧ h.1 a0 = 7 ∨ h.1 a0 = 300) from by omega) 14).trans ((h2_q_32.I ha0 (show ¬ (h.1 a0 = 6 ∨ h.1 a0 = 8 ∨ h.1 a0 = 5 ∨ h.1 a0 = 2 ∨ h.1 a0 = 1 ∨ h.1 a0 = 4 ∨ a0 = a_31 ∧ h.1 a0 = 7 ∨ h.1 a0 = 300) from by omega) 14).trans (p1_q_20)))
              have y_44 : (q_40.1 a0 14).toInt = (q.1 a0 14).toInt := by rw [z_43]
              have z_45 : q_40.1 t0 1 = (q.1 t0 1) := (h2_q_40.I ht0 (show ¬ (False) from id) 1).trans ((h2_q_36.I ht0 (show ¬ (h.1 t0 = 6 ∨ h.1 t0 = 8 ∨ h.1 t0 = 5 ∨ h.1 t0 = 2 ∨ h.1 t0 = 1 ∨ h.1 t0 = 4 ∨ t0 = a_31 ∧ h.1 t0 = 7 ∨ h.1 t0 = 300) from by omega) 1).trans ((h2_q_32.I ht0 (show ¬ (h.1 t0 = 6 ∨ h.1 t0 = 8 ∨ h.1 t0 = 5 ∨ h.1 t0 = 2 ∨ h.1 t0 = 1 ∨ h.1 t0 = 4 ∨ t0 = a_31 ∧ h.1 t0 = 7 ∨ h.1 t0 = 300) from by omega) 1).trans (p0_q_20)))
              have z_46 : q_40.2.2.1 a0 0 = t0 := (h2_q_40.R ha0 (show ¬ ((False) ∧ (h.1 a0 = 8 ∨ h.1 a0 = 11)) from fun z9 => (show ¬ (False) from id) z9.1) 0).trans ((h2_q_36.R ha0 (show ¬ ((h.1 a0 = 6 ∨ h.1 a0 = 8 ∨ h.1 a0 = 5 ∨ h.1 a0 = 2 ∨ h.1 a0 = 1 ∨ h.1 a0 = 4 ∨ a0 = a_31 ∧ h.1 a0 = 7 ∨ h.1 a0 = 300) ∧ (h.1 a0 = 8 ∨ h.1 a0 = 11)) from fun z9 => (show ¬ (h.1 a0 = 6 ∨ h.1 a0 = 8 ∨ h.1 a0 = 5 ∨ h.1 a0 = 2 ∨ h.1 a0 = 1 ∨ h.1 a0 = 4 ∨ a0 = a_31 ∧ h.1 a0 = 7 ∨ h.1 a0 = 300) from by omega) z9.1) 0).trans ((h2_q_32.R ha0 (show ¬ ((h.1 a0 = 6 ∨ h.1 a0 = 8 ∨ h.1 a0 = 5 ∨ h.1 a0 = 2 ∨ h.1 a0 = 1 ∨ h.1 a0 = 4 ∨ a0 = a_31 ∧ h.1 a0 = 7 ∨ h.1 a0 = 300) ∧ (h.1 a0 = 8 ∨ h.1 a0 = 11)) from fun z9 => (show ¬ (h.1 a0 = 6 ∨ h.1 a0 = 8 ∨ h.1 a0 = 5 ∨ h.1 a0 = 2 ∨ h.1 a0 = 1 ∨ h.1 a0 = 4 ∨ a0 = a_31 ∧ h.1 a0 = 7 ∨ h.1 a0 = 300) from by omega) z9.1) 0).trans (p2_q_20)))
              exact ih_25 v_42 q_40 hV_q_40 hF_q_40 z_45 z_43 z_46 (show 0 ≤ v_42.toInt from by first | assumption | omega | decide) (show v_1.toInt < (q_40.1 a0 14).toInt from by first | assumption | omega | decide) (show ((q_40.1 a0 14).toInt - v_42.toInt : Int).toNat < _ from by omega)
        have tv_18 : v_18.toInt = v_1.toInt + 1 := by have b0 := zx_bd v_1; rw [ev_18]; exact zx_add (show (-2147483648 : Int) ≤ v_1.toInt + 1 by omega) (show v_1.toInt + 1 < (2147483648 : Int) by omega)
        have y_47 : (q_2.1 a0 14).toInt = (q.1 a0 14).toInt := by rw [p1_q_2]
        exact Lp_14_23 _ v_18 q_2 hV_q_2 hF_q_2 p0_q_2 p1_q_2 p2_q_2 (show 0 ≤ v_18.toInt from by first | assumption | omega | decide) (show v_1.toInt < (q_2.1 a0 14).toInt from by first | assumption | omega | decide) (Nat.lt_succ_self _)
  exact Lp_2_4 _ 0 q hV hF rfl rfl et0 (show 0 ≤ 0 from by first | assumption | omega | decide) (Nat.lt_succ_self _)
theorem iq_X11_matched_X11 : ∀ w ∈ wsX110, w ∈ wsX11_matched := fun _ h => List.mem_cons_of_mem _ (List.mem_append_left _ (List.mem_append_right _ h))
theorem iq_X11_matched_X3 : ∀ w ∈ wsX30, w ∈ wsX11_matched := fun _ h => List.mem_cons_of_mem _ (List.mem_append_right _ h)
set_option maxHeartbeats 4000000 in
set_option maxRecDepth 100000 in
theorem k_X11_matched (l : Launch) (dC : Nat → ClassId) (dI : Nat → Nat → Nat) (h : Sh) (L : List Nat) (hN : sx_nd L) (q : Sg) (hV : sx_V h L q) {a0 : Nat} (ha0 : a0 ∈ L) (ka0 : h.1 a0 = 11) (n1 : Int32)   : CMi l dC dI h L yX11_matched wsX11_matched ({ frames := 1, cells := 0, slots := 0, locals := 21 } : Room) q [.ref a0, .int n1] (fun r q' => q = q') := by
  refine cm_i (cc := cX11_matched) (mL := 2) (own := RX11) hN (by decide) rfl rfl (Nat.le_of_ble_eq_true rfl) (fun Z B hret => ?_)
  show WA l dC dI h L ({ frames := 1, cells := 0, slots := 0, locals := 21 } : Room) 2 Z q 0 [(0, .ref a0), (1, .int n1)] []
  refine wa_aload_n B dX11_matched_0 rfl 0 rfl ?_
  refine wa_iload_n B dX11_matched_1 rfl 1 rfl ?_
  refine wa_callVi B (x := (RX11, TX11, 16)) (As := [.int n1]) (rest := []) (k_X11_isFragment l dC dI h L hN q hV (a0 := a0) ha0 ka0 n1  ) (cwV 1 B.1.2.2.2.2 gX11_matched_X11_isFragment rfl rfl rfl (by decide +kernel) ⟨Nat.le_of_ble_eq_true rfl, Nat.le_of_ble_eq_true rfl⟩) ha0 ka0 (by decide) rfl rfl rfl (Nat.le_of_ble_eq_true rfl) dX11_matched_2 (fun r_2 q_1 w_3 => ?_)
  obtain ⟨ew_3, hw_3⟩ := w_3
  subst ew_3
  refine wa_if_eq B 20 dX11_matched_5 (by decide) (fun (t_4 : r_2.toInt = 0) => ?_) (fun (t_4 : ¬ r_2.toInt = 0) => ?_)
  · refine wa_iconst B (-1) dX11_matched_20 (by decide) ?_
    exact hret _ _ _ _ dX11_matched_21 rfl
  · refine wa_aload_n B dX11_matched_8 rfl 0 rfl ?_
    obtain ⟨a_5, ea_5, ha_5, ka_5⟩ := hV.ref (t := 3) ha0 ka0 6 rfl (by decide)
    refine wa_getR B (C := RX11) (T := TX11) (N := 16) iq_X11_matched_X11 ha0 ka0 (by decide) rfl 6 (by decide) (by decide) (by decide +kernel) rfl (fun _ _ _ => rfl) (v := a_5) ea_5 dX11_matched_9 ?_
    obtain ⟨a_6, ea_6, ha_6, ka_6, la_6⟩ := hV.refn (n := 12) (t := 100) ha_5 ka_5 0 rfl (by decide) rfl (by decide)
    refine wa_getR B (C := RX3) (T := TX3) (N := 5) iq_X11_matched_X3 ha_5 ka_5 (by decide) rfl 0 (by decide) (by decide) (by decide +kernel) rfl (fun _ _ _ => rfl) (v := a_6) ea_6 dX11_matched_12 ?_
    refine wa_iload_n B dX11_matched_15 rfl 1 rfl ?_
    refine wa_iaload B ha_6 ka_6 (by decide) (by decide) (show 0 ≤ n1.toInt by omega) (show n1.toInt < (h.2.1 a_6 : Int) by omega) (v := (q.2.2.2.1 a_6 (n1 : Int32).toNatClampNeg)) rfl dX11_matched_16 ?_
    refine wa_goto B 21 dX11_matched_17 (by decide) ?_
    exact hret _ _ _ _ dX11_matched_21 rfl
theorem iq_X11_count_X11 : ∀ w ∈ wsX110, w ∈ wsX11_count := fun _ h => List.mem_cons_of_mem _ (List.mem_append_left _ (List.mem_append_left _ (List.mem_append_left _ (List.mem_append_right _ h))))
theorem iq_X11_count_X3 : ∀ w ∈ wsX30, w ∈ wsX11_count := fun _ h => List.mem_cons_of_mem _ (List.mem_append_left _ (List.mem_append_right _ h))
theorem iq_X11_count_X7 : ∀ w ∈ wsX70, w ∈ wsX11_count := fun _ h => List.mem_cons_of_mem _ (List.mem_append_right _ h)
theorem iq_X11_count_X9 : ∀ w ∈ wsX90, w ∈ wsX11_count := fun _ h => List.mem_cons_of_mem _ (List.mem_append_left _ (List.mem_append_left _ (List.mem_append_right _ h)))
set_option maxHeartbeats 4000000 in
set_option maxRecDepth 100000 in
theorem k_X11_count (l : Launch) (dC : Nat → ClassId) (dI : Nat → Nat → Nat) (h : Sh) (L : List Nat) (hN : sx_nd L) (q : Sg) (hV : sx_V h L q) {a0 : Nat} (ha0 : a0 ∈ L) (ka0 : h.1 a0 = 11) (n1 : Int32)   : CMi l dC dI h L yX11_count wsX11_count ({ frames := 0, cells := 0, slots := 0, locals := 0 } : Room) q [.ref a0, .int n1] (fun r q' => q = q') := by
  refine cm_i (cc := cX11_count) (mL := 2) (own := RX11) hN (by decide) rfl rfl (Nat.le_of_ble_eq_true rfl) (fun Z B hret => ?_)
  show WA l dC dI h L ({ frames := 0, cells := 0, slots := 0, locals := 0 } : Room) 2 Z q 0 [(0, .ref a0), (1, .int n1)] []
  refine wa_iload_n B dX11_count_0 rfl 1 rfl ?_
  rcases (show (n1.toInt < 0 ∨ 5 < n1.toInt) ∨ n1.toInt = 0 ∨ n1.toInt = 1 ∨ n1.toInt = 2 ∨ n1.toInt = 3 ∨ n1.toInt = 4 ∨ n1.toInt = 5 by omega) with t_1 | t_1 | t_1 | t_1 | t_1 | t_1 | t_1
  · refine wa_tswOut B 82 dX11_count_1 (by first | omega | exact t_1) (by decide) ?_
    refine wa_iconst B (-1) dX11_count_82 (by decide) ?_
    exact hret _ _ _ _ dX11_count_83 rfl
  · refine wa_tswIn B 40 0 dX11_count_1 t_1 (by decide) (by decide) rfl (by decide) ?_
    refine wa_aload_n B dX11_count_40 rfl 0 rfl ?_
    obtain ⟨a_2, ea_2, ha_2, ka_2⟩ := hV.ref (t := 9) ha0 ka0 11 rfl (by decide)
    refine wa_getR B (C := RX11) (T := TX11) (N := 16) iq_X11_count_X11 ha0 ka0 (by decide) rfl 11 (by decide) (by decide) (by decide +kernel) rfl (fun _ _ _ => rfl) (v := a_2) ea_2 dX11_count_41 ?_
    refine wa_getI B (C := RX9) (T := TX9) (N := 7) iq_X11_count_X9 ha_2 ka_2 (by decide) rfl 6 (by decide) (by decide) (by decide +kernel) rfl (by decide) (v := (q.1 a_2 6)) rfl dX11_count_44 ?_
    have g_3 : (0 : Int) ≤ (q.1 a_2 6).toInt ∧ (q.1 a_2 6).toInt ≤ 3 := hV.int ha_2 ka_2 6
    exact hret _ _ _ _ dX11_count_47 rfl
  · refine wa_tswIn B 48 1 dX11_count_1 t_1 (by decide) (by decide) rfl (by decide) ?_
    refine wa_aload_n B dX11_count_48 rfl 0 rfl ?_
    refine wa_getI B (C := RX11) (T := TX11) (N := 16) iq_X11_count_X11 ha0 ka0 (by decide) rfl 13 (by decide) (by decide) (by decide +kernel) rfl (by decide) (v := (q.1 a0 13)) rfl dX11_count_49 ?_
    have g_4 : (0 : Int) ≤ (q.1 a0 13).toInt ∧ (q.1 a0 13).toInt ≤ 8 := hV.int ha0 ka0 13
    exact hret _ _ _ _ dX11_count_52 rfl
  · refine wa_tswIn B 53 2 dX11_count_1 t_1 (by decide) (by decide) rfl (by decide) ?_
    refine wa_aload_n B dX11_count_53 rfl 0 rfl ?_
    refine wa_getI B (C := RX11) (T := TX11) (N := 16) iq_X11_count_X11 ha0 ka0 (by decide) rfl 14 (by decide) (by decide) (by decide +kernel) rfl (by decide) (v := (q.1 a0 14)) rfl dX11_count_54 ?_
    have g_5 : (0 : Int) ≤ (q.1 a0 14).toInt ∧ (q.1 a0 14).toInt ≤ 12 := hV.int ha0 ka0 14
    exact hret _ _ _ _ dX11_count_57 rfl
  · refine wa_tswIn B 58 3 dX11_count_1 t_1 (by decide) (by decide) rfl (by decide) ?_
    refine wa_aload_n B dX11_count_58 rfl 0 rfl ?_
    obtain ⟨a_6, ea_6, ha_6, ka_6⟩ := hV.ref (t := 3) ha0 ka0 6 rfl (by decide)
    refine wa_getR B (C := RX11) (T := TX11) (N := 16) iq_X11_count_X11 ha0 ka0 (by decide) rfl 6 (by decide) (by decide) (by decide +kernel) rfl (fun _ _ _ => rfl) (v := a_6) ea_6 dX11_count_59 ?_
    refine wa_getI B (C := RX3) (T := TX3) (N := 5) iq_X11_count_X3 ha_6 ka_6 (by decide) rfl 2 (by decide) (by decide) (by decide +kernel) rfl (by decide) (v := (q.1 a_6 2)) rfl dX11_count_62 ?_
    exact hret _ _ _ _ dX11_count_65 rfl
  · refine wa_tswIn B 66 4 dX11_count_1 t_1 (by decide) (by decide) rfl (by decide) ?_
    refine wa_aload_n B dX11_count_66 rfl 0 rfl ?_
    obtain ⟨a_7, ea_7, ha_7, ka_7, la_7⟩ := hV.refn (n := 1) (t := 7) ha0 ka0 0 rfl (by decide) rfl (by decide)
    refine wa_getR B (C := RX11) (T := TX11) (N := 16) iq_X11_count_X11 ha0 ka0 (by decide) rfl 0 (by decide) (by decide) (by decide +kernel) rfl (fun _ _ _ => rfl) (v := a_7) ea_7 dX11_count_67 ?_
    refine wa_getI B (C := RX7) (T := TX7) (N := 2) iq_X11_count_X7 ha_7 ka_7 (by decide) rfl 1 (by decide) (by decide) (by decide +kernel) rfl (by decide) (v := (q.1 a_7 1)) rfl dX11_count_70 ?_
    obtain ⟨a_9, ea_9, ha_9, ka_9, la_9⟩ := hV.refn (n := 440) (t := 300) ha_7 ka_7 0 rfl (by decide) (by rw [la_7]; rfl) (by decide)
    have g_8 : (0 : Int) ≤ (q.1 a_7 1).toInt ∧ (q.1 a_7 1).toInt ≤ (h.2.1 a_9 : Int) := by have z9 := hV.int ha_7 ka_7 1; rw [ea_9] at z9; exact z9
    exact hret _ _ _ _ dX11_count_73 rfl
  · refine wa_tswIn B 74 5 dX11_count_1 t_1 (by decide) (by decide) rfl (by decide) ?_
    refine wa_aload_n B dX11_count_74 rfl 0 rfl ?_
    obtain ⟨a_10, ea_10, ha_10, ka_10, la_10⟩ := hV.refn (n := 2) (t := 7) ha0 ka0 1 rfl (by decide) rfl (by decide)
    refine wa_getR B (C := RX11) (T := TX11) (N := 16) iq_X11_count_X11 ha0 ka0 (by decide) rfl 1 (by decide) (by decide) (by decide +kernel) rfl (fun _ _ _ => rfl) (v := a_10) ea_10 dX11_count_75 ?_
    refine wa_getI B (C := RX7) (T := TX7) (N := 2) iq_X11_count_X7 ha_10 ka_10 (by decide) rfl 1 (by decide) (by decide) (by decide +kernel) rfl (by decide) (v := (q.1 a_10 1)) rfl dX11_count_78 ?_
    obtain ⟨a_12, ea_12, ha_12, ka_12, la_12⟩ := hV.refn (n := 59) (t := 300) ha_10 ka_10 0 rfl (by decide) (by rw [la_10]; rfl) (by decide)
    have g_11 : (0 : Int) ≤ (q.1 a_10 1).toInt ∧ (q.1 a_10 1).toInt ≤ (h.2.1 a_12 : Int) := by have z9 := hV.int ha_10 ka_10 1; rw [ea_12] at z9; exact z9
    exact hret _ _ _ _ dX11_count_81 rfl
