set_option maxHeartbeats 4000000 in
set_option maxRecDepth 100000 in
theorem k_X11_bound_c (l : Launch) (hlst : l.stackTraces = false) (dC : Nat → ClassId) (dI : Nat → Nat → Nat) (h : Sh) (L : List Nat) (hN : sx_nd L) (q : Sg) (hV : sx_V h L q) {a0 : Nat} (ha0 : a0 ∈ L) (ka0 : h.1 a0 = 11) (n1 : Int32) (n2 : Int32) (n3 : Int32) {t0 : Nat} (et0 : q.2.2.1 a0 0 = t0) {tb : Nat} (etb : q.2.2.1 t0 0 = tb) {fa : Nat} (efa : q.2.2.1 a0 9 = fa)    : CMx l dC dI h L yX11_bound wsX11_bound ({ frames := 10, cells := 1, slots := 6, locals := 243 } : Room) q [.ref a0, .int n1, .int n2, .int n3] (fun r q' => sx_V h L q' ∧ sx_fr h L (fun a => sx_c7 h a) q q' ∧ (q'.2.2.1 a0 0 = t0 ∧ (q'.1 t0 1).toInt = (q.1 t0 1).toInt ∧ (q'.1 a0 14).toInt = (q.1 a0 14).toInt ∧ q'.2.2.1 a0 9 = fa)) := by
  refine cm_x (cc := cX11_bound) (mL := 5) (is := 206) hlst hN (by decide) rfl rfl (Nat.le_of_ble_eq_true rfl) ⟨by decide, by decide, by decide, by decide⟩ (by decide +kernel) (by decide +kernel) (fun w hh => List.mem_cons_of_mem _ (List.mem_append_right _ hh)) (fun A U hZ => hZ.2.2.2.2.2.2.2.2.2.1) (fun Z B hret hthr => ?_)
  have hF : sx_fr h L (fun a => sx_c7 h a) q q := sx_fr.rf
  obtain ⟨ht0, kt0, lt0⟩ : t0 ∈ L ∧ h.1 t0 = 7 ∧ h.2.1 t0 = 1 := by obtain ⟨r9, e9, z1, z2, z3⟩ := hV.refn (t := 7) (n := 1) ha0 ka0 0 rfl (by decide) rfl (by decide); rw [← et0, e9]; exact ⟨z1, z2, z3⟩
  obtain ⟨htb, ktb, ltb⟩ : tb ∈ L ∧ h.1 tb = 300 ∧ h.2.1 tb = 440 := by obtain ⟨r9, e9, z1, z2, z3⟩ := hV.refn (t := 300) (n := 440) ht0 kt0 0 rfl (by decide) (by rw [lt0]; rfl) (by decide); rw [← etb, e9]; exact ⟨z1, z2, z3⟩
  obtain ⟨hfa, kfa, lfa⟩ : fa ∈ L ∧ h.1 fa = 403 ∧ h.2.1 fa = 12 := by obtain ⟨r9, e9, z1, z2, z3⟩ := hV.refn (t := 403) (n := 12) ha0 ka0 9 rfl (by decide) rfl (by decide); rw [← efa, e9]; exact ⟨z1, z2, z3⟩
  show WA l dC dI h L ({ frames := 10, cells := 1, slots := 6, locals := 243 } : Room) 5 Z q 0 [(0, .ref a0), (1, .int n1), (2, .int n2), (3, .int n3)] []
  refine wa_aload_n B dX11_bound_0 rfl 0 rfl ?_
  refine wa_iload_n B dX11_bound_1 rfl 1 rfl ?_
  refine wa_iload_n B dX11_bound_2 rfl 2 rfl ?_
  refine wa_callVi B (x := (RX11, TX11, 16)) (As := [.int n1, .int n2]) (rest := []) (k_X11_isLine l dC dI h L hN q hV (a0 := a0) ha0 ka0 n1 n2  ) (cwV 2 B.1.2.2.2.2 gX11_bound_X11_isLine rfl rfl rfl (by decide +kernel) ⟨Nat.le_of_ble_eq_true rfl, Nat.le_of_ble_eq_true rfl⟩) ha0 ka0 (by decide) rfl rfl rfl (Nat.le_of_ble_eq_true rfl) dX11_bound_3 (fun r_2 q_1 w_3 => ?_)
  obtain ⟨ew_3, hw_3⟩ := w_3
  subst ew_3
  refine wa_if_ne B 19 dX11_bound_6 (by decide) (fun (t_4 : ¬ r_2.toInt = 0) => ?_) (fun (t_4 : r_2.toInt = 0) => ?_)
  · refine wa_aload_n B dX11_bound_19 rfl 0 rfl ?_
    refine wa_iload_n B dX11_bound_20 rfl 1 rfl ?_
    refine wa_callVr B (x := (RX11, TX11, 16)) (As := [.int n1]) (rest := []) (k_X11_solved l dC dI h L hN q hV (a0 := a0) ha0 ka0 n1  (by first | assumption | omega | decide) (by first | assumption | omega | decide)) (cwV 1 B.1.2.2.2.2 gX11_bound_X11_solved rfl rfl rfl (by decide +kernel) ⟨Nat.le_of_ble_eq_true rfl, Nat.le_of_ble_eq_true rfl⟩) ha0 ka0 (by decide) rfl rfl rfl (Nat.le_of_ble_eq_true rfl) dX11_bound_21 (fun r_6 q_5 w_7 => ?_)
    obtain ⟨hV_q_5, h2_q_5, hw_7⟩ := w_7
    have hF_q_5 : sx_fr h L (fun a => sx_c7 h a) q q_5 := hF.tr (h2_q_5.mono (fun a (z : h.1 a = 4 ∨ h.1 a = 5 ∨ h.1 a = 1 ∨ h.1 a = 2) => (show sx_c7 h a from by (try unfold sx_mk at *); (try unfold sx_ck at *); (try unfold sx_c7 at *); omega)))
    obtain ⟨hr_6, kr_6⟩ := hw_7
    refine wa_astore B [(4, .ref r_6), (0, .ref a0), (1, .int n1), (2, .int n2), (3, .int n3)] dX11_bound_24 (by decide) rfl ?_
    refine wa_aload B dX11_bound_26 0 rfl ?_
    refine wa_getI B (C := RX5) (T := TX5) (N := 7) iq_X11_bound_X5 hr_6 kr_6 (by decide) rfl 5 (by decide) (by decide) (by decide +kernel) rfl (by decide) (v := (q_5.1 r_6 5)) rfl dX11_bound_28 ?_
    refine wa_if_ne B 38 dX11_bound_31 (by decide) (fun (t_8 : ¬ (q_5.1 r_6 5).toInt = 0) => ?_) (fun (t_8 : (q_5.1 r_6 5).toInt = 0) => ?_)
    · refine wa_aload B dX11_bound_38 0 rfl ?_
      obtain ⟨a_9, ea_9, ha_9, ka_9, la_9⟩ := hV_q_5.refn (n := 12) (t := 401) hr_6 kr_6 0 rfl (by decide) rfl (by decide)
      refine wa_getR B (C := RX5) (T := TX5) (N := 7) iq_X11_bound_X5 hr_6 kr_6 (by decide) rfl 0 (by decide) (by decide) (by decide +kernel) rfl (fun _ _ _ => rfl) (v := a_9) ea_9 dX11_bound_40 ?_
      refine wa_iload_n B dX11_bound_43 rfl 3 rfl ?_
      obtain ⟨a_10, ea_10, ha_10, ka_10⟩ := hV_q_5.elem (t := 2) ha_9 ka_9 (by decide) rfl (zx_ix (i := n2) (show 0 ≤ n2.toInt by omega) (show n2.toInt < (h.2.1 a_9 : Int) by omega))
      refine wa_aaload B (t0 := 4) ha_9 ka_9 (by decide) rfl (show 0 ≤ n2.toInt by omega) (show n2.toInt < (h.2.1 a_9 : Int) by omega) (v := a_10) ea_10 dX11_bound_44 ?_
      refine wa_iload_n B dX11_bound_45 rfl 4 rfl ?_
      refine wa_callVi B (x := (RX2, TX2, 6)) (As := [.int n3]) (rest := []) (k_X2_valueBound l dC dI h L hN q_5 hV_q_5 (a0 := a_10) ha_10 ka_10 n3  ) (cwV 1 B.1.2.2.2.2 gX11_bound_X2_valueBound rfl rfl rfl (by decide +kernel) ⟨Nat.le_of_ble_eq_true rfl, Nat.le_of_ble_eq_true rfl⟩) ha_10 ka_10 (by decide) rfl rfl rfl (Nat.le_of_ble_eq_true rfl) dX11_bound_46 (fun r_12 q_11 w_13 => ?_)
      subst w_13
      have z_14 : q_5.1 a0 14 = q.1 a0 14 := h2_q_5.I ha0 (show ¬ (h.1 a0 = 4 ∨ h.1 a0 = 5 ∨ h.1 a0 = 1 ∨ h.1 a0 = 2) from by omega) 14
      have y_15 : (q_5.1 a0 14).toInt = (q.1 a0 14).toInt := by rw [z_14]
      have z_16 : q_5.1 t0 1 = q.1 t0 1 := h2_q_5.I ht0 (show ¬ (h.1 t0 = 4 ∨ h.1 t0 = 5 ∨ h.1 t0 = 1 ∨ h.1 t0 = 2) from by omega) 1
      have y_17 : (q_5.1 t0 1).toInt = (q.1 t0 1).toInt := by rw [z_16]
      have z_18 : q_5.2.2.1 a0 0 = t0 := (h2_q_5.R ha0 (show ¬ ((h.1 a0 = 4 ∨ h.1 a0 = 5 ∨ h.1 a0 = 1 ∨ h.1 a0 = 2) ∧ (h.1 a0 = 8 ∨ h.1 a0 = 11)) from fun z9 => (show ¬ (h.1 a0 = 4 ∨ h.1 a0 = 5 ∨ h.1 a0 = 1 ∨ h.1 a0 = 2) from by omega) z9.1) 0).trans (et0)
      have z_19 : q_5.2.2.1 a0 9 = fa := (h2_q_5.R ha0 (show ¬ ((h.1 a0 = 4 ∨ h.1 a0 = 5 ∨ h.1 a0 = 1 ∨ h.1 a0 = 2) ∧ (h.1 a0 = 8 ∨ h.1 a0 = 11)) from fun z9 => (show ¬ (h.1 a0 = 4 ∨ h.1 a0 = 5 ∨ h.1 a0 = 1 ∨ h.1 a0 = 2) from by omega) z9.1) 9).trans (efa)
      exact hret _ _ _ _ dX11_bound_49 ⟨hV_q_5, hF_q_5, ⟨z_18, by omega, by omega, z_19⟩⟩
    · refine wa_iconst B (-1) dX11_bound_34 (by decide) ?_
      refine wa_goto B 49 dX11_bound_35 (by decide) ?_
      have z_20 : q_5.1 a0 14 = q.1 a0 14 := h2_q_5.I ha0 (show ¬ (h.1 a0 = 4 ∨ h.1 a0 = 5 ∨ h.1 a0 = 1 ∨ h.1 a0 = 2) from by omega) 14
      have y_21 : (q_5.1 a0 14).toInt = (q.1 a0 14).toInt := by rw [z_20]
      have z_22 : q_5.1 t0 1 = q.1 t0 1 := h2_q_5.I ht0 (show ¬ (h.1 t0 = 4 ∨ h.1 t0 = 5 ∨ h.1 t0 = 1 ∨ h.1 t0 = 2) from by omega) 1
      have y_23 : (q_5.1 t0 1).toInt = (q.1 t0 1).toInt := by rw [z_22]
      have z_24 : q_5.2.2.1 a0 0 = t0 := (h2_q_5.R ha0 (show ¬ ((h.1 a0 = 4 ∨ h.1 a0 = 5 ∨ h.1 a0 = 1 ∨ h.1 a0 = 2) ∧ (h.1 a0 = 8 ∨ h.1 a0 = 11)) from fun z9 => (show ¬ (h.1 a0 = 4 ∨ h.1 a0 = 5 ∨ h.1 a0 = 1 ∨ h.1 a0 = 2) from by omega) z9.1) 0).trans (et0)
      have z_25 : q_5.2.2.1 a0 9 = fa := (h2_q_5.R ha0 (show ¬ ((h.1 a0 = 4 ∨ h.1 a0 = 5 ∨ h.1 a0 = 1 ∨ h.1 a0 = 2) ∧ (h.1 a0 = 8 ∨ h.1 a0 = 11)) from fun z9 => (show ¬ (h.1 a0 = 4 ∨ h.1 a0 = 5 ∨ h.1 a0 = 1 ∨ h.1 a0 = 2) from by omega) z9.1) 9).trans (efa)
      exact hret _ _ _ _ dX11_bound_49 ⟨hV_q_5, hF_q_5, ⟨z_24, by have h9 : ((-1) : Int32).toInt = (-1) := rfl; omega, by have h9 : ((-1) : Int32).toInt = (-1) := rfl; omega, z_25⟩⟩
  · exact hthr _ _ dX11_bound_9 dX11_bound_12 dX11_bound_13 dX11_bound_15 dX11_bound_18
set_option maxHeartbeats 4000000 in
set_option maxRecDepth 100000 in
theorem k_X11_digit_c (l : Launch) (hlst : l.stackTraces = false) (dC : Nat → ClassId) (dI : Nat → Nat → Nat) (h : Sh) (L : List Nat) (hN : sx_nd L) (q : Sg) (hV : sx_V h L q) {a0 : Nat} (ha0 : a0 ∈ L) (ka0 : h.1 a0 = 11) (n1 : Int32) (n2 : Int32) {t0 : Nat} (et0 : q.2.2.1 a0 0 = t0) {tb : Nat} (etb : q.2.2.1 t0 0 = tb) {fa : Nat} (efa : q.2.2.1 a0 9 = fa)    : CMx l dC dI h L yX11_digit wsX11_digit ({ frames := 10, cells := 1, slots := 6, locals := 243 } : Room) q [.ref a0, .int n1, .int n2] (fun r q' => sx_V h L q' ∧ sx_fr h L (fun a => sx_c7 h a) q q' ∧ (q'.2.2.1 a0 0 = t0 ∧ (q'.1 t0 1).toInt = (q.1 t0 1).toInt ∧ (q'.1 a0 14).toInt = (q.1 a0 14).toInt ∧ q'.2.2.1 a0 9 = fa)) := by
  refine cm_x (cc := cX11_digit) (mL := 4) (is := 213) hlst hN (by decide) rfl rfl (Nat.le_of_ble_eq_true rfl) ⟨by decide, by decide, by decide, by decide⟩ (by decide +kernel) (by decide +kernel) (fun w hh => List.mem_cons_of_mem _ (List.mem_append_right _ hh)) (fun A U hZ => hZ.2.2.2.2.2.2.2.2.2.2) (fun Z B hret hthr => ?_)
  have hF : sx_fr h L (fun a => sx_c7 h a) q q := sx_fr.rf
  obtain ⟨ht0, kt0, lt0⟩ : t0 ∈ L ∧ h.1 t0 = 7 ∧ h.2.1 t0 = 1 := by obtain ⟨r9, e9, z1, z2, z3⟩ := hV.refn (t := 7) (n := 1) ha0 ka0 0 rfl (by decide) rfl (by decide); rw [← et0, e9]; exact ⟨z1, z2, z3⟩
  obtain ⟨htb, ktb, ltb⟩ : tb ∈ L ∧ h.1 tb = 300 ∧ h.2.1 tb = 440 := by obtain ⟨r9, e9, z1, z2, z3⟩ := hV.refn (t := 300) (n := 440) ht0 kt0 0 rfl (by decide) (by rw [lt0]; rfl) (by decide); rw [← etb, e9]; exact ⟨z1, z2, z3⟩
  obtain ⟨hfa, kfa, lfa⟩ : fa ∈ L ∧ h.1 fa = 403 ∧ h.2.1 fa = 12 := by obtain ⟨r9, e9, z1, z2, z3⟩ := hV.refn (t := 403) (n := 12) ha0 ka0 9 rfl (by decide) rfl (by decide); rw [← efa, e9]; exact ⟨z1, z2, z3⟩
  show WA l dC dI h L ({ frames := 10, cells := 1, slots := 6, locals := 243 } : Room) 4 Z q 0 [(0, .ref a0), (1, .int n1), (2, .int n2)] []
  refine wa_aload_n B dX11_digit_0 rfl 0 rfl ?_
  refine wa_iload_n B dX11_digit_1 rfl 1 rfl ?_
  refine wa_callVi B (x := (RX11, TX11, 16)) (As := [.int n1]) (rest := []) (k_X11_isTablet l dC dI h L hN q hV (a0 := a0) ha0 ka0 n1  ) (cwV 1 B.1.2.2.2.2 gX11_digit_X11_isTablet rfl rfl rfl (by decide +kernel) ⟨Nat.le_of_ble_eq_true rfl, Nat.le_of_ble_eq_true rfl⟩) ha0 ka0 (by decide) rfl rfl rfl (Nat.le_of_ble_eq_true rfl) dX11_digit_2 (fun r_2 q_1 w_3 => ?_)
  obtain ⟨ew_3, hw_3⟩ := w_3
  subst ew_3
  refine wa_if_eq B 25 dX11_digit_5 (by decide) (fun (t_4 : r_2.toInt = 0) => ?_) (fun (t_4 : ¬ r_2.toInt = 0) => ?_)
  · exact hthr _ _ dX11_digit_25 dX11_digit_28 dX11_digit_29 dX11_digit_31 dX11_digit_34
  · refine wa_iload_n B dX11_digit_8 rfl 2 rfl ?_
    refine wa_if_lt B 25 dX11_digit_9 (by decide) (fun (t_5 : n2.toInt < 0) => ?_) (fun (t_5 : ¬ n2.toInt < 0) => ?_)
    · exact hthr _ _ dX11_digit_25 dX11_digit_28 dX11_digit_29 dX11_digit_31 dX11_digit_34
    · refine wa_iload_n B dX11_digit_12 rfl 2 rfl ?_
      refine wa_aload_n B dX11_digit_13 rfl 0 rfl ?_
      obtain ⟨a_6, ea_6, ha_6, ka_6, la_6⟩ := hV.refn (n := 8) (t := 400) ha0 ka0 7 rfl (by decide) rfl (by decide)
      refine wa_getR B (C := RX11) (T := TX11) (N := 16) iq_X11_digit_X11 ha0 ka0 (by decide) rfl 7 (by decide) (by decide) (by decide +kernel) rfl (fun _ _ _ => rfl) (v := a_6) ea_6 dX11_digit_14 ?_
      refine wa_iload_n B dX11_digit_17 rfl 1 rfl ?_
      obtain ⟨a_7, ea_7, ha_7, ka_7⟩ := hV.elem (t := 5) ha_6 ka_6 (by decide) rfl (zx_ix (i := n1) (show 0 ≤ n1.toInt by omega) (show n1.toInt < (h.2.1 a_6 : Int) by omega))
      refine wa_aaload B (t0 := 3) ha_6 ka_6 (by decide) rfl (show 0 ≤ n1.toInt by omega) (show n1.toInt < (h.2.1 a_6 : Int) by omega) (v := a_7) ea_7 dX11_digit_18 ?_
      refine wa_getI B (C := RX5) (T := TX5) (N := 7) iq_X11_digit_X5 ha_7 ka_7 (by decide) rfl 3 (by decide) (by decide) (by decide +kernel) rfl (by decide) (v := (q.1 a_7 3)) rfl dX11_digit_19 ?_
      have g_8 : (0 : Int) ≤ (q.1 a_7 3).toInt ∧ (q.1 a_7 3).toInt ≤ 4 := hV.int ha_7 ka_7 3
      refine wa_icmp_lt B 35 dX11_digit_22 (by decide) (fun (t_9 : n2.toInt < (q.1 a_7 3).toInt) => ?_) (fun (t_9 : ¬ n2.toInt < (q.1 a_7 3).toInt) => ?_)
      · refine wa_aload_n B dX11_digit_35 rfl 0 rfl ?_
        refine wa_iload_n B dX11_digit_36 rfl 1 rfl ?_
        refine wa_callVr B (x := (RX11, TX11, 16)) (As := [.int n1]) (rest := []) (k_X11_solved l dC dI h L hN q hV (a0 := a0) ha0 ka0 n1  (by first | assumption | omega | decide) (by first | assumption | omega | decide)) (cwV 1 B.1.2.2.2.2 gX11_digit_X11_solved rfl rfl rfl (by decide +kernel) ⟨Nat.le_of_ble_eq_true rfl, Nat.le_of_ble_eq_true rfl⟩) ha0 ka0 (by decide) rfl rfl rfl (Nat.le_of_ble_eq_true rfl) dX11_digit_37 (fun r_11 q_10 w_12 => ?_)
        obtain ⟨hV_q_10, h2_q_10, hw_12⟩ := w_12
        have hF_q_10 : sx_fr h L (fun a => sx_c7 h a) q q_10 := hF.tr (h2_q_10.mono (fun a (z : h.1 a = 4 ∨ h.1 a = 5 ∨ h.1 a = 1 ∨ h.1 a = 2) => (show sx_c7 h a from by (try unfold sx_mk at *); (try unfold sx_ck at *); (try unfold sx_c7 at *); omega)))
        obtain ⟨hr_11, kr_11⟩ := hw_12
        refine wa_astore_n B [(3, .ref r_11), (0, .ref a0), (1, .int n1), (2, .int n2)] dX11_digit_40 rfl (by decide) rfl ?_
        refine wa_aload_n B dX11_digit_41 rfl 0 rfl ?_
        refine wa_getI B (C := RX5) (T := TX5) (N := 7) iq_X11_digit_X5 hr_11 kr_11 (by decide) rfl 5 (by decide) (by decide) (by decide +kernel) rfl (by decide) (v := (q_10.1 r_11 5)) rfl dX11_digit_42 ?_
        refine wa_if_ne B 52 dX11_digit_45 (by decide) (fun (t_13 : ¬ (q_10.1 r_11 5).toInt = 0) => ?_) (fun (t_13 : (q_10.1 r_11 5).toInt = 0) => ?_)
        · refine wa_aload_n B dX11_digit_52 rfl 0 rfl ?_
          obtain ⟨a_14, ea_14, ha_14, ka_14, la_14⟩ := hV_q_10.refn (n := 4) (t := 402) hr_11 kr_11 1 rfl (by decide) rfl (by decide)
          refine wa_getR B (C := RX5) (T := TX5) (N := 7) iq_X11_digit_X5 hr_11 kr_11 (by decide) rfl 1 (by decide) (by decide) (by decide +kernel) rfl (fun _ _ _ => rfl) (v := a_14) ea_14 dX11_digit_53 ?_
          refine wa_iload_n B dX11_digit_56 rfl 3 rfl ?_
          obtain ⟨a_15, ea_15, ha_15, ka_15⟩ := hV_q_10.elem (t := 1) ha_14 ka_14 (by decide) rfl (zx_ix (i := n2) (show 0 ≤ n2.toInt by omega) (show n2.toInt < (h.2.1 a_14 : Int) by omega))
          refine wa_aaload B (t0 := 5) ha_14 ka_14 (by decide) rfl (show 0 ≤ n2.toInt by omega) (show n2.toInt < (h.2.1 a_14 : Int) by omega) (v := a_15) ea_15 dX11_digit_57 ?_
          refine wa_getI B (C := RX1) (T := TX1) (N := 7) iq_X11_digit_X1 ha_15 ka_15 (by decide) rfl 6 (by decide) (by decide) (by decide +kernel) rfl (by decide) (v := (q_10.1 a_15 6)) rfl dX11_digit_58 ?_
          have z_16 : q_10.1 a0 14 = q.1 a0 14 := h2_q_10.I ha0 (show ¬ (h.1 a0 = 4 ∨ h.1 a0 = 5 ∨ h.1 a0 = 1 ∨ h.1 a0 = 2) from by omega) 14
          have y_17 : (q_10.1 a0 14).toInt = (q.1 a0 14).toInt := by rw [z_16]
          have z_18 : q_10.1 t0 1 = q.1 t0 1 := h2_q_10.I ht0 (show ¬ (h.1 t0 = 4 ∨ h.1 t0 = 5 ∨ h.1 t0 = 1 ∨ h.1 t0 = 2) from by omega) 1
          have y_19 : (q_10.1 t0 1).toInt = (q.1 t0 1).toInt := by rw [z_18]
          have z_20 : q_10.2.2.1 a0 0 = t0 := (h2_q_10.R ha0 (show ¬ ((h.1 a0 = 4 ∨ h.1 a0 = 5 ∨ h.1 a0 = 1 ∨ h.1 a0 = 2) ∧ (h.1 a0 = 8 ∨ h.1 a0 = 11)) from fun z9 => (show ¬ (h.1 a0 = 4 ∨ h.1 a0 = 5 ∨ h.1 a0 = 1 ∨ h.1 a0 = 2) from by omega) z9.1) 0).trans (et0)
          have z_21 : q_10.2.2.1 a0 9 = fa := (h2_q_10.R ha0 (show ¬ ((h.1 a0 = 4 ∨ h.1 a0 = 5 ∨ h.1 a0 = 1 ∨ h.1 a0 = 2) ∧ (h.1 a0 = 8 ∨ h.1 a0 = 11)) from fun z9 => (show ¬ (h.1 a0 = 4 ∨ h.1 a0 = 5 ∨ h.1 a0 = 1 ∨ h.1 a0 = 2) from by omega) z9.1) 9).trans (efa)
          exact hret _ _ _ _ dX11_digit_61 ⟨hV_q_10, hF_q_10, ⟨z_20, by omega, by omega, z_21⟩⟩
        · refine wa_iconst B (-1) dX11_digit_48 (by decide) ?_
          refine wa_goto B 61 dX11_digit_49 (by decide) ?_
          have z_22 : q_10.1 a0 14 = q.1 a0 14 := h2_q_10.I ha0 (show ¬ (h.1 a0 = 4 ∨ h.1 a0 = 5 ∨ h.1 a0 = 1 ∨ h.1 a0 = 2) from by omega) 14
          have y_23 : (q_10.1 a0 14).toInt = (q.1 a0 14).toInt := by rw [z_22]
          have z_24 : q_10.1 t0 1 = q.1 t0 1 := h2_q_10.I ht0 (show ¬ (h.1 t0 = 4 ∨ h.1 t0 = 5 ∨ h.1 t0 = 1 ∨ h.1 t0 = 2) from by omega) 1
          have y_25 : (q_10.1 t0 1).toInt = (q.1 t0 1).toInt := by rw [z_24]
          have z_26 : q_10.2.2.1 a0 0 = t0 := (h2_q_10.R ha0 (show ¬ ((h.1 a0 = 4 ∨ h.1 a0 = 5 ∨ h.1 a0 = 1 ∨ h.1 a0 = 2) ∧ (h.1 a0 = 8 ∨ h.1 a0 = 11)) from fun z9 => (show ¬ (h.1 a0 = 4 ∨ h.1 a0 = 5 ∨ h.1 a0 = 1 ∨ h.1 a0 = 2) from by omega) z9.1) 0).trans (et0)
          have z_27 : q_10.2.2.1 a0 9 = fa := (h2_q_10.R ha0 (show ¬ ((h.1 a0 = 4 ∨ h.1 a0 = 5 ∨ h.1 a0 = 1 ∨ h.1 a0 = 2) ∧ (h.1 a0 = 8 ∨ h.1 a0 = 11)) from fun z9 => (show ¬ (h.1 a0 = 4 ∨ h.1 a0 = 5 ∨ h.1 a0 = 1 ∨ h.1 a0 = 2) from by omega) z9.1) 9).trans (efa)
          exact hret _ _ _ _ dX11_digit_61 ⟨hV_q_10, hF_q_10, ⟨z_26, by have h9 : ((-1) : Int32).toInt = (-1) := rfl; omega, by have h9 : ((-1) : Int32).toInt = (-1) := rfl; omega, z_27⟩⟩
      · exact hthr _ _ dX11_digit_25 dX11_digit_28 dX11_digit_29 dX11_digit_31 dX11_digit_34
