theorem iq_X5_addLine_X5 : ∀ w ∈ wsX50, w ∈ wsX5_addLine := fun _ h => List.mem_cons_of_mem _ (List.mem_append_left _ (List.mem_append_right _ h))
set_option maxHeartbeats 4000000 in
set_option maxRecDepth 100000 in
theorem k_X5_addLine (l : Launch) (dC : Nat → ClassId) (dI : Nat → Nat → Nat) (h : Sh) (L : List Nat) (hN : sx_nd L) (q : Sg) (hV : sx_V h L q) {a0 : Nat} (ha0 : a0 ∈ L) (ka0 : h.1 a0 = 5) (n1 : Int32)   : CMv l dC dI h L yX5_addLine wsX5_addLine ({ frames := 1, cells := 0, slots := 0, locals := 21 } : Room) q [.ref a0, .int n1] (fun q' => sx_V h L q' ∧ sx_fr h L (fun a => a = a0 ∧ h.1 a = 5 ∨ h.1 a = 2) q q') := by
  refine cm_v (cc := cX5_addLine) (mL := 2) (own := RX5) hN (by decide) rfl rfl (Nat.le_of_ble_eq_true rfl) (fun Z B hret => ?_)
  have hF : sx_fr h L (fun a => a = a0 ∧ h.1 a = 5 ∨ h.1 a = 2) q q := sx_fr.rf
  show WA l dC dI h L ({ frames := 1, cells := 0, slots := 0, locals := 21 } : Room) 2 Z q 0 [(0, .ref a0), (1, .int n1)] []
  refine wa_aload_n B dX5_addLine_0 rfl 0 rfl ?_
  refine wa_callVi B (x := (RX5, TX5, 7)) (As := []) (rest := []) (k_X5_isFull l dC dI h L hN q hV (a0 := a0) ha0 ka0  ) (cwV 0 B.1.2.2.2.2 gX5_addLine_X5_isFull rfl rfl rfl (by decide +kernel) ⟨Nat.le_of_ble_eq_true rfl, Nat.le_of_ble_eq_true rfl⟩) ha0 ka0 (by decide) rfl rfl rfl (Nat.le_of_ble_eq_true rfl) dX5_addLine_1 (fun r_2 q_1 w_3 => ?_)
  obtain ⟨ew_3, hw_3⟩ := w_3
  subst ew_3
  refine wa_if_ne B 30 dX5_addLine_4 (by decide) (fun (t_4 : ¬ r_2.toInt = 0) => ?_) (fun (t_4 : r_2.toInt = 0) => ?_)
  · exact hret _ _ _ dX5_addLine_30 ⟨hV, hF⟩
  · refine wa_aload_n B dX5_addLine_7 rfl 0 rfl ?_
    obtain ⟨a_5, ea_5, ha_5, ka_5, la_5⟩ := hV.refn (n := 12) (t := 401) ha0 ka0 0 rfl (by decide) rfl (by decide)
    refine wa_getR B (C := RX5) (T := TX5) (N := 7) iq_X5_addLine_X5 ha0 ka0 (by decide) rfl 0 (by decide) (by decide) (by decide +kernel) rfl (fun _ _ _ => rfl) (v := a_5) ea_5 dX5_addLine_8 ?_
    refine wa_aload_n B dX5_addLine_11 rfl 0 rfl ?_
    refine wa_getI B (C := RX5) (T := TX5) (N := 7) iq_X5_addLine_X5 ha0 ka0 (by decide) rfl 2 (by decide) (by decide) (by decide +kernel) rfl (by decide) (v := (q.1 a0 2)) rfl dX5_addLine_12 ?_
    have g_6 : (0 : Int) ≤ (q.1 a0 2).toInt ∧ (q.1 a0 2).toInt ≤ 12 := hV.int ha0 ka0 2
    obtain ⟨a_7, ea_7, ha_7, ka_7⟩ := hV.elem (t := 2) ha_5 ka_5 (by decide) rfl (zx_ix (i := (q.1 a0 2)) (show 0 ≤ (q.1 a0 2).toInt by omega) (show (q.1 a0 2).toInt < (h.2.1 a_5 : Int) by omega))
    refine wa_aaload B (t0 := 4) ha_5 ka_5 (by decide) rfl (show 0 ≤ (q.1 a0 2).toInt by omega) (show (q.1 a0 2).toInt < (h.2.1 a_5 : Int) by omega) (v := a_7) ea_7 dX5_addLine_15 ?_
    refine wa_iload_n B dX5_addLine_16 rfl 1 rfl ?_
    refine wa_callVv B (x := (RX2, TX2, 6)) (As := [.int n1]) (rest := []) (k_X2_begin l dC dI h L hN q hV (a0 := a_7) ha_7 ka_7 n1  ) (cwV 1 B.1.2.2.2.2 gX5_addLine_X2_begin rfl rfl rfl (by decide +kernel) ⟨Nat.le_of_ble_eq_true rfl, Nat.le_of_ble_eq_true rfl⟩) ha_7 ka_7 (by decide) rfl rfl rfl (Nat.le_of_ble_eq_true rfl) dX5_addLine_17 (fun q_8 w_9 => ?_)
    obtain ⟨hV_q_8, h2_q_8⟩ := w_9
    have hF_q_8 : sx_fr h L (fun a => a = a0 ∧ h.1 a = 5 ∨ h.1 a = 2) q q_8 := hF.tr (h2_q_8.mono (fun a (z : a = a_7 ∧ h.1 a = 2) => (show a = a0 ∧ h.1 a = 5 ∨ h.1 a = 2 from by omega)))
    refine wa_aload_n B dX5_addLine_20 rfl 0 rfl ?_
    refine wa_dup B dX5_addLine_21 rfl ?_
    have z_10 : q_8.1 a0 2 = q.1 a0 2 := h2_q_8.I ha0 (show ¬ (a0 = a_7 ∧ h.1 a0 = 2) from by omega) 2
    refine wa_getI B (C := RX5) (T := TX5) (N := 7) iq_X5_addLine_X5 ha0 ka0 (by decide) rfl 2 (by decide) (by decide) (by decide +kernel) rfl (by decide) (v := (q.1 a0 2)) z_10 dX5_addLine_22 ?_
    refine wa_iconst B 1 dX5_addLine_25 (by decide) ?_
    refine wa_iadd B dX5_addLine_26 (fun v_11 ev_11 => ?_)
    have tv_11 : v_11.toInt = (q.1 a0 2).toInt + 1 := by have b0 := zx_bd (q.1 a0 2); rw [ev_11]; exact zx_add (show (-2147483648 : Int) ≤ (q.1 a0 2).toInt + 1 by omega) (show (q.1 a0 2).toInt + 1 < (2147483648 : Int) by omega)
    refine wa_putI B (C := RX5) (T := TX5) (N := 7) iq_X5_addLine_X5 ha0 ka0 (by decide) rfl 2 (by decide) (by decide) (by decide +kernel) rfl (by decide) (v := v_11) (ty := .int) tyX5 tyX5_ok nmX5 rfl (by decide +kernel) rfl rfl dX5_addLine_27 (fun q_12 eq_12 => ?_)
    have hV_q_12 : sx_V h L q_12 := by rw [eq_12]; exact hV_q_8.pI ka0 (show sx_in v_11 (0) 12 from ⟨by omega, by omega⟩)
    have hF_q_12 : sx_fr h L (fun a => a = a0 ∧ h.1 a = 5 ∨ h.1 a = 2) q q_12 := hF_q_8.tr (by rw [eq_12]; exact sx_fr.pI (show a0 = a0 ∧ h.1 a0 = 5 ∨ h.1 a0 = 2 from by omega))
    have z_13 : q_12.1 a0 2 = v_11 := by rw [eq_12]; exact sg_pI_e
    exact hret _ _ _ dX5_addLine_30 ⟨hV_q_12, hF_q_12⟩
theorem iq_X5_addKnown_X2 : ∀ w ∈ wsX20, w ∈ wsX5_addKnown := fun _ h => List.mem_cons_of_mem _ (List.mem_append_right _ h)
theorem iq_X5_addKnown_X5 : ∀ w ∈ wsX50, w ∈ wsX5_addKnown := fun _ h => List.mem_cons_of_mem _ (List.mem_append_left _ (List.mem_append_right _ h))
set_option maxHeartbeats 4000000 in
set_option maxRecDepth 100000 in
theorem k_X5_addKnown (l : Launch) (dC : Nat → ClassId) (dI : Nat → Nat → Nat) (h : Sh) (L : List Nat) (hN : sx_nd L) (q : Sg) (hV : sx_V h L q) {a0 : Nat} (ha0 : a0 ∈ L) (ka0 : h.1 a0 = 5) (n1 : Int32) (n2 : Int32)   : CMv l dC dI h L yX5_addKnown wsX5_addKnown ({ frames := 0, cells := 0, slots := 0, locals := 0 } : Room) q [.ref a0, .int n1, .int n2] (fun q' => sx_V h L q' ∧ sx_fr h L (fun a => h.1 a = 2) q q') := by
  refine cm_v (cc := cX5_addKnown) (mL := 4) (own := RX5) hN (by decide) rfl rfl (Nat.le_of_ble_eq_true rfl) (fun Z B hret => ?_)
  have hF : sx_fr h L (fun a => h.1 a = 2) q q := sx_fr.rf
  show WA l dC dI h L ({ frames := 0, cells := 0, slots := 0, locals := 0 } : Room) 4 Z q 0 [(0, .ref a0), (1, .int n1), (2, .int n2)] []
  refine wa_aload_n B dX5_addKnown_0 rfl 0 rfl ?_
  refine wa_getI B (C := RX5) (T := TX5) (N := 7) iq_X5_addKnown_X5 ha0 ka0 (by decide) rfl 2 (by decide) (by decide) (by decide +kernel) rfl (by decide) (v := (q.1 a0 2)) rfl dX5_addKnown_1 ?_
  have g_1 : (0 : Int) ≤ (q.1 a0 2).toInt ∧ (q.1 a0 2).toInt ≤ 12 := hV.int ha0 ka0 2
  refine wa_iconst B 1 dX5_addKnown_4 (by decide) ?_
  refine wa_isub B dX5_addKnown_5 (fun v_2 ev_2 => ?_)
  refine wa_istore_n B [(3, .int v_2), (0, .ref a0), (1, .int n1), (2, .int n2)] dX5_addKnown_6 rfl (by decide) rfl ?_
  refine wa_iload_n B dX5_addKnown_7 rfl 0 rfl ?_
  refine wa_if_lt B 36 dX5_addKnown_8 (by decide) (fun (t_3 : v_2.toInt < 0) => ?_) (fun (t_3 : ¬ v_2.toInt < 0) => ?_)
  · exact hret _ _ _ dX5_addKnown_36 ⟨hV, hF⟩
  · refine wa_aload_n B dX5_addKnown_11 rfl 1 rfl ?_
    obtain ⟨a_4, ea_4, ha_4, ka_4, la_4⟩ := hV.refn (n := 12) (t := 401) ha0 ka0 0 rfl (by decide) rfl (by decide)
    refine wa_getR B (C := RX5) (T := TX5) (N := 7) iq_X5_addKnown_X5 ha0 ka0 (by decide) rfl 0 (by decide) (by decide) (by decide +kernel) rfl (fun _ _ _ => rfl) (v := a_4) ea_4 dX5_addKnown_12 ?_
    refine wa_iload_n B dX5_addKnown_15 rfl 0 rfl ?_
    have tv_2 : v_2.toInt = (q.1 a0 2).toInt - 1 := by have b0 := zx_bd (q.1 a0 2); rw [ev_2]; exact zx_sub (show (-2147483648 : Int) ≤ (q.1 a0 2).toInt - 1 by omega) (show (q.1 a0 2).toInt - 1 < (2147483648 : Int) by omega)
    obtain ⟨a_5, ea_5, ha_5, ka_5⟩ := hV.elem (t := 2) ha_4 ka_4 (by decide) rfl (zx_ix (i := v_2) (show 0 ≤ v_2.toInt by omega) (show v_2.toInt < (h.2.1 a_4 : Int) by omega))
    refine wa_aaload B (t0 := 4) ha_4 ka_4 (by decide) rfl (show 0 ≤ v_2.toInt by omega) (show v_2.toInt < (h.2.1 a_4 : Int) by omega) (v := a_5) ea_5 dX5_addKnown_16 ?_
    refine wa_iload_n B dX5_addKnown_17 rfl 2 rfl ?_
    refine wa_putI B (C := RX2) (T := TX2) (N := 6) iq_X5_addKnown_X2 ha_5 ka_5 (by decide) rfl 1 (by decide) (by decide) (by decide +kernel) rfl (by decide) (v := n1) (ty := .int) tyX2 tyX2_ok nmX2 rfl (by decide +kernel) rfl rfl dX5_addKnown_18 (fun q_6 eq_6 => ?_)
    have hV_q_6 : sx_V h L q_6 := by rw [eq_6]; exact hV.pI ka_5 trivial
    have hF_q_6 : sx_fr h L (fun a => h.1 a = 2) q q_6 := hF.tr (by rw [eq_6]; exact sx_fr.pI (show h.1 a_5 = 2 from by omega))
    have z_7 : q_6.1 a_5 1 = n1 := by rw [eq_6]; exact sg_pI_e
    refine wa_aload_n B dX5_addKnown_21 rfl 1 rfl ?_
    have z_8 : q_6.2.2.1 a0 0 = a_4 := ((show q_6.2.2.1 a0 0 = q.2.2.1 a0 0 from by rw [eq_6]; rfl)).trans (ea_4)
    refine wa_getR B (C := RX5) (T := TX5) (N := 7) iq_X5_addKnown_X5 ha0 ka0 (by decide) rfl 0 (by decide) (by decide) (by decide +kernel) rfl (fun _ _ _ => rfl) (v := a_4) z_8 dX5_addKnown_22 ?_
    refine wa_iload_n B dX5_addKnown_25 rfl 0 rfl ?_
    refine wa_aaload B (t0 := 4) ha_4 ka_4 (by decide) rfl (show 0 ≤ v_2.toInt by omega) (show v_2.toInt < (h.2.1 a_4 : Int) by omega) (v := a_5) ea_5 dX5_addKnown_26 ?_
    refine wa_dup B dX5_addKnown_27 rfl ?_
    refine wa_getI B (C := RX2) (T := TX2) (N := 6) iq_X5_addKnown_X2 ha_5 ka_5 (by decide) rfl 3 (by decide) (by decide) (by decide +kernel) rfl (by decide) (v := (q_6.1 a_5 3)) rfl dX5_addKnown_28 ?_
    refine wa_iload_n B dX5_addKnown_31 rfl 3 rfl ?_
    refine wa_iadd B dX5_addKnown_32 (fun v_9 ev_9 => ?_)
    refine wa_putI B (C := RX2) (T := TX2) (N := 6) iq_X5_addKnown_X2 ha_5 ka_5 (by decide) rfl 3 (by decide) (by decide) (by decide +kernel) rfl (by decide) (v := v_9) (ty := .int) tyX2 tyX2_ok nmX2 rfl (by decide +kernel) rfl rfl dX5_addKnown_33 (fun q_10 eq_10 => ?_)
    have hV_q_10 : sx_V h L q_10 := by rw [eq_10]; exact hV_q_6.pI ka_5 trivial
    have hF_q_10 : sx_fr h L (fun a => h.1 a = 2) q q_10 := hF_q_6.tr (by rw [eq_10]; exact sx_fr.pI (show h.1 a_5 = 2 from by omega))
    have z_11 : q_10.1 a_5 3 = v_9 := by rw [eq_10]; exact sg_pI_e
    exact hret _ _ _ dX5_addKnown_36 ⟨hV_q_10, hF_q_10⟩
theorem iq_X5_addHole_X1 : ∀ w ∈ wsX10, w ∈ wsX5_addHole := fun _ h => List.mem_cons_of_mem _ (List.mem_append_left _ (List.mem_append_right _ h))
theorem iq_X5_addHole_X2 : ∀ w ∈ wsX20, w ∈ wsX5_addHole := fun _ h => List.mem_cons_of_mem _ (List.mem_append_right _ h)
theorem iq_X5_addHole_X5 : ∀ w ∈ wsX50, w ∈ wsX5_addHole := fun _ h => List.mem_cons_of_mem _ (List.mem_append_left _ (List.mem_append_left _ (List.mem_append_right _ h)))
set_option maxHeartbeats 4000000 in
set_option maxRecDepth 100000 in
theorem k_X5_addHole (l : Launch) (dC : Nat → ClassId) (dI : Nat → Nat → Nat) (h : Sh) (L : List Nat) (hN : sx_nd L) (q : Sg) (hV : sx_V h L q) {a0 : Nat} (ha0 : a0 ∈ L) (ka0 : h.1 a0 = 5) (n1 : Int32) (n2 : Int32)   : CMr l dC dI h L yX5_addHole wsX5_addHole ({ frames := 0, cells := 0, slots := 0, locals := 0 } : Room) q [.ref a0, .int n1, .int n2] (fun r q' => sx_V h L q' ∧ sx_fr h L (fun a => a = a0 ∧ h.1 a = 5 ∨ h.1 a = 1 ∨ h.1 a = 2) q q' ∧ (r ∈ L ∧ h.1 r = 1)) := by
  refine cm_r (cc := cX5_addHole) (mL := 5) (own := RX5) hN (by decide) rfl rfl (Nat.le_of_ble_eq_true rfl) (fun Z B hret => ?_)
  have hF : sx_fr h L (fun a => a = a0 ∧ h.1 a = 5 ∨ h.1 a = 1 ∨ h.1 a = 2) q q := sx_fr.rf
  show WA l dC dI h L ({ frames := 0, cells := 0, slots := 0, locals := 0 } : Room) 5 Z q 0 [(0, .ref a0), (1, .int n1), (2, .int n2)] []
  refine wa_aload_n B dX5_addHole_0 rfl 0 rfl ?_
  obtain ⟨a_1, ea_1, ha_1, ka_1, la_1⟩ := hV.refn (n := 4) (t := 402) ha0 ka0 1 rfl (by decide) rfl (by decide)
  refine wa_getR B (C := RX5) (T := TX5) (N := 7) iq_X5_addHole_X5 ha0 ka0 (by decide) rfl 1 (by decide) (by decide) (by decide +kernel) rfl (fun _ _ _ => rfl) (v := a_1) ea_1 dX5_addHole_1 ?_
  refine wa_aload_n B dX5_addHole_4 rfl 0 rfl ?_
  refine wa_getI B (C := RX5) (T := TX5) (N := 7) iq_X5_addHole_X5 ha0 ka0 (by decide) rfl 3 (by decide) (by decide) (by decide +kernel) rfl (by decide) (v := (q.1 a0 3)) rfl dX5_addHole_5 ?_
  have g_2 : (0 : Int) ≤ (q.1 a0 3).toInt ∧ (q.1 a0 3).toInt ≤ 4 := hV.int ha0 ka0 3
  refine wa_iconst B 4 dX5_addHole_8 (by decide) ?_
  refine wa_icmp_ge B 19 dX5_addHole_9 (by decide) (fun (t_3 : 4 ≤ (q.1 a0 3).toInt) => ?_) (fun (t_3 : ¬ 4 ≤ (q.1 a0 3).toInt) => ?_)
  · refine wa_iconst B 3 dX5_addHole_19 (by decide) ?_
    obtain ⟨a_4, ea_4, ha_4, ka_4⟩ := hV.elem (t := 1) ha_1 ka_1 (by decide) rfl (zx_ix (i := 3) (show (0 : Int) ≤ _ by decide) (show (3 : Int) < (h.2.1 a_1 : Int) by omega))
    refine wa_aaload B (t0 := 5) ha_1 ka_1 (by decide) rfl (show (0 : Int) ≤ _ by decide) (show (3 : Int) < (h.2.1 a_1 : Int) by omega) (v := a_4) ea_4 dX5_addHole_20 ?_
    refine wa_astore_n B [(3, .ref a_4), (0, .ref a0), (1, .int n1), (2, .int n2)] dX5_addHole_21 rfl (by decide) rfl ?_
    refine wa_aload_n B dX5_addHole_22 rfl 1 rfl ?_
    refine wa_getI B (C := RX5) (T := TX5) (N := 7) iq_X5_addHole_X5 ha0 ka0 (by decide) rfl 2 (by decide) (by decide) (by decide +kernel) rfl (by decide) (v := (q.1 a0 2)) rfl dX5_addHole_23 ?_
    have g_5 : (0 : Int) ≤ (q.1 a0 2).toInt ∧ (q.1 a0 2).toInt ≤ 12 := hV.int ha0 ka0 2
    refine wa_iconst B 1 dX5_addHole_26 (by decide) ?_
    refine wa_isub B dX5_addHole_27 (fun v_6 ev_6 => ?_)
    refine wa_istore B [(4, .int v_6), (3, .ref a_4), (0, .ref a0), (1, .int n1), (2, .int n2)] dX5_addHole_28 (by decide) rfl ?_
    refine wa_iload B dX5_addHole_30 0 rfl ?_
    refine wa_if_lt B 93 dX5_addHole_32 (by decide) (fun (t_7 : v_6.toInt < 0) => ?_) (fun (t_7 : ¬ v_6.toInt < 0) => ?_)
    · refine wa_aload_n B dX5_addHole_93 rfl 1 rfl ?_
      exact hret _ _ _ _ dX5_addHole_94 ⟨hV, hF, ⟨ha_4, ka_4⟩⟩
    · refine wa_aload_n B dX5_addHole_35 rfl 2 rfl ?_
      refine wa_getI B (C := RX5) (T := TX5) (N := 7) iq_X5_addHole_X5 ha0 ka0 (by decide) rfl 3 (by decide) (by decide) (by decide +kernel) rfl (by decide) (v := (q.1 a0 3)) rfl dX5_addHole_36 ?_
      refine wa_iconst B 4 dX5_addHole_39 (by decide) ?_
      refine wa_icmp_ge B 93 dX5_addHole_40 (by decide) (fun (t_8 : 4 ≤ (q.1 a0 3).toInt) => ?_) (fun (t_8 : ¬ 4 ≤ (q.1 a0 3).toInt) => ?_)
      · refine wa_aload_n B dX5_addHole_93 rfl 1 rfl ?_
        exact hret _ _ _ _ dX5_addHole_94 ⟨hV, hF, ⟨ha_4, ka_4⟩⟩
      · refine wa_aload_n B dX5_addHole_43 rfl 1 rfl ?_
        refine wa_iload B dX5_addHole_44 0 rfl ?_
        have tv_6 : v_6.toInt = (q.1 a0 2).toInt - 1 := by have b0 := zx_bd (q.1 a0 2); rw [ev_6]; exact zx_sub (show (-2147483648 : Int) ≤ (q.1 a0 2).toInt - 1 by omega) (show (q.1 a0 2).toInt - 1 < (2147483648 : Int) by omega)
        refine wa_putI B (C := RX1) (T := TX1) (N := 7) iq_X5_addHole_X1 ha_4 ka_4 (by decide) rfl 0 (by decide) (by decide) (by decide +kernel) rfl (by decide) (v := v_6) (ty := .int) tyX1 tyX1_ok nmX1 rfl (by decide +kernel) rfl rfl dX5_addHole_46 (fun q_9 eq_9 => ?_)
        have hV_q_9 : sx_V h L q_9 := by rw [eq_9]; exact hV.pI ka_4 (show sx_in v_6 (0) 11 from ⟨by omega, by omega⟩)
        have hF_q_9 : sx_fr h L (fun a => a = a0 ∧ h.1 a = 5 ∨ h.1 a = 1 ∨ h.1 a = 2) q q_9 := hF.tr (by rw [eq_9]; exact sx_fr.pI (show a_4 = a0 ∧ h.1 a_4 = 5 ∨ h.1 a_4 = 1 ∨ h.1 a_4 = 2 from by omega))
        have z_10 : q_9.1 a_4 0 = v_6 := by rw [eq_9]; exact sg_pI_e
        refine wa_aload_n B dX5_addHole_49 rfl 1 rfl ?_
        refine wa_iload_n B dX5_addHole_50 rfl 3 rfl ?_
        refine wa_putI B (C := RX1) (T := TX1) (N := 7) iq_X5_addHole_X1 ha_4 ka_4 (by decide) rfl 1 (by decide) (by decide) (by decide +kernel) rfl (by decide) (v := n1) (ty := .int) tyX1 tyX1_ok nmX1 rfl (by decide +kernel) rfl rfl dX5_addHole_51 (fun q_11 eq_11 => ?_)
        have hV_q_11 : sx_V h L q_11 := by rw [eq_11]; exact hV_q_9.pI ka_4 trivial
        have hF_q_11 : sx_fr h L (fun a => a = a0 ∧ h.1 a = 5 ∨ h.1 a = 1 ∨ h.1 a = 2) q q_11 := hF_q_9.tr (by rw [eq_11]; exact sx_fr.pI (show a_4 = a0 ∧ h.1 a_4 = 5 ∨ h.1 a_4 = 1 ∨ h.1 a_4 = 2 from by omega))
        have z_12 : q_11.1 a_4 1 = n1 := by rw [eq_11]; exact sg_pI_e
        refine wa_aload_n B dX5_addHole_54 rfl 1 rfl ?_
        refine wa_iload_n B dX5_addHole_55 rfl 3 rfl ?_
        refine wa_iload_n B dX5_addHole_56 rfl 4 rfl ?_
        refine wa_imul B dX5_addHole_57 (fun v_13 ev_13 => ?_)
        refine wa_putI B (C := RX1) (T := TX1) (N := 7) iq_X5_addHole_X1 ha_4 ka_4 (by decide) rfl 2 (by decide) (by decide) (by decide +kernel) rfl (by decide) (v := v_13) (ty := .int) tyX1 tyX1_ok nmX1 rfl (by decide +kernel) rfl rfl dX5_addHole_58 (fun q_14 eq_14 => ?_)
        have hV_q_14 : sx_V h L q_14 := by rw [eq_14]; exact hV_q_11.pI ka_4 trivial
        have hF_q_14 : sx_fr h L (fun a => a = a0 ∧ h.1 a = 5 ∨ h.1 a = 1 ∨ h.1 a = 2) q q_14 := hF_q_11.tr (by rw [eq_14]; exact sx_fr.pI (show a_4 = a0 ∧ h.1 a_4 = 5 ∨ h.1 a_4 = 1 ∨ h.1 a_4 = 2 from by omega))
        have z_15 : q_14.1 a_4 2 = v_13 := by rw [eq_14]; exact sg_pI_e
        refine wa_aload_n B dX5_addHole_61 rfl 1 rfl ?_
        refine wa_bipush B (-2) dX5_addHole_62 (by decide) ?_
        refine wa_putI B (C := RX1) (T := TX1) (N := 7) iq_X5_addHole_X1 ha_4 ka_4 (by decide) rfl 6 (by decide) (by decide) (by decide +kernel) rfl (by decide) (v := (-2)) (ty := .int) tyX1 tyX1_ok nmX1 rfl (by decide +kernel) rfl rfl dX5_addHole_64 (fun q_16 eq_16 => ?_)
        have hV_q_16 : sx_V h L q_16 := by rw [eq_16]; exact hV_q_14.pI ka_4 trivial
        have hF_q_16 : sx_fr h L (fun a => a = a0 ∧ h.1 a = 5 ∨ h.1 a = 1 ∨ h.1 a = 2) q q_16 := hF_q_14.tr (by rw [eq_16]; exact sx_fr.pI (show a_4 = a0 ∧ h.1 a_4 = 5 ∨ h.1 a_4 = 1 ∨ h.1 a_4 = 2 from by omega))
        have z_17 : q_16.1 a_4 6 = (-2) := by rw [eq_16]; exact sg_pI_e
        refine wa_aload_n B dX5_addHole_67 rfl 2 rfl ?_
        obtain ⟨a_18, ea_18, ha_18, ka_18, la_18⟩ := hV_q_16.refn (n := 12) (t := 401) ha0 ka0 0 rfl (by decide) rfl (by decide)
        refine wa_getR B (C := RX5) (T := TX5) (N := 7) iq_X5_addHole_X5 ha0 ka0 (by decide) rfl 0 (by decide) (by decide) (by decide +kernel) rfl (fun _ _ _ => rfl) (v := a_18) ea_18 dX5_addHole_68 ?_
        refine wa_iload B dX5_addHole_71 0 rfl ?_
        obtain ⟨a_19, ea_19, ha_19, ka_19⟩ := hV_q_16.elem (t := 2) ha_18 ka_18 (by decide) rfl (zx_ix (i := v_6) (show 0 ≤ v_6.toInt by omega) (show v_6.toInt < (h.2.1 a_18 : Int) by omega))
        refine wa_aaload B (t0 := 4) ha_18 ka_18 (by decide) rfl (show 0 ≤ v_6.toInt by omega) (show v_6.toInt < (h.2.1 a_18 : Int) by omega) (v := a_19) ea_19 dX5_addHole_73 ?_
        refine wa_dup B dX5_addHole_74 rfl ?_
        refine wa_getI B (C := RX2) (T := TX2) (N := 6) iq_X5_addHole_X2 ha_19 ka_19 (by decide) rfl 2 (by decide) (by decide) (by decide +kernel) rfl (by decide) (v := (q_16.1 a_19 2)) rfl dX5_addHole_75 ?_
        refine wa_iconst B 1 dX5_addHole_78 (by decide) ?_
        refine wa_iadd B dX5_addHole_79 (fun v_20 ev_20 => ?_)
        refine wa_putI B (C := RX2) (T := TX2) (N := 6) iq_X5_addHole_X2 ha_19 ka_19 (by decide) rfl 2 (by decide) (by decide) (by decide +kernel) rfl (by decide) (v := v_20) (ty := .int) tyX2 tyX2_ok nmX2 rfl (by decide +kernel) rfl rfl dX5_addHole_80 (fun q_21 eq_21 => ?_)
        have hV_q_21 : sx_V h L q_21 := by rw [eq_21]; exact hV_q_16.pI ka_19 trivial
        have hF_q_21 : sx_fr h L (fun a => a = a0 ∧ h.1 a = 5 ∨ h.1 a = 1 ∨ h.1 a = 2) q q_21 := hF_q_16.tr (by rw [eq_21]; exact sx_fr.pI (show a_19 = a0 ∧ h.1 a_19 = 5 ∨ h.1 a_19 = 1 ∨ h.1 a_19 = 2 from by omega))
        have z_22 : q_21.1 a_19 2 = v_20 := by rw [eq_21]; exact sg_pI_e
        refine wa_aload_n B dX5_addHole_83 rfl 2 rfl ?_
        refine wa_dup B dX5_addHole_84 rfl ?_
        have z_23 : q_21.1 a0 3 = q.1 a0 3 := ((show q_21.1 a0 3 = q_16.1 a0 3 from by rw [eq_21]; exact sg_pI_k (by decide))).trans (((show q_16.1 a0 3 = q_14.1 a0 3 from by rw [eq_16]; exact sg_pI_k (by decide))).trans (((show q_14.1 a0 3 = q_11.1 a0 3 from by rw [eq_14]; exact sg_pI_k (by decide))).trans (((show q_11.1 a0 3 = q_9.1 a0 3 from by rw [eq_11]; exact sg_pI_k (by decide))).trans ((show q_9.1 a0 3 = q.1 a0 3 from by rw [eq_9]; exact sg_pI_k (by decide))))))
        refine wa_getI B (C := RX5) (T := TX5) (N := 7) iq_X5_addHole_X5 ha0 ka0 (by decide) rfl 3 (by decide) (by decide) (by decide +kernel) rfl (by decide) (v := (q.1 a0 3)) z_23 dX5_addHole_85 ?_
        refine wa_iconst B 1 dX5_addHole_88 (by decide) ?_
        refine wa_iadd B dX5_addHole_89 (fun v_24 ev_24 => ?_)
        have tv_24 : v_24.toInt = (q.1 a0 3).toInt + 1 := by have b0 := zx_bd (q.1 a0 3); rw [ev_24]; exact zx_add (show (-2147483648 : Int) ≤ (q.1 a0 3).toInt + 1 by omega) (show (q.1 a0 3).toInt + 1 < (2147483648 : Int) by omega)
        refine wa_putI B (C := RX5) (T := TX5) (N := 7) iq_X5_addHole_X5 ha0 ka0 (by decide) rfl 3 (by decide) (by decide) (by decide +kernel) rfl (by decide) (v := v_24) (ty := .int) tyX5 tyX5_ok nmX5 rfl (by decide +kernel) rfl rfl dX5_addHole_90 (fun q_25 eq_25 => ?_)
        have hV_q_25 : sx_V h L q_25 := by rw [eq_25]; exact hV_q_21.pI ka0 (show sx_in v_24 (0) 4 from ⟨by omega, by omega⟩)
        have hF_q_25 : sx_fr h L (fun a => a = a0 ∧ h.1 a = 5 ∨ h.1 a = 1 ∨ h.1 a = 2) q q_25 := hF_q_21.tr (by rw [eq_25]; exact sx_fr.pI (show a0 = a0 ∧ h.1 a0 = 5 ∨ h.1 a0 = 1 ∨ h.1 a0 = 2 from by omega))
        have z_26 : q_25.1 a0 3 = v_24 := by rw [eq_25]; exact sg_pI_e
        refine wa_aload_n B dX5_addHole_93 rfl 1 rfl ?_
        exact hret _ _ _ _ dX5_addHole_94 ⟨hV_q_25, hF_q_25, ⟨ha_4, ka_4⟩⟩
  · refine wa_aload_n B dX5_addHole_12 rfl 0 rfl ?_
    refine wa_getI B (C := RX5) (T := TX5) (N := 7) iq_X5_addHole_X5 ha0 ka0 (by decide) rfl 3 (by decide) (by decide) (by decide +kernel) rfl (by decide) (v := (q.1 a0 3)) rfl dX5_addHole_13 ?_
    refine wa_goto B 20 dX5_addHole_16 (by decide) ?_
    obtain ⟨a_27, ea_27, ha_27, ka_27⟩ := hV.elem (t := 1) ha_1 ka_1 (by decide) rfl (zx_ix (i := (q.1 a0 3)) (show 0 ≤ (q.1 a0 3).toInt by omega) (show (q.1 a0 3).toInt < (h.2.1 a_1 : Int) by omega))
    refine wa_aaload B (t0 := 5) ha_1 ka_1 (by decide) rfl (show 0 ≤ (q.1 a0 3).toInt by omega) (show (q.1 a0 3).toInt < (h.2.1 a_1 : Int) by omega) (v := a_27) ea_27 dX5_addHole_20 ?_
    refine wa_astore_n B [(3, .ref a_27), (0, .ref a0), (1, .int n1), (2, .int n2)] dX5_addHole_21 rfl (by decide) rfl ?_
    refine wa_aload_n B dX5_addHole_22 rfl 1 rfl ?_
    refine wa_getI B (C := RX5) (T := TX5) (N := 7) iq_X5_addHole_X5 ha0 ka0 (by decide) rfl 2 (by decide) (by decide) (by decide +kernel) rfl (by decide) (v := (q.1 a0 2)) rfl dX5_addHole_23 ?_
    have g_28 : (0 : Int) ≤ (q.1 a0 2).toInt ∧ (q.1 a0 2).toInt ≤ 12 := hV.int ha0 ka0 2
    refine wa_iconst B 1 dX5_addHole_26 (by decide) ?_
    refine wa_isub B dX5_addHole_27 (fun v_29 ev_29 => ?_)
    refine wa_istore B [(4, .int v_29), (3, .ref a_27), (0, .ref a0), (1, .int n1), (2, .int n2)] dX5_addHole_28 (by decide) rfl ?_
    refine wa_iload B dX5_addHole_30 0 rfl ?_
    refine wa_if_lt B 93 dX5_addHole_32 (by decide) (fun (t_30 : v_29.toInt < 0) => ?_) (fun (t_30 : ¬ v_29.toInt < 0) => ?_)
    · refine wa_aload_n B dX5_addHole_93 rfl 1 rfl ?_
      exact hret _ _ _ _ dX5_addHole_94 ⟨hV, hF, ⟨ha_27, ka_27⟩⟩
    · refine wa_aload_n B dX5_addHole_35 rfl 2 rfl ?_
      refine wa_getI B (C := RX5) (T := TX5) (N := 7) iq_X5_addHole_X5 ha0 ka0 (by decide) rfl 3 (by decide) (by decide) (by decide +kernel) rfl (by decide) (v := (q.1 a0 3)) rfl dX5_addHole_36 ?_
      refine wa_iconst B 4 dX5_addHole_39 (by decide) ?_
      refine wa_icmp_ge B 93 dX5_addHole_40 (by decide) (fun (t_31 : 4 ≤ (q.1 a0 3).toInt) => ?_) (fun (t_31 : ¬ 4 ≤ (q.1 a0 3).toInt) => ?_)
      · refine wa_aload_n B dX5_addHole_93 rfl 1 rfl ?_
        exact hret _ _ _ _ dX5_addHole_94 ⟨hV, hF, ⟨ha_27, ka_27⟩⟩
      · refine wa_aload_n B dX5_addHole_43 rfl 1 rfl ?_
        refine wa_iload B dX5_addHole_44 0 rfl ?_
        have tv_29 : v_29.toInt = (q.1 a0 2).toInt - 1 := by have b0 := zx_bd (q.1 a0 2); rw [ev_29]; exact zx_sub (show (-2147483648 : Int) ≤ (q.1 a0 2).toInt - 1 by omega) (show (q.1 a0 2).toInt - 1 < (2147483648 : Int) by omega)
        refine wa_putI B (C := RX1) (T := TX1) (N := 7) iq_X5_addHole_X1 ha_27 ka_27 (by decide) rfl 0 (by decide) (by decide) (by decide +kernel) rfl (by decide) (v := v_29) (ty := .int) tyX1 tyX1_ok nmX1 rfl (by decide +kernel) rfl rfl dX5_addHole_46 (fun q_32 eq_32 => ?_)
        have hV_q_32 : sx_V h L q_32 := by rw [eq_32]; exact hV.pI ka_27 (show sx_in v_29 (0) 11 from ⟨by omega, by omega⟩)
        have hF_q_32 : sx_fr h L (fun a => a = a0 ∧ h.1 a = 5 ∨ h.1 a = 1 ∨ h.1 a = 2) q q_32 := hF.tr (by rw [eq_32]; exact sx_fr.pI (show a_27 = a0 ∧ h.1 a_27 = 5 ∨ h.1 a_27 = 1 ∨ h.1 a_27 = 2 from by omega))
        have z_33 : q_32.1 a_27 0 = v_29 := by rw [eq_32]; exact sg_pI_e
        refine wa_aload_n B dX5_addHole_49 rfl 1 rfl ?_
        refine wa_iload_n B dX5_addHole_50 rfl 3 rfl ?_
        refine wa_putI B (C := RX1) (T := TX1) (N := 7) iq_X5_addHole_X1 ha_27 ka_27 (by decide) rfl 1 (by decide) (by decide) (by decide +kernel) rfl (by decide) (v := n1) (ty := .int) tyX1 tyX1_ok nmX1 rfl (by decide +kernel) rfl rfl dX5_addHole_51 (fun q_34 eq_34 => ?_)
        have hV_q_34 : sx_V h L q_34 := by rw [eq_34]; exact hV_q_32.pI ka_27 trivial
        have hF_q_34 : sx_fr h L (fun a => a = a0 ∧ h.1 a = 5 ∨ h.1 a = 1 ∨ h.1 a = 2) q q_34 := hF_q_32.tr (by rw [eq_34]; exact sx_fr.pI (show a_27 = a0 ∧ h.1 a_27 = 5 ∨ h.1 a_27 = 1 ∨ h.1 a_27 = 2 from by omega))
        have z_35 : q_34.1 a_27 1 = n1 := by rw [eq_34]; exact sg_pI_e
        refine wa_aload_n B dX5_addHole_54 rfl 1 rfl ?_
        refine wa_iload_n B dX5_addHole_55 rfl 3 rfl ?_
        refine wa_iload_n B dX5_addHole_56 rfl 4 rfl ?_
        refine wa_imul B dX5_addHole_57 (fun v_36 ev_36 => ?_)
        refine wa_putI B (C := RX1) (T := TX1) (N := 7) iq_X5_addHole_X1 ha_27 ka_27 (by decide) rfl 2 (by decide) (by decide) (by decide +kernel) rfl (by decide) (v := v_36) (ty := .int) tyX1 tyX1_ok nmX1 rfl (by decide +kernel) rfl rfl dX5_addHole_58 (fun q_37 eq_37 => ?_)
        have hV_q_37 : sx_V h L q_37 := by rw [eq_37]; exact hV_q_34.pI ka_27 trivial
        have hF_q_37 : sx_fr h L (fun a => a = a0 ∧ h.1 a = 5 ∨ h.1 a = 1 ∨ h.1 a = 2) q q_37 := hF_q_34.tr (by rw [eq_37]; exact sx_fr.pI (show a_27 = a0 ∧ h.1 a_27 = 5 ∨ h.1 a_27 = 1 ∨ h.1 a_27 = 2 from by omega))
        have z_38 : q_37.1 a_27 2 = v_36 := by rw [eq_37]; exact sg_pI_e
        refine wa_aload_n B dX5_addHole_61 rfl 1 rfl ?_
        refine wa_bipush B (-2) dX5_addHole_62 (by decide) ?_
        refine wa_putI B (C := RX1) (T := TX1) (N := 7) iq_X5_addHole_X1 ha_27 ka_27 (by decide) rfl 6 (by decide) (by decide) (by decide +kernel) rfl (by decide) (v := (-2)) (ty := .int) tyX1 tyX1_ok nmX1 rfl (by decide +kernel) rfl rfl dX5_addHole_64 (fun q_39 eq_39 => ?_)
        have hV_q_39 : sx_V h L q_39 := by rw [eq_39]; exact hV_q_37.pI ka_27 trivial
        have hF_q_39 : sx_fr h L (fun a => a = a0 ∧ h.1 a = 5 ∨ h.1 a = 1 ∨ h.1 a = 2) q q_39 := hF_q_37.tr (by rw [eq_39]; exact sx_fr.pI (show a_27 = a0 ∧ h.1 a_27 = 5 ∨ h.1 a_27 = 1 ∨ h.1 a_27 = 2 from by omega))
        have z_40 : q_39.1 a_27 6 = (-2) := by rw [eq_39]; exact sg_pI_e
        refine wa_aload_n B dX5_addHole_67 rfl 2 rfl ?_
        obtain ⟨a_41, ea_41, ha_41, ka_41, la_41⟩ := hV_q_39.refn (n := 12) (t := 401) ha0 ka0 0 rfl (by decide) rfl (by decide)
        refine wa_getR B (C := RX5) (T := TX5) (N := 7) iq_X5_addHole_X5 ha0 ka0 (by decide) rfl 0 (by decide) (by decide) (by decide +kernel) rfl (fun _ _ _ => rfl) (v := a_41) ea_41 dX5_addHole_68 ?_
        refine wa_iload B dX5_addHole_71 0 rfl ?_
        obtain ⟨a_42, ea_42, ha_42, ka_42⟩ := hV_q_39.elem (t := 2) ha_41 ka_41 (by decide) rfl (zx_ix (i := v_29) (show 0 ≤ v_29.toInt by omega) (show v_29.toInt < (h.2.1 a_41 : Int) by omega))
        refine wa_aaload B (t0 := 4) ha_41 ka_41 (by decide) rfl (show 0 ≤ v_29.toInt by omega) (show v_29.toInt < (h.2.1 a_41 : Int) by omega) (v := a_42) ea_42 dX5_addHole_73 ?_
        refine wa_dup B dX5_addHole_74 rfl ?_
        refine wa_getI B (C := RX2) (T := TX2) (N := 6) iq_X5_addHole_X2 ha_42 ka_42 (by decide) rfl 2 (by decide) (by decide) (by decide +kernel) rfl (by decide) (v := (q_39.1 a_42 2)) rfl dX5_addHole_75 ?_
        refine wa_iconst B 1 dX5_addHole_78 (by decide) ?_
        refine wa_iadd B dX5_addHole_79 (fun v_43 ev_43 => ?_)
        refine wa_putI B (C := RX2) (T := TX2) (N := 6) iq_X5_addHole_X2 ha_42 ka_42 (by decide) rfl 2 (by decide) (by decide) (by decide +kernel) rfl (by decide) (v := v_43) (ty := .int) tyX2 tyX2_ok nmX2 rfl (by decide +kernel) rfl rfl dX5_addHole_80 (fun q_44 eq_44 => ?_)
        have hV_q_44 : sx_V h L q_44 := by rw [eq_44]; exact hV_q_39.pI ka_42 trivial
        have hF_q_44 : sx_fr h L (fun a => a = a0 ∧ h.1 a = 5 ∨ h.1 a = 1 ∨ h.1 a = 2) q q_44 := hF_q_39.tr (by rw [eq_44]; exact sx_fr.pI (show a_42 = a0 ∧ h.1 a_42 = 5 ∨ h.1 a_42 = 1 ∨ h.1 a_42 = 2 from by omega))
        have z_45 : q_44.1 a_42 2 = v_43 := by rw [eq_44]; exact sg_pI_e
        refine wa_aload_n B dX5_addHole_83 rfl 2 rfl ?_
        refine wa_dup B dX5_addHole_84 rfl ?_
        have z_46 : q_44.1 a0 3 = q.1 a0 3 := ((show q_44.1 a0 3 = q_39.1 a0 3 from by rw [eq_44]; exact sg_pI_k (by decide))).trans (((show q_39.1 a0 3 = q_37.1 a0 3 from by rw [eq_39]; exact sg_pI_k (by decide))).trans (((show q_37.1 a0 3 = q_34.1 a0 3 from by rw [eq_37]; exact sg_pI_k (by decide))).trans (((show q_34.1 a0 3 = q_32.1 a0 3 from by rw [eq_34]; exact sg_pI_k (by decide))).trans ((show q_32.1 a0 3 = q.1 a0 3 from by rw [eq_32]; exact sg_pI_k (by decide))))))
        refine wa_getI B (C := RX5) (T := TX5) (N := 7) iq_X5_addHole_X5 ha0 ka0 (by decide) rfl 3 (by decide) (by decide) (by decide +kernel) rfl (by decide) (v := (q.1 a0 3)) z_46 dX5_addHole_85 ?_
        refine wa_iconst B 1 dX5_addHole_88 (by decide) ?_
        refine wa_iadd B dX5_addHole_89 (fun v_47 ev_47 => ?_)
        have tv_47 : v_47.toInt = (q.1 a0 3).toInt + 1 := by have b0 := zx_bd (q.1 a0 3); rw [ev_47]; exact zx_add (show (-2147483648 : Int) ≤ (q.1 a0 3).toInt + 1 by omega) (show (q.1 a0 3).toInt + 1 < (2147483648 : Int) by omega)
        refine wa_putI B (C := RX5) (T := TX5) (N := 7) iq_X5_addHole_X5 ha0 ka0 (by decide) rfl 3 (by decide) (by decide) (by decide +kernel) rfl (by decide) (v := v_47) (ty := .int) tyX5 tyX5_ok nmX5 rfl (by decide +kernel) rfl rfl dX5_addHole_90 (fun q_48 eq_48 => ?_)
        have hV_q_48 : sx_V h L q_48 := by rw [eq_48]; exact hV_q_44.pI ka0 (show sx_in v_47 (0) 4 from ⟨by omega, by omega⟩)
        have hF_q_48 : sx_fr h L (fun a => a = a0 ∧ h.1 a = 5 ∨ h.1 a = 1 ∨ h.1 a = 2) q q_48 := hF_q_44.tr (by rw [eq_48]; exact sx_fr.pI (show a0 = a0 ∧ h.1 a0 = 5 ∨ h.1 a0 = 1 ∨ h.1 a0 = 2 from by omega))
        have z_49 : q_48.1 a0 3 = v_47 := by rw [eq_48]; exact sg_pI_e
        refine wa_aload_n B dX5_addHole_93 rfl 1 rfl ?_
        exact hret _ _ _ _ dX5_addHole_94 ⟨hV_q_48, hF_q_48, ⟨ha_27, ka_27⟩⟩
