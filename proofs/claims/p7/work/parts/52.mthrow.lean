theorem iq_X11_system_X11 : ∀ w ∈ wsX110, w ∈ wsX11_system := fun _ h => List.mem_cons_of_mem _ (List.mem_append_left _ (List.mem_append_left _ (List.mem_append_right _ h)))
theorem iq_X11_system_X9 : ∀ w ∈ wsX90, w ∈ wsX11_system := fun _ h => List.mem_cons_of_mem _ (List.mem_append_left _ (List.mem_append_right _ h))
set_option maxHeartbeats 4000000 in
set_option maxRecDepth 100000 in
theorem k_X11_system (l : Launch) (hlst : l.stackTraces = false) (dC : Nat → ClassId) (dI : Nat → Nat → Nat) (h : Sh) (L : List Nat) (hN : sx_nd L) (q : Sg) (hV : sx_V h L q) {a0 : Nat} (ha0 : a0 ∈ L) (ka0 : h.1 a0 = 11) (n1 : Int32) (n2 : Int32)    : CMx l dC dI h L yX11_system wsX11_system ({ frames := 6, cells := 1, slots := 6, locals := 82 } : Room) q [.ref a0, .int n1, .int n2] (fun r q' => q = q') := by
  refine cm_x (cc := cX11_system) (mL := 3) (is := 137) hlst hN (by decide) rfl rfl (Nat.le_of_ble_eq_true rfl) ⟨by decide, by decide, by decide, by decide⟩ (by decide +kernel) (by decide +kernel) (fun w hh => List.mem_cons_of_mem _ (List.mem_append_right _ hh)) (fun A U hZ => hZ.2.2.2.2.2.2.1) (fun Z B hret hthr => ?_)
  show WA l dC dI h L ({ frames := 6, cells := 1, slots := 6, locals := 82 } : Room) 3 Z q 0 [(0, .ref a0), (1, .int n1), (2, .int n2)] []
  refine wa_aload_n B dX11_system_0 rfl 0 rfl ?_
  refine wa_iload_n B dX11_system_1 rfl 1 rfl ?_
  refine wa_callVi B (x := (RX11, TX11, 16)) (As := [.int n1]) (rest := []) (k_X11_isSystem l dC dI h L hN q hV (a0 := a0) ha0 ka0 n1  ) (cwV 1 B.1.2.2.2.2 gX11_system_X11_isSystem rfl rfl rfl (by decide +kernel) ⟨Nat.le_of_ble_eq_true rfl, Nat.le_of_ble_eq_true rfl⟩) ha0 ka0 (by decide) rfl rfl rfl (Nat.le_of_ble_eq_true rfl) dX11_system_2 (fun r_2 q_1 w_3 => ?_)
  obtain ⟨ew_3, hw_3⟩ := w_3
  subst ew_3
  refine wa_if_eq B 17 dX11_system_5 (by decide) (fun (t_4 : r_2.toInt = 0) => ?_) (fun (t_4 : ¬ r_2.toInt = 0) => ?_)
  · exact hthr _ _ dX11_system_17 dX11_system_20 dX11_system_21 dX11_system_23 dX11_system_26
  · refine wa_iload_n B dX11_system_8 rfl 2 rfl ?_
    refine wa_if_lt B 17 dX11_system_9 (by decide) (fun (t_5 : n2.toInt < 0) => ?_) (fun (t_5 : ¬ n2.toInt < 0) => ?_)
    · exact hthr _ _ dX11_system_17 dX11_system_20 dX11_system_21 dX11_system_23 dX11_system_26
    · refine wa_iload_n B dX11_system_12 rfl 2 rfl ?_
      refine wa_iconst B 5 dX11_system_13 (by decide) ?_
      refine wa_icmp_lt B 27 dX11_system_14 (by decide) (fun (t_6 : n2.toInt < 5) => ?_) (fun (t_6 : ¬ n2.toInt < 5) => ?_)
      · refine wa_iload_n B dX11_system_27 rfl 2 rfl ?_
        refine wa_if_ne B 41 dX11_system_28 (by decide) (fun (t_7 : ¬ n2.toInt = 0) => ?_) (fun (t_7 : n2.toInt = 0) => ?_)
        · refine wa_iload_n B dX11_system_41 rfl 2 rfl ?_
          refine wa_aload_n B dX11_system_42 rfl 0 rfl ?_
          obtain ⟨a_8, ea_8, ha_8, ka_8⟩ := hV.ref (t := 9) ha0 ka0 11 rfl (by decide)
          refine wa_getR B (C := RX11) (T := TX11) (N := 16) iq_X11_system_X11 ha0 ka0 (by decide) rfl 11 (by decide) (by decide) (by decide +kernel) rfl (fun _ _ _ => rfl) (v := a_8) ea_8 dX11_system_43 ?_
          obtain ⟨a_9, ea_9, ha_9, ka_9, la_9⟩ := hV.refn (n := 3) (t := 101) ha_8 ka_8 1 rfl (by decide) rfl (by decide)
          refine wa_getR B (C := RX9) (T := TX9) (N := 7) iq_X11_system_X9 ha_8 ka_8 (by decide) rfl 1 (by decide) (by decide) (by decide +kernel) rfl (fun _ _ _ => rfl) (v := a_9) ea_9 dX11_system_46 ?_
          refine wa_iload_n B dX11_system_49 rfl 1 rfl ?_
          refine wa_iaload B ha_9 ka_9 (by decide) (by decide) (show 0 ≤ n1.toInt by omega) (show n1.toInt < (h.2.1 a_9 : Int) by omega) (v := (q.2.2.2.1 a_9 (n1 : Int32).toNatClampNeg)) rfl dX11_system_50 ?_
          have g_10 : (0 : Int) ≤ ((q.2.2.2.1 a_9 (n1 : Int32).toNatClampNeg)).toInt ∧ ((q.2.2.2.1 a_9 (n1 : Int32).toNatClampNeg)).toInt ≤ 5 := hV.cnt ha_9 ka_9 _
          refine wa_icmp_ge B 70 dX11_system_51 (by decide) (fun (t_11 : ((q.2.2.2.1 a_9 (n1 : Int32).toNatClampNeg)).toInt ≤ n2.toInt) => ?_) (fun (t_11 : ¬ ((q.2.2.2.1 a_9 (n1 : Int32).toNatClampNeg)).toInt ≤ n2.toInt) => ?_)
          · refine wa_iconst B (-1) dX11_system_70 (by decide) ?_
            exact hret _ _ _ _ dX11_system_71 rfl
          · refine wa_aload_n B dX11_system_54 rfl 0 rfl ?_
            refine wa_getR B (C := RX11) (T := TX11) (N := 16) iq_X11_system_X11 ha0 ka0 (by decide) rfl 11 (by decide) (by decide) (by decide +kernel) rfl (fun _ _ _ => rfl) (v := a_8) ea_8 dX11_system_55 ?_
            obtain ⟨a_12, ea_12, ha_12, ka_12, la_12⟩ := hV.refn (n := 15) (t := 102) ha_8 ka_8 3 rfl (by decide) rfl (by decide)
            refine wa_getR B (C := RX9) (T := TX9) (N := 7) iq_X11_system_X9 ha_8 ka_8 (by decide) rfl 3 (by decide) (by decide) (by decide +kernel) rfl (fun _ _ _ => rfl) (v := a_12) ea_12 dX11_system_58 ?_
            refine wa_iload_n B dX11_system_61 rfl 1 rfl ?_
            refine wa_iload_n B dX11_system_62 rfl 2 rfl ?_
            refine wa_callSi B (As := [.int n1, .int n2]) (rest := [.ref a_12]) (k_X9_slot l dC dI h L hN q hV n1 n2  (by first | assumption | omega | decide) (by first | assumption | omega | decide) (by first | assumption | omega | decide) (by first | assumption | omega | decide)) (va_cwS 2 B.1.2.2.2.2 gX11_system_X9_slot rfl rfl rfl (by decide +kernel) ⟨Nat.le_of_ble_eq_true rfl, Nat.le_of_ble_eq_true rfl⟩) rfl rfl (Nat.le_of_ble_eq_true rfl) dX11_system_63 (fun r_14 q_13 w_15 => ?_)
            obtain ⟨ew_15, hw_15⟩ := w_15
            subst ew_15
            refine wa_iaload B ha_12 ka_12 (by decide) (by decide) (show 0 ≤ r_14.toInt by omega) (show r_14.toInt < (h.2.1 a_12 : Int) by omega) (v := (q.2.2.2.1 a_12 (r_14 : Int32).toNatClampNeg)) rfl dX11_system_66 ?_
            refine wa_goto B 71 dX11_system_67 (by decide) ?_
            exact hret _ _ _ _ dX11_system_71 rfl
        · refine wa_aload_n B dX11_system_31 rfl 0 rfl ?_
          obtain ⟨a_16, ea_16, ha_16, ka_16⟩ := hV.ref (t := 9) ha0 ka0 11 rfl (by decide)
          refine wa_getR B (C := RX11) (T := TX11) (N := 16) iq_X11_system_X11 ha0 ka0 (by decide) rfl 11 (by decide) (by decide) (by decide +kernel) rfl (fun _ _ _ => rfl) (v := a_16) ea_16 dX11_system_32 ?_
          obtain ⟨a_17, ea_17, ha_17, ka_17, la_17⟩ := hV.refn (n := 3) (t := 101) ha_16 ka_16 1 rfl (by decide) rfl (by decide)
          refine wa_getR B (C := RX9) (T := TX9) (N := 7) iq_X11_system_X9 ha_16 ka_16 (by decide) rfl 1 (by decide) (by decide) (by decide +kernel) rfl (fun _ _ _ => rfl) (v := a_17) ea_17 dX11_system_35 ?_
          refine wa_iload_n B dX11_system_38 rfl 1 rfl ?_
          refine wa_iaload B ha_17 ka_17 (by decide) (by decide) (show 0 ≤ n1.toInt by omega) (show n1.toInt < (h.2.1 a_17 : Int) by omega) (v := (q.2.2.2.1 a_17 (n1 : Int32).toNatClampNeg)) rfl dX11_system_39 ?_
          have g_18 : (0 : Int) ≤ ((q.2.2.2.1 a_17 (n1 : Int32).toNatClampNeg)).toInt ∧ ((q.2.2.2.1 a_17 (n1 : Int32).toNatClampNeg)).toInt ≤ 5 := hV.cnt ha_17 ka_17 _
          exact hret _ _ _ _ dX11_system_40 rfl
      · exact hthr _ _ dX11_system_17 dX11_system_20 dX11_system_21 dX11_system_23 dX11_system_26
theorem iq_X11_octet_X11 : ∀ w ∈ wsX110, w ∈ wsX11_octet := fun _ h => List.mem_cons_of_mem _ (List.mem_append_left _ (List.mem_append_left _ (List.mem_append_right _ h)))
theorem iq_X11_octet_X7 : ∀ w ∈ wsX70, w ∈ wsX11_octet := fun _ h => List.mem_cons_of_mem _ (List.mem_append_left _ (List.mem_append_right _ h))
set_option maxHeartbeats 4000000 in
set_option maxRecDepth 100000 in
theorem k_X11_octet (l : Launch) (hlst : l.stackTraces = false) (dC : Nat → ClassId) (dI : Nat → Nat → Nat) (h : Sh) (L : List Nat) (hN : sx_nd L) (q : Sg) (hV : sx_V h L q) {a0 : Nat} (ha0 : a0 ∈ L) (ka0 : h.1 a0 = 11) (n1 : Int32)    : CMx l dC dI h L yX11_octet wsX11_octet ({ frames := 6, cells := 1, slots := 6, locals := 82 } : Room) q [.ref a0, .int n1] (fun r q' => q = q') := by
  refine cm_x (cc := cX11_octet) (mL := 2) (is := 160) hlst hN (by decide) rfl rfl (Nat.le_of_ble_eq_true rfl) ⟨by decide, by decide, by decide, by decide⟩ (by decide +kernel) (by decide +kernel) (fun w hh => List.mem_cons_of_mem _ (List.mem_append_right _ hh)) (fun A U hZ => hZ.2.2.2.2.2.2.2.1) (fun Z B hret hthr => ?_)
  show WA l dC dI h L ({ frames := 6, cells := 1, slots := 6, locals := 82 } : Room) 2 Z q 0 [(0, .ref a0), (1, .int n1)] []
  refine wa_iload_n B dX11_octet_0 rfl 1 rfl ?_
  refine wa_if_lt B 15 dX11_octet_1 (by decide) (fun (t_1 : n1.toInt < 0) => ?_) (fun (t_1 : ¬ n1.toInt < 0) => ?_)
  · exact hthr _ _ dX11_octet_15 dX11_octet_18 dX11_octet_19 dX11_octet_21 dX11_octet_24
  · refine wa_iload_n B dX11_octet_4 rfl 1 rfl ?_
    refine wa_aload_n B dX11_octet_5 rfl 0 rfl ?_
    obtain ⟨a_2, ea_2, ha_2, ka_2, la_2⟩ := hV.refn (n := 2) (t := 7) ha0 ka0 1 rfl (by decide) rfl (by decide)
    refine wa_getR B (C := RX11) (T := TX11) (N := 16) iq_X11_octet_X11 ha0 ka0 (by decide) rfl 1 (by decide) (by decide) (by decide +kernel) rfl (fun _ _ _ => rfl) (v := a_2) ea_2 dX11_octet_6 ?_
    refine wa_getI B (C := RX7) (T := TX7) (N := 2) iq_X11_octet_X7 ha_2 ka_2 (by decide) rfl 1 (by decide) (by decide) (by decide +kernel) rfl (by decide) (v := (q.1 a_2 1)) rfl dX11_octet_9 ?_
    obtain ⟨a_4, ea_4, ha_4, ka_4, la_4⟩ := hV.refn (n := 59) (t := 300) ha_2 ka_2 0 rfl (by decide) (by rw [la_2]; rfl) (by decide)
    have g_3 : (0 : Int) ≤ (q.1 a_2 1).toInt ∧ (q.1 a_2 1).toInt ≤ (h.2.1 a_4 : Int) := by have z9 := hV.int ha_2 ka_2 1; rw [ea_4] at z9; exact z9
    refine wa_icmp_lt B 25 dX11_octet_12 (by decide) (fun (t_5 : n1.toInt < (q.1 a_2 1).toInt) => ?_) (fun (t_5 : ¬ n1.toInt < (q.1 a_2 1).toInt) => ?_)
    · refine wa_aload_n B dX11_octet_25 rfl 0 rfl ?_
      refine wa_getR B (C := RX11) (T := TX11) (N := 16) iq_X11_octet_X11 ha0 ka0 (by decide) rfl 1 (by decide) (by decide) (by decide +kernel) rfl (fun _ _ _ => rfl) (v := a_2) ea_2 dX11_octet_26 ?_
      refine wa_iload_n B dX11_octet_29 rfl 1 rfl ?_
      refine wa_callVi B (x := (RX7, TX7, 2)) (As := [.int n1]) (rest := []) (k_X7_byteAt l dC dI h L hN q hV (a0 := a_2) ha_2 ka_2 n1  ) (cwV 1 B.1.2.2.2.2 gX11_octet_X7_byteAt rfl rfl rfl (by decide +kernel) ⟨Nat.le_of_ble_eq_true rfl, Nat.le_of_ble_eq_true rfl⟩) ha_2 ka_2 (by decide) rfl rfl rfl (Nat.le_of_ble_eq_true rfl) dX11_octet_30 (fun r_7 q_6 w_8 => ?_)
      obtain ⟨ew_8, hw_8⟩ := w_8
      subst ew_8
      exact hret _ _ _ _ dX11_octet_33 rfl
    · exact hthr _ _ dX11_octet_15 dX11_octet_18 dX11_octet_19 dX11_octet_21 dX11_octet_24
theorem iq_X11_line_X11 : ∀ w ∈ wsX110, w ∈ wsX11_line := fun _ h => List.mem_cons_of_mem _ (List.mem_append_left _ (List.mem_append_left _ (List.mem_append_left _ (List.mem_append_right _ h))))
theorem iq_X11_line_X2 : ∀ w ∈ wsX20, w ∈ wsX11_line := fun _ h => List.mem_cons_of_mem _ (List.mem_append_left _ (List.mem_append_right _ h))
theorem iq_X11_line_X5 : ∀ w ∈ wsX50, w ∈ wsX11_line := fun _ h => List.mem_cons_of_mem _ (List.mem_append_left _ (List.mem_append_left _ (List.mem_append_right _ h)))
set_option maxHeartbeats 4000000 in
set_option maxRecDepth 100000 in
theorem k_X11_line (l : Launch) (hlst : l.stackTraces = false) (dC : Nat → ClassId) (dI : Nat → Nat → Nat) (h : Sh) (L : List Nat) (hN : sx_nd L) (q : Sg) (hV : sx_V h L q) {a0 : Nat} (ha0 : a0 ∈ L) (ka0 : h.1 a0 = 11) (n1 : Int32) (n2 : Int32) (n3 : Int32)    : CMx l dC dI h L yX11_line wsX11_line ({ frames := 6, cells := 1, slots := 6, locals := 82 } : Room) q [.ref a0, .int n1, .int n2, .int n3] (fun r q' => q = q') := by
  refine cm_x (cc := cX11_line) (mL := 5) (is := 173) hlst hN (by decide) rfl rfl (Nat.le_of_ble_eq_true rfl) ⟨by decide, by decide, by decide, by decide⟩ (by decide +kernel) (by decide +kernel) (fun w hh => List.mem_cons_of_mem _ (List.mem_append_right _ hh)) (fun A U hZ => hZ.2.2.2.2.2.2.2.2.1) (fun Z B hret hthr => ?_)
  show WA l dC dI h L ({ frames := 6, cells := 1, slots := 6, locals := 82 } : Room) 5 Z q 0 [(0, .ref a0), (1, .int n1), (2, .int n2), (3, .int n3)] []
  refine wa_aload_n B dX11_line_0 rfl 0 rfl ?_
  refine wa_iload_n B dX11_line_1 rfl 1 rfl ?_
  refine wa_iload_n B dX11_line_2 rfl 2 rfl ?_
  refine wa_callVi B (x := (RX11, TX11, 16)) (As := [.int n1, .int n2]) (rest := []) (k_X11_isLine l dC dI h L hN q hV (a0 := a0) ha0 ka0 n1 n2  ) (cwV 2 B.1.2.2.2.2 gX11_line_X11_isLine rfl rfl rfl (by decide +kernel) ⟨Nat.le_of_ble_eq_true rfl, Nat.le_of_ble_eq_true rfl⟩) ha0 ka0 (by decide) rfl rfl rfl (Nat.le_of_ble_eq_true rfl) dX11_line_3 (fun r_2 q_1 w_3 => ?_)
  obtain ⟨ew_3, hw_3⟩ := w_3
  subst ew_3
  refine wa_if_eq B 18 dX11_line_6 (by decide) (fun (t_4 : r_2.toInt = 0) => ?_) (fun (t_4 : ¬ r_2.toInt = 0) => ?_)
  · exact hthr _ _ dX11_line_18 dX11_line_21 dX11_line_22 dX11_line_24 dX11_line_27
  · refine wa_iload_n B dX11_line_9 rfl 3 rfl ?_
    refine wa_if_lt B 18 dX11_line_10 (by decide) (fun (t_5 : n3.toInt < 0) => ?_) (fun (t_5 : ¬ n3.toInt < 0) => ?_)
    · exact hthr _ _ dX11_line_18 dX11_line_21 dX11_line_22 dX11_line_24 dX11_line_27
    · refine wa_iload_n B dX11_line_13 rfl 3 rfl ?_
      refine wa_iconst B 3 dX11_line_14 (by decide) ?_
      refine wa_icmp_le B 28 dX11_line_15 (by decide) (fun (t_6 : n3.toInt ≤ 3) => ?_) (fun (t_6 : ¬ n3.toInt ≤ 3) => ?_)
      · refine wa_aload_n B dX11_line_28 rfl 0 rfl ?_
        obtain ⟨a_7, ea_7, ha_7, ka_7, la_7⟩ := hV.refn (n := 8) (t := 400) ha0 ka0 7 rfl (by decide) rfl (by decide)
        refine wa_getR B (C := RX11) (T := TX11) (N := 16) iq_X11_line_X11 ha0 ka0 (by decide) rfl 7 (by decide) (by decide) (by decide +kernel) rfl (fun _ _ _ => rfl) (v := a_7) ea_7 dX11_line_29 ?_
        refine wa_iload_n B dX11_line_32 rfl 1 rfl ?_
        obtain ⟨a_8, ea_8, ha_8, ka_8⟩ := hV.elem (t := 5) ha_7 ka_7 (by decide) rfl (zx_ix (i := n1) (show 0 ≤ n1.toInt by omega) (show n1.toInt < (h.2.1 a_7 : Int) by omega))
        refine wa_aaload B (t0 := 3) ha_7 ka_7 (by decide) rfl (show 0 ≤ n1.toInt by omega) (show n1.toInt < (h.2.1 a_7 : Int) by omega) (v := a_8) ea_8 dX11_line_33 ?_
        obtain ⟨a_9, ea_9, ha_9, ka_9, la_9⟩ := hV.refn (n := 12) (t := 401) ha_8 ka_8 0 rfl (by decide) rfl (by decide)
        refine wa_getR B (C := RX5) (T := TX5) (N := 7) iq_X11_line_X5 ha_8 ka_8 (by decide) rfl 0 (by decide) (by decide) (by decide +kernel) rfl (fun _ _ _ => rfl) (v := a_9) ea_9 dX11_line_34 ?_
        refine wa_iload_n B dX11_line_37 rfl 2 rfl ?_
        obtain ⟨a_10, ea_10, ha_10, ka_10⟩ := hV.elem (t := 2) ha_9 ka_9 (by decide) rfl (zx_ix (i := n2) (show 0 ≤ n2.toInt by omega) (show n2.toInt < (h.2.1 a_9 : Int) by omega))
        refine wa_aaload B (t0 := 4) ha_9 ka_9 (by decide) rfl (show 0 ≤ n2.toInt by omega) (show n2.toInt < (h.2.1 a_9 : Int) by omega) (v := a_10) ea_10 dX11_line_38 ?_
        refine wa_astore B [(4, .ref a_10), (0, .ref a0), (1, .int n1), (2, .int n2), (3, .int n3)] dX11_line_39 (by decide) rfl ?_
        refine wa_iload_n B dX11_line_41 rfl 4 rfl ?_
        rcases (show (n3.toInt < 0 ∨ 2 < n3.toInt) ∨ n3.toInt = 0 ∨ n3.toInt = 1 ∨ n3.toInt = 2 by omega) with t_11 | t_11 | t_11 | t_11
        · refine wa_tswOut B 86 dX11_line_42 (by first | omega | exact t_11) (by decide) ?_
          refine wa_aload B dX11_line_86 0 rfl ?_
          refine wa_getI B (C := RX2) (T := TX2) (N := 6) iq_X11_line_X2 ha_10 ka_10 (by decide) rfl 2 (by decide) (by decide) (by decide +kernel) rfl (by decide) (v := (q.1 a_10 2)) rfl dX11_line_88 ?_
          refine wa_if_ne B 102 dX11_line_91 (by decide) (fun (t_12 : ¬ (q.1 a_10 2).toInt = 0) => ?_) (fun (t_12 : (q.1 a_10 2).toInt = 0) => ?_)
          · refine wa_iconst B (-1) dX11_line_102 (by decide) ?_
            exact hret _ _ _ _ dX11_line_103 rfl
          · refine wa_aload B dX11_line_94 0 rfl ?_
            refine wa_getI B (C := RX2) (T := TX2) (N := 6) iq_X11_line_X2 ha_10 ka_10 (by decide) rfl 3 (by decide) (by decide) (by decide +kernel) rfl (by decide) (v := (q.1 a_10 3)) rfl dX11_line_96 ?_
            refine wa_goto B 103 dX11_line_99 (by decide) ?_
            exact hret _ _ _ _ dX11_line_103 rfl
        · refine wa_tswIn B 68 0 dX11_line_42 t_11 (by decide) (by decide) rfl (by decide) ?_
          refine wa_aload B dX11_line_68 0 rfl ?_
          refine wa_getI B (C := RX2) (T := TX2) (N := 6) iq_X11_line_X2 ha_10 ka_10 (by decide) rfl 0 (by decide) (by decide) (by decide +kernel) rfl (by decide) (v := (q.1 a_10 0)) rfl dX11_line_70 ?_
          exact hret _ _ _ _ dX11_line_73 rfl
        · refine wa_tswIn B 74 1 dX11_line_42 t_11 (by decide) (by decide) rfl (by decide) ?_
          refine wa_aload B dX11_line_74 0 rfl ?_
          refine wa_getI B (C := RX2) (T := TX2) (N := 6) iq_X11_line_X2 ha_10 ka_10 (by decide) rfl 1 (by decide) (by decide) (by decide +kernel) rfl (by decide) (v := (q.1 a_10 1)) rfl dX11_line_76 ?_
          exact hret _ _ _ _ dX11_line_79 rfl
        · refine wa_tswIn B 80 2 dX11_line_42 t_11 (by decide) (by decide) rfl (by decide) ?_
          refine wa_aload B dX11_line_80 0 rfl ?_
          refine wa_getI B (C := RX2) (T := TX2) (N := 6) iq_X11_line_X2 ha_10 ka_10 (by decide) rfl 2 (by decide) (by decide) (by decide +kernel) rfl (by decide) (v := (q.1 a_10 2)) rfl dX11_line_82 ?_
          exact hret _ _ _ _ dX11_line_85 rfl
      · exact hthr _ _ dX11_line_18 dX11_line_21 dX11_line_22 dX11_line_24 dX11_line_27
theorem iq_X11_bound_X5 : ∀ w ∈ wsX50, w ∈ wsX11_bound := fun _ h => List.mem_cons_of_mem _ (List.mem_append_left _ (List.mem_append_left _ (List.mem_append_left _ (List.mem_append_left _ (List.mem_append_left _ (List.mem_append_right _ h))))))
set_option maxHeartbeats 4000000 in
set_option maxRecDepth 100000 in
theorem k_X11_bound (l : Launch) (hlst : l.stackTraces = false) (dC : Nat → ClassId) (dI : Nat → Nat → Nat) (h : Sh) (L : List Nat) (hN : sx_nd L) (q : Sg) (hV : sx_V h L q) {a0 : Nat} (ha0 : a0 ∈ L) (ka0 : h.1 a0 = 11) (n1 : Int32) (n2 : Int32) (n3 : Int32) {t0 : Nat} (et0 : q.2.2.1 a0 0 = t0)    : CMx l dC dI h L yX11_bound wsX11_bound ({ frames := 10, cells := 1, slots := 6, locals := 243 } : Room) q [.ref a0, .int n1, .int n2, .int n3] (fun r q' => sx_V h L q' ∧ sx_fr h L (fun a => sx_ck (h.1 a)) q q' ∧ (q'.2.2.1 a0 0 = t0 ∧ (q'.1 t0 1).toInt = (q.1 t0 1).toInt ∧ (q'.1 a0 14).toInt = (q.1 a0 14).toInt)) := by
  refine cm_x (cc := cX11_bound) (mL := 5) (is := 206) hlst hN (by decide) rfl rfl (Nat.le_of_ble_eq_true rfl) ⟨by decide, by decide, by decide, by decide⟩ (by decide +kernel) (by decide +kernel) (fun w hh => List.mem_cons_of_mem _ (List.mem_append_right _ hh)) (fun A U hZ => hZ.2.2.2.2.2.2.2.2.2.1) (fun Z B hret hthr => ?_)
  have hF : sx_fr h L (fun a => sx_ck (h.1 a)) q q := sx_fr.rf
  obtain ⟨ht0, kt0, lt0⟩ : t0 ∈ L ∧ h.1 t0 = 7 ∧ h.2.1 t0 = 1 := by obtain ⟨r9, e9, z1, z2, z3⟩ := hV.refn (t := 7) (n := 1) ha0 ka0 0 rfl (by decide) rfl (by decide); rw [← et0, e9]; exact ⟨z1, z2, z3⟩
  show WA l dC dI h L ({ frames := 10, cells := 1, slots := 6, locals := 243 } : Room) 5 Z q 0 [(0, .ref a0), (1, .int n1), (2, .int n2), (3, .int n3)] []
  refine wa_aload_n B dX11_bound_0 rfl 0 rfl ?_
  refine wa_iload_n B dX11_bound_1 rfl 1 rfl ?_
  refine wa_iload_n B dX11_bound_2 rfl 2 rfl ?_
  refine wa_callVi B (x := (RX11, TX11, 16)) (As := [.int n1, .int n2]) (rest := []) (k_X11_isLine l dC dI h L hN q hV (a0 := a0) ha0 ka0 n1 n2  ) (cwV 2 B.1.2.2.2.2 gX11_bound_X11_isLine rfl rfl rfl (by decide +kernel) ⟨Nat.le_of_ble_eq_true rfl, Nat.le_of_ble_eq_true rfl⟩) ha0 ka0 (by decide) rfl rfl rfl (Nat.le_of_ble_eq_true rfl) dX11_bound_3 (fun r_2 q_1 w_3 => ?_)
  obtain ⟨ew_3, hw_3⟩ := w_3
  subst ew_3
  refine wa_if_ne B 19 dX11_bound_6 (by decide) (fun (t_4 : ¬ r_2.toInt = 0) => ?_) (fun (t_4 : r_2.toInt = 0) => ?_)
  · refine wa_aload_n B dX11_bound_19 rfl 0 rfl ?_
    refine wa_iload_n B dX11_bound_20 rfl 1 rfl ?_
    refine wa_callVr B (x := (RX11, TX11, 16)) (As := [.int n1]) (rest := []) (k_X11_solved l dC dI h L hN q hV (a0 := a0) ha0 ka0 n1  (by first | assumption | omega | decide) (by first | assumption | omega | decide)) (cwV 1 B.1.2.2.2.2 gX11_bound_X11_solved rfl rfl rfl (by decide +kernel) ⟨Nat.le_of_ble_eq_true rfl, Nat.le_of_ble_eq_true rfl⟩) ha0 ka0 (by decide) rfl rfl rfl (Nat.le_of_ble_eq_true rfl) dX11_bound_21 (fun r_6 q_5 w_7 => ?_)
    obtain ⟨hV_q_5, h2_q_5, hw_7⟩ := w_7
    have hF_q_5 : sx_fr h L (fun a => sx_ck (h.1 a)) q q_5 := hF.tr (h2_q_5.mono (fun a (z : h.1 a = 4 ∨ h.1 a = 5 ∨ h.1 a = 1 ∨ h.1 a = 2) => (show sx_ck (h.1 a) from by (try unfold sx_mk at *); (try unfold sx_ck at *); omega)))
    obtain ⟨hr_6, kr_6⟩ := hw_7
    refine wa_astore B [(4, .ref r_6), (0, .ref a0), (1, .int n1), (2, .int n2), (3, .int n3)] dX11_bound_24 (by decide) rfl ?_
    refine wa_aload B dX11_bound_26 0 rfl ?_
    refine wa_getI B (C := RX5) (T := TX5) (N := 7) iq_X11_bound_X5 hr_6 kr_6 (by decide) rfl 5 (by decide) (by decide) (by decide +kernel) rfl (by decide) (v := (q_5.1 r_6 5)) rfl dX11_bound_28 ?_
    refine wa_if_ne B 38 dX11_bound_31 (by decide) (fun (t_8 : ¬ (q_5.1 r_6 5).toInt = 0) => ?_) (fun (t_8 : (q_5.1 r_6 5).toInt = 0) => ?_)
    · refine wa_aload B dX11_bound_38 0 rfl ?_
      obtain ⟨a_9, ea_9, ha_9, ka_9, la_9⟩ := hV_q_5.refn (n := 12) (t := 401) hr_6 kr_6 0 rfl (by decide) rfl (by decide)
      refine wa_getR B (C := RX5) (T := TX5) (N := 7) iq_X11_bound_X5 hr_6 kr_6 (by decide) rfl 0 (by decide) (by decide) (by decide +kernel) rfl (fun _ _ _ => rfl) (v := a_9) ea_9 dX11_bound_40 ?_
      refine wa_iload_n B dX11_bound_43 rfl 3 rfl ?_
      obtain ⟨a_10, ea_10, ha_10, ka_10⟩ := hV_q_5.elem (t := 2) ha_9 ka_9 (by decide) rfl (zx_ix (i := n2) (show 0 ≤ n2.toInt by omega) (show n2.toInt < (h.2.1 a_9 : Int) by omega))
      refine wa_aaload B (t0 := 4) ha_9 ka_9 (by decide) rfl (show 0 ≤ n2.toInt by omega) (show n2.toInt < (h.2.1 a_9 : Int) by omega) (v := a_10) ea_10 dX11_bound_44 ?_
      refine wa_iload_n B dX11_bound_45 rfl 4 rfl ?_
      refine wa_callVi B (x := (RX2, TX2, 6)) (As := [.int n3]) (rest := []) (k_X2_valueBound l dC dI h L hN q_5 hV_q_5 (a0 := a_10) ha_10 ka_10 n3  ) (cwV 1 B.1.2.2.2.2 gX11_bound_X2_valueBound rfl rfl rfl (by decide +kernel) ⟨Nat.le_of_ble_eq_true rfl, Nat.le_of_ble_eq_true rfl⟩) ha_10 ka_10 (by decide) rfl rfl rfl (Nat.le_of_ble_eq_true rfl) dX11_bound_46 (fun r_12 q_11 w_13 => ?_)
      subst w_13
      have z_14 : q_5.1 a0 14 = q.1 a0 14 := h2_q_5.I ha0 (show ¬ (h.1 a0 = 4 ∨ h.1 a0 = 5 ∨ h.1 a0 = 1 ∨ h.1 a0 = 2) from by omega) 14
      have y_15 : (q_5.1 a0 14).toInt = (q.1 a0 14).toInt := by rw [z_14]
      have z_16 : q_5.1 t0 1 = q.1 t0 1 := h2_q_5.I ht0 (show ¬ (h.1 t0 = 4 ∨ h.1 t0 = 5 ∨ h.1 t0 = 1 ∨ h.1 t0 = 2) from by omega) 1
      have y_17 : (q_5.1 t0 1).toInt = (q.1 t0 1).toInt := by rw [z_16]
      have z_18 : q_5.2.2.1 a0 0 = t0 := (h2_q_5.R ha0 (show ¬ ((h.1 a0 = 4 ∨ h.1 a0 = 5 ∨ h.1 a0 = 1 ∨ h.1 a0 = 2) ∧ (h.1 a0 = 8 ∨ h.1 a0 = 11)) from fun z9 => (show ¬ (h.1 a0 = 4 ∨ h.1 a0 = 5 ∨ h.1 a0 = 1 ∨ h.1 a0 = 2) from by omega) z9.1) 0).trans (et0)
      exact hret _ _ _ _ dX11_bound_49 ⟨hV_q_5, hF_q_5, ⟨z_18, by omega, by omega⟩⟩
    · refine wa_iconst B (-1) dX11_bound_34 (by decide) ?_
      refine wa_goto B 49 dX11_bound_35 (by decide) ?_
      have z_19 : q_5.1 a0 14 = q.1 a0 14 := h2_q_5.I ha0 (show ¬ (h.1 a0 = 4 ∨ h.1 a0 = 5 ∨ h.1 a0 = 1 ∨ h.1 a0 = 2) from by omega) 14
      have y_20 : (q_5.1 a0 14).toInt = (q.1 a0 14).toInt := by rw [z_19]
      have z_21 : q_5.1 t0 1 = q.1 t0 1 := h2_q_5.I ht0 (show ¬ (h.1 t0 = 4 ∨ h.1 t0 = 5 ∨ h.1 t0 = 1 ∨ h.1 t0 = 2) from by omega) 1
      have y_22 : (q_5.1 t0 1).toInt = (q.1 t0 1).toInt := by rw [z_21]
      have z_23 : q_5.2.2.1 a0 0 = t0 := (h2_q_5.R ha0 (show ¬ ((h.1 a0 = 4 ∨ h.1 a0 = 5 ∨ h.1 a0 = 1 ∨ h.1 a0 = 2) ∧ (h.1 a0 = 8 ∨ h.1 a0 = 11)) from fun z9 => (show ¬ (h.1 a0 = 4 ∨ h.1 a0 = 5 ∨ h.1 a0 = 1 ∨ h.1 a0 = 2) from by omega) z9.1) 0).trans (et0)
      exact hret _ _ _ _ dX11_bound_49 ⟨hV_q_5, hF_q_5, ⟨z_23, by have h9 : ((-1) : Int32).toInt = (-1) := rfl; omega, by have h9 : ((-1) : Int32).toInt = (-1) := rfl; omega⟩⟩
  · exact hthr _ _ dX11_bound_9 dX11_bound_12 dX11_bound_13 dX11_bound_15 dX11_bound_18
theorem iq_X11_digit_X1 : ∀ w ∈ wsX10, w ∈ wsX11_digit := fun _ h => List.mem_cons_of_mem _ (List.mem_append_left _ (List.mem_append_left _ (List.mem_append_left _ (List.mem_append_right _ h))))
theorem iq_X11_digit_X11 : ∀ w ∈ wsX110, w ∈ wsX11_digit := fun _ h => List.mem_cons_of_mem _ (List.mem_append_left _ (List.mem_append_left _ (List.mem_append_left _ (List.mem_append_left _ (List.mem_append_left _ (List.mem_append_right _ h))))))
theorem iq_X11_digit_X5 : ∀ w ∈ wsX50, w ∈ wsX11_digit := fun _ h => List.mem_cons_of_mem _ (List.mem_append_left _ (List.mem_append_left _ (List.mem_append_left _ (List.mem_append_left _ (List.mem_append_right _ h)))))
set_option maxHeartbeats 4000000 in
set_option maxRecDepth 100000 in
theorem k_X11_digit (l : Launch) (hlst : l.stackTraces = false) (dC : Nat → ClassId) (dI : Nat → Nat → Nat) (h : Sh) (L : List Nat) (hN : sx_nd L) (q : Sg) (hV : sx_V h L q) {a0 : Nat} (ha0 : a0 ∈ L) (ka0 : h.1 a0 = 11) (n1 : Int32) (n2 : Int32) {t0 : Nat} (et0 : q.2.2.1 a0 0 = t0)    : CMx l dC dI h L yX11_digit wsX11_digit ({ frames := 10, cells := 1, slots := 6, locals := 243 } : Room) q [.ref a0, .int n1, .int n2] (fun r q' => sx_V h L q' ∧ sx_fr h L (fun a => sx_ck (h.1 a)) q q' ∧ (q'.2.2.1 a0 0 = t0 ∧ (q'.1 t0 1).toInt = (q.1 t0 1).toInt ∧ (q'.1 a0 14).toInt = (q.1 a0 14).toInt)) := by
  refine cm_x (cc := cX11_digit) (mL := 4) (is := 213) hlst hN (by decide) rfl rfl (Nat.le_of_ble_eq_true rfl) ⟨by decide, by decide, by decide, by decide⟩ (by decide +kernel) (by decide +kernel) (fun w hh => List.mem_cons_of_mem _ (List.mem_append_right _ hh)) (fun A U hZ => hZ.2.2.2.2.2.2.2.2.2.2) (fun Z B hret hthr => ?_)
  have hF : sx_fr h L (fun a => sx_ck (h.1 a)) q q := sx_fr.rf
  obtain ⟨ht0, kt0, lt0⟩ : t0 ∈ L ∧ h.1 t0 = 7 ∧ h.2.1 t0 = 1 := by obtain ⟨r9, e9, z1, z2, z3⟩ := hV.refn (t := 7) (n := 1) ha0 ka0 0 rfl (by decide) rfl (by decide); rw [← et0, e9]; exact ⟨z1, z2, z3⟩
  show WA l dC dI h L ({ frames := 10, cells := 1, slots := 6, locals := 243 } : Room) 4 Z q 0 [(0, .ref a0), (1, .int n1), (2, .int n2)] []
  refine wa_aload_n B dX11_digit_0 rfl 0 rfl ?_
  refine wa_iload_n B dX11_digit_1 rfl 1 rfl ?_
  refine wa_callVi B (x := (RX11, TX11, 16)) (As := [.int n1]) (rest := []) (k_X11_isTablet l dC dI h L hN q hV (a0 := a0) ha0 ka0 n1  ) (cwV 1 B.1.2.2.2.2 gX11_digit_X11_isTablet rfl rfl rfl (by decide +kernel) ⟨Nat.le_of_ble_eq_true rfl, Nat.le_of_ble_eq_true rfl⟩) ha0 ka0 (by decide) rfl rfl rfl (Nat.le_of_ble_eq_true rfl) dX11_digit_2 (fun r_2 q_1 w_3 => ?_)
  obtain ⟨ew_3, hw_3⟩ := w_3
  subst ew_3
  refine wa_if_eq B 25 dX11_digit_5 (by decide) (fun (t_4 : r_2.toInt = 0) => ?_) (fun (t_4 : ¬ r_2.toInt = 0) => ?_)
  · exact hthr _ _ dX11_digit_25 dX11_digit_28 dX11_digit_29 dX11_digit_31 dX11_digit_34
  · refine wa_iload_n B dX11_digit_8 rfl 2 rfl ?_
    refine wa_if_lt B 25 dX11_digit_9 (by decide) (fun (t_5 : n2.toInt < 0) => ?_) (fun (t_5 : ¬ n2.toInt < 0) => ?_)
    · exact hthr _ _ dX11_digit_25 dX11_digit_28 dX11_digit_29 dX11_digit_31 dX11_digit_34
    · refine wa_iload_n B dX11_digit_12 rfl 2 rfl ?_
      refine wa_aload_n B dX11_digit_13 rfl 0 rfl ?_
      obtain ⟨a_6, ea_6, ha_6, ka_6, la_6⟩ := hV.refn (n := 8) (t := 400) ha0 ka0 7 rfl (by decide) rfl (by decide)
      refine wa_getR B (C := RX11) (T := TX11) (N := 16) iq_X11_digit_X11 ha0 ka0 (by decide) rfl 7 (by decide) (by decide) (by decide +kernel) rfl (fun _ _ _ => rfl) (v := a_6) ea_6 dX11_digit_14 ?_
      refine wa_iload_n B dX11_digit_17 rfl 1 rfl ?_
      obtain ⟨a_7, ea_7, ha_7, ka_7⟩ := hV.elem (t := 5) ha_6 ka_6 (by decide) rfl (zx_ix (i := n1) (show 0 ≤ n1.toInt by omega) (show n1.toInt < (h.2.1 a_6 : Int) by omega))
      refine wa_aaload B (t0 := 3) ha_6 ka_6 (by decide) rfl (show 0 ≤ n1.toInt by omega) (show n1.toInt < (h.2.1 a_6 : Int) by omega) (v := a_7) ea_7 dX11_digit_18 ?_
      refine wa_getI B (C := RX5) (T := TX5) (N := 7) iq_X11_digit_X5 ha_7 ka_7 (by decide) rfl 3 (by decide) (by decide) (by decide +kernel) rfl (by decide) (v := (q.1 a_7 3)) rfl dX11_digit_19 ?_
      have g_8 : (0 : Int) ≤ (q.1 a_7 3).toInt ∧ (q.1 a_7 3).toInt ≤ 4 := hV.int ha_7 ka_7 3
      refine wa_icmp_lt B 35 dX11_digit_22 (by decide) (fun (t_9 : n2.toInt < (q.1 a_7 3).toInt) => ?_) (fun (t_9 : ¬ n2.toInt < (q.1 a_7 3).toInt) => ?_)
      · refine wa_aload_n B dX11_digit_35 rfl 0 rfl ?_
        refine wa_iload_n B dX11_digit_36 rfl 1 rfl ?_
        refine wa_callVr B (x := (RX11, TX11, 16)) (As := [.int n1]) (rest := []) (k_X11_solved l dC dI h L hN q hV (a0 := a0) ha0 ka0 n1  (by first | assumption | omega | decide) (by first | assumption | omega | decide)) (cwV 1 B.1.2.2.2.2 gX11_digit_X11_solved rfl rfl rfl (by decide +kernel) ⟨Nat.le_of_ble_eq_true rfl, Nat.le_of_ble_eq_true rfl⟩) ha0 ka0 (by decide) rfl rfl rfl (Nat.le_of_ble_eq_true rfl) dX11_digit_37 (fun r_11 q_10 w_12 => ?_)
        obtain ⟨hV_q_10, h2_q_10, hw_12⟩ := w_12
        have hF_q_10 : sx_fr h L (fun a => sx_ck (h.1 a)) q q_10 := hF.tr (h2_q_10.mono (fun a (z : h.1 a = 4 ∨ h.1 a = 5 ∨ h.1 a = 1 ∨ h.1 a = 2) => (show sx_ck (h.1 a) from by (try unfold sx_mk at *); (try unfold sx_ck at *); omega)))
        obtain ⟨hr_11, kr_11⟩ := hw_12
        refine wa_astore_n B [(3, .ref r_11), (0, .ref a0), (1, .int n1), (2, .int n2)] dX11_digit_40 rfl (by decide) rfl ?_
        refine wa_aload_n B dX11_digit_41 rfl 0 rfl ?_
        refine wa_getI B (C := RX5) (T := TX5) (N := 7) iq_X11_digit_X5 hr_11 kr_11 (by decide) rfl 5 (by decide) (by decide) (by decide +kernel) rfl (by decide) (v := (q_10.1 r_11 5)) rfl dX11_digit_42 ?_
        refine wa_if_ne B 52 dX11_digit_45 (by decide) (fun (t_13 : ¬ (q_10.1 r_11 5).toInt = 0) => ?_) (fun (t_13 : (q_10.1 r_11 5).toInt = 0) => ?_)
        · refine wa_aload_n B dX11_digit_52 rfl 0 rfl ?_
          obtain ⟨a_14, ea_14, ha_14, ka_14, la_14⟩ := hV_q_10.refn (n := 4) (t := 402) hr_11 kr_11 1 rfl (by decide) rfl (by decide)
          refine wa_getR B (C := RX5) (T := TX5) (N := 7) iq_X11_digit_X5 hr_11 kr_11 (by decide) rfl 1 (by decide) (by decide) (by decide +kernel) rfl (fun _ _ _ => rfl) (v := a_14) ea_14 dX11_digit_53 ?_
          refine wa_iload_n B dX11_digit_56 rfl 3 rfl ?_
          obtain ⟨a_15, ea_15, ha_15, ka_15⟩ := hV_q_10.elem (t := 1) ha_14 ka_14 (by decide) rfl (zx_ix (i := n2) (show 0 ≤ n2.toInt by omega) (show n2.toInt < (h.2.1 a_14 : Int) by omega))
          refine wa_aaload B (t0 := 5) ha_14 ka_14 (by decide) rfl (show 0 ≤ n2.toInt by omega) (show n2.toInt < (h.2.1 a_14 : Int) by omega) (v := a_15) ea_15 dX11_digit_57 ?_
          refine wa_getI B (C := RX1) (T := TX1) (N := 7) iq_X11_digit_X1 ha_15 ka_15 (by decide) rfl 6 (by decide) (by decide) (by decide +kernel) rfl (by decide) (v := (q_10.1 a_15 6)) rfl dX11_digit_58 ?_
          have z_16 : q_10.1 a0 14 = q.1 a0 14 := h2_q_10.I ha0 (show ¬ (h.1 a0 = 4 ∨ h.1 a0 = 5 ∨ h.1 a0 = 1 ∨ h.1 a0 = 2) from by omega) 14
          have y_17 : (q_10.1 a0 14).toInt = (q.1 a0 14).toInt := by rw [z_16]
          have z_18 : q_10.1 t0 1 = q.1 t0 1 := h2_q_10.I ht0 (show ¬ (h.1 t0 = 4 ∨ h.1 t0 = 5 ∨ h.1 t0 = 1 ∨ h.1 t0 = 2) from by omega) 1
          have y_19 : (q_10.1 t0 1).toInt = (q.1 t0 1).toInt := by rw [z_18]
          have z_20 : q_10.2.2.1 a0 0 = t0 := (h2_q_10.R ha0 (show ¬ ((h.1 a0 = 4 ∨ h.1 a0 = 5 ∨ h.1 a0 = 1 ∨ h.1 a0 = 2) ∧ (h.1 a0 = 8 ∨ h.1 a0 = 11)) from fun z9 => (show ¬ (h.1 a0 = 4 ∨ h.1 a0 = 5 ∨ h.1 a0 = 1 ∨ h.1 a0 = 2) from by omega) z9.1) 0).trans (et0)
          exact hret _ _ _ _ dX11_digit_61 ⟨hV_q_10, hF_q_10, ⟨z_20, by omega, by omega⟩⟩
        · refine wa_iconst B (-1) dX11_digit_48 (by decide) ?_
          refine wa_goto B 61 dX11_digit_49 (by decide) ?_
          have z_21 : q_10.1 a0 14 = q.1 a0 14 := h2_q_10.I ha0 (show ¬ (h.1 a0 = 4 ∨ h.1 a0 = 5 ∨ h.1 a0 = 1 ∨ h.1 a0 = 2) from by omega) 14
          have y_22 : (q_10.1 a0 14).toInt = (q.1 a0 14).toInt := by rw [z_21]
          have z_23 : q_10.1 t0 1 = q.1 t0 1 := h2_q_10.I ht0 (show ¬ (h.1 t0 = 4 ∨ h.1 t0 = 5 ∨ h.1 t0 = 1 ∨ h.1 t0 = 2) from by omega) 1
          have y_24 : (q_10.1 t0 1).toInt = (q.1 t0 1).toInt := by rw [z_23]
          have z_25 : q_10.2.2.1 a0 0 = t0 := (h2_q_10.R ha0 (show ¬ ((h.1 a0 = 4 ∨ h.1 a0 = 5 ∨ h.1 a0 = 1 ∨ h.1 a0 = 2) ∧ (h.1 a0 = 8 ∨ h.1 a0 = 11)) from fun z9 => (show ¬ (h.1 a0 = 4 ∨ h.1 a0 = 5 ∨ h.1 a0 = 1 ∨ h.1 a0 = 2) from by omega) z9.1) 0).trans (et0)
          exact hret _ _ _ _ dX11_digit_61 ⟨hV_q_10, hF_q_10, ⟨z_25, by have h9 : ((-1) : Int32).toInt = (-1) := rfl; omega, by have h9 : ((-1) : Int32).toInt = (-1) := rfl; omega⟩⟩
      · exact hthr _ _ dX11_digit_25 dX11_digit_28 dX11_digit_29 dX11_digit_31 dX11_digit_34
