set_option maxHeartbeats 4000000 in
set_option maxRecDepth 100000 in
theorem k_X11_isSystem_c (l : Launch) (dC : Nat → ClassId) (dI : Nat → Nat → Nat) (h : Sh) (L : List Nat) (hN : sx_nd L) (q : Sg) (hV : sx_V h L q) {a0 : Nat} (ha0 : a0 ∈ L) (ka0 : h.1 a0 = 11) (n1 : Int32) {uu : Nat} (euu : q.2.2.1 a0 11 = uu)    : CMi l dC dI h L yX11_isSystem wsX11_isSystem ({ frames := 0, cells := 0, slots := 0, locals := 0 } : Room) q [.ref a0, .int n1] (fun r q' => q = q' ∧ (r.toInt = 1 ∧ 0 ≤ n1.toInt ∧ n1.toInt < (q.1 uu 6).toInt ∧ n1.toInt < 3 ∨ r.toInt = 0 ∧ ¬ (0 ≤ n1.toInt ∧ n1.toInt < (q.1 uu 6).toInt))) := by
  refine cm_z (cc := cX11_isSystem) (mL := 2) (own := RX11) hN (by decide) rfl rfl (Nat.le_of_ble_eq_true rfl) (fun Z B hret => ?_)
  obtain ⟨huu, kuu⟩ : uu ∈ L ∧ h.1 uu = 9 := by obtain ⟨r9, e9, z1, z2⟩ := hV.ref (t := 9) ha0 ka0 11 rfl (by decide); rw [← euu, e9]; exact ⟨z1, z2⟩
  show WA l dC dI h L ({ frames := 0, cells := 0, slots := 0, locals := 0 } : Room) 2 Z q 0 [(0, .ref a0), (1, .int n1)] []
  refine wa_iload_n B dX11_isSystem_0 rfl 1 rfl ?_
  refine wa_if_lt B 19 dX11_isSystem_1 (by decide) (fun (t_1 : n1.toInt < 0) => ?_) (fun (t_1 : ¬ n1.toInt < 0) => ?_)
  · refine wa_iconst B 0 dX11_isSystem_19 (by decide) ?_
    exact hret _ _ _ _ dX11_isSystem_20 (Or.inl rfl) ⟨rfl, (by have h9 : (0 : Int32).toInt = 0 := rfl; first | omega | (refine ⟨?_, ?_⟩ <;> omega) | trivial)⟩
  · refine wa_iload_n B dX11_isSystem_4 rfl 1 rfl ?_
    refine wa_aload_n B dX11_isSystem_5 rfl 0 rfl ?_
    refine wa_getR B (C := RX11) (T := TX11) (N := 16) iq_X11_isSystem_X11 ha0 ka0 (by decide) rfl 11 (by decide) (by decide) (by decide +kernel) rfl (fun _ _ _ => rfl) (v := uu) euu dX11_isSystem_6 ?_
    refine wa_getI B (C := RX9) (T := TX9) (N := 7) iq_X11_isSystem_X9 huu kuu (by decide) rfl 6 (by decide) (by decide) (by decide +kernel) rfl (by decide) (v := (q.1 uu 6)) rfl dX11_isSystem_9 ?_
    have g_2 : (0 : Int) ≤ (q.1 uu 6).toInt ∧ (q.1 uu 6).toInt ≤ 3 := hV.int huu kuu 6
    refine wa_icmp_ge B 19 dX11_isSystem_12 (by decide) (fun (t_3 : (q.1 uu 6).toInt ≤ n1.toInt) => ?_) (fun (t_3 : ¬ (q.1 uu 6).toInt ≤ n1.toInt) => ?_)
    · refine wa_iconst B 0 dX11_isSystem_19 (by decide) ?_
      exact hret _ _ _ _ dX11_isSystem_20 (Or.inl rfl) ⟨rfl, (by have h9 : (0 : Int32).toInt = 0 := rfl; first | omega | (refine ⟨?_, ?_⟩ <;> omega) | trivial)⟩
    · refine wa_iconst B 1 dX11_isSystem_15 (by decide) ?_
      refine wa_goto B 20 dX11_isSystem_16 (by decide) ?_
      exact hret _ _ _ _ dX11_isSystem_20 (Or.inr rfl) ⟨rfl, (by have h9 : (1 : Int32).toInt = 1 := rfl; first | omega | (refine ⟨?_, ?_⟩ <;> omega) | trivial)⟩
set_option maxHeartbeats 4000000 in
set_option maxRecDepth 100000 in
theorem k_X11_system_e (l : Launch) (hlst : l.stackTraces = false) (dC : Nat → ClassId) (dI : Nat → Nat → Nat) (h : Sh) (L : List Nat) (hN : sx_nd L) (q : Sg) (hV : sx_V h L q) {a0 : Nat} (ha0 : a0 ∈ L) (ka0 : h.1 a0 = 11) (n1 : Int32) (n2 : Int32) {uu : Nat} (euu : q.2.2.1 a0 11 = uu) {c0 : Nat} (ec0 : q.2.2.1 uu 1 = c0) {f0 : Nat} (ef0 : q.2.2.1 uu 3 = f0)    : CMy l dC dI h L yX11_system wsX11_system ({ frames := 6, cells := 1, slots := 6, locals := 82 } : Room) q [.ref a0, .int n1, .int n2] (¬ sy_ok (q.1 uu 6) n1 n2) (fun r q' => q = q' ∧ (sy_ok (q.1 uu 6) n1 n2 ∧ sy_an n1 n2 (q.2.2.2.1 c0) (q.2.2.2.1 f0) r)) := by
  refine cm_y (cc := cX11_system) (mL := 3) (is := 137) hlst hN (by decide) rfl rfl (Nat.le_of_ble_eq_true rfl) ⟨by decide, by decide, by decide, by decide⟩ (by decide +kernel) (by decide +kernel) (fun w hh => List.mem_cons_of_mem _ (List.mem_append_right _ hh)) (fun A U hZ => hZ.2.2.2.2.2.2.1) (fun Z B hret hthr => ?_)
  obtain ⟨huu, kuu⟩ : uu ∈ L ∧ h.1 uu = 9 := by obtain ⟨r9, e9, z1, z2⟩ := hV.ref (t := 9) ha0 ka0 11 rfl (by decide); rw [← euu, e9]; exact ⟨z1, z2⟩
  obtain ⟨hc0, kc0, lc0⟩ : c0 ∈ L ∧ h.1 c0 = 101 ∧ h.2.1 c0 = 3 := by obtain ⟨r9, e9, z1, z2, z3⟩ := hV.refn (t := 101) (n := 3) huu kuu 1 rfl (by decide) rfl (by decide); rw [← ec0, e9]; exact ⟨z1, z2, z3⟩
  obtain ⟨hf0, kf0, lf0⟩ : f0 ∈ L ∧ h.1 f0 = 102 ∧ h.2.1 f0 = 15 := by obtain ⟨r9, e9, z1, z2, z3⟩ := hV.refn (t := 102) (n := 15) huu kuu 3 rfl (by decide) rfl (by decide); rw [← ef0, e9]; exact ⟨z1, z2, z3⟩
  show WA l dC dI h L ({ frames := 6, cells := 1, slots := 6, locals := 82 } : Room) 3 Z q 0 [(0, .ref a0), (1, .int n1), (2, .int n2)] []
  refine wa_aload_n B dX11_system_0 rfl 0 rfl ?_
  refine wa_iload_n B dX11_system_1 rfl 1 rfl ?_
  refine wa_callVi B (x := (RX11, TX11, 16)) (As := [.int n1]) (rest := []) (k_X11_isSystem_c l dC dI h L hN q hV (a0 := a0) ha0 ka0 n1 (uu := uu) euu  ) (cwV 1 B.1.2.2.2.2 gX11_system_X11_isSystem rfl rfl rfl (by decide +kernel) ⟨Nat.le_of_ble_eq_true rfl, Nat.le_of_ble_eq_true rfl⟩) ha0 ka0 (by decide) rfl rfl rfl (Nat.le_of_ble_eq_true rfl) dX11_system_2 (fun r_2 q_1 w_3 => ?_)
  obtain ⟨ew_3, hw_3⟩ := w_3
  subst ew_3
  refine wa_if_eq B 17 dX11_system_5 (by decide) (fun (t_4 : r_2.toInt = 0) => ?_) (fun (t_4 : ¬ r_2.toInt = 0) => ?_)
  · exact hthr _ _ (by unfold sy_ok; omega) dX11_system_17 dX11_system_20 dX11_system_21 dX11_system_23 dX11_system_26
  · refine wa_iload_n B dX11_system_8 rfl 2 rfl ?_
    refine wa_if_lt B 17 dX11_system_9 (by decide) (fun (t_5 : n2.toInt < 0) => ?_) (fun (t_5 : ¬ n2.toInt < 0) => ?_)
    · exact hthr _ _ (by unfold sy_ok; omega) dX11_system_17 dX11_system_20 dX11_system_21 dX11_system_23 dX11_system_26
    · refine wa_iload_n B dX11_system_12 rfl 2 rfl ?_
      refine wa_iconst B 5 dX11_system_13 (by decide) ?_
      refine wa_icmp_lt B 27 dX11_system_14 (by decide) (fun (t_6 : n2.toInt < 5) => ?_) (fun (t_6 : ¬ n2.toInt < 5) => ?_)
      · refine wa_iload_n B dX11_system_27 rfl 2 rfl ?_
        refine wa_if_ne B 41 dX11_system_28 (by decide) (fun (t_7 : ¬ n2.toInt = 0) => ?_) (fun (t_7 : n2.toInt = 0) => ?_)
        · refine wa_iload_n B dX11_system_41 rfl 2 rfl ?_
          refine wa_aload_n B dX11_system_42 rfl 0 rfl ?_
          refine wa_getR B (C := RX11) (T := TX11) (N := 16) iq_X11_system_X11 ha0 ka0 (by decide) rfl 11 (by decide) (by decide) (by decide +kernel) rfl (fun _ _ _ => rfl) (v := uu) euu dX11_system_43 ?_
          refine wa_getR B (C := RX9) (T := TX9) (N := 7) iq_X11_system_X9 huu kuu (by decide) rfl 1 (by decide) (by decide) (by decide +kernel) rfl (fun _ _ _ => rfl) (v := c0) ec0 dX11_system_46 ?_
          refine wa_iload_n B dX11_system_49 rfl 1 rfl ?_
          refine wa_iaload B hc0 kc0 (by decide) (by decide) (show 0 ≤ n1.toInt by omega) (show n1.toInt < (h.2.1 c0 : Int) by omega) (v := (q.2.2.2.1 c0 (n1 : Int32).toNatClampNeg)) rfl dX11_system_50 ?_
          have g_8 : (0 : Int) ≤ ((q.2.2.2.1 c0 (n1 : Int32).toNatClampNeg)).toInt ∧ ((q.2.2.2.1 c0 (n1 : Int32).toNatClampNeg)).toInt ≤ 5 := hV.cnt hc0 kc0 _
          refine wa_icmp_ge B 70 dX11_system_51 (by decide) (fun (t_9 : ((q.2.2.2.1 c0 (n1 : Int32).toNatClampNeg)).toInt ≤ n2.toInt) => ?_) (fun (t_9 : ¬ ((q.2.2.2.1 c0 (n1 : Int32).toNatClampNeg)).toInt ≤ n2.toInt) => ?_)
          · refine wa_iconst B (-1) dX11_system_70 (by decide) ?_
            exact hret _ _ _ _ dX11_system_71 ⟨rfl, ⟨by unfold sy_ok; omega, Or.inr (Or.inr ⟨⟨by omega, by omega⟩, rfl⟩)⟩⟩
          · refine wa_aload_n B dX11_system_54 rfl 0 rfl ?_
            refine wa_getR B (C := RX11) (T := TX11) (N := 16) iq_X11_system_X11 ha0 ka0 (by decide) rfl 11 (by decide) (by decide) (by decide +kernel) rfl (fun _ _ _ => rfl) (v := uu) euu dX11_system_55 ?_
            refine wa_getR B (C := RX9) (T := TX9) (N := 7) iq_X11_system_X9 huu kuu (by decide) rfl 3 (by decide) (by decide) (by decide +kernel) rfl (fun _ _ _ => rfl) (v := f0) ef0 dX11_system_58 ?_
            refine wa_iload_n B dX11_system_61 rfl 1 rfl ?_
            refine wa_iload_n B dX11_system_62 rfl 2 rfl ?_
            refine wa_callSi B (As := [.int n1, .int n2]) (rest := [.ref f0]) (k_X9_slot l dC dI h L hN q hV n1 n2  (by first | assumption | omega | decide) (by first | assumption | omega | decide) (by first | assumption | omega | decide) (by first | assumption | omega | decide)) (va_cwS 2 B.1.2.2.2.2 gX11_system_X9_slot rfl rfl rfl (by decide +kernel) ⟨Nat.le_of_ble_eq_true rfl, Nat.le_of_ble_eq_true rfl⟩) rfl rfl (Nat.le_of_ble_eq_true rfl) dX11_system_63 (fun r_11 q_10 w_12 => ?_)
            obtain ⟨ew_12, hw_12⟩ := w_12
            subst ew_12
            refine wa_iaload B hf0 kf0 (by decide) (by decide) (show 0 ≤ r_11.toInt by omega) (show r_11.toInt < (h.2.1 f0 : Int) by omega) (v := (q.2.2.2.1 f0 (r_11 : Int32).toNatClampNeg)) rfl dX11_system_66 ?_
            refine wa_goto B 71 dX11_system_67 (by decide) ?_
            exact hret _ _ _ _ dX11_system_71 ⟨rfl, ⟨by unfold sy_ok; omega, Or.inr (Or.inl ⟨⟨by omega, by omega⟩, by rw [show (r_11 : Int32).toNatClampNeg = 5 * n1.toNatClampNeg + n2.toNatClampNeg by have a9 := zx_nc r_11; have a8 := zx_nc n1; have a7 := zx_nc n2; omega]⟩)⟩⟩
        · refine wa_aload_n B dX11_system_31 rfl 0 rfl ?_
          refine wa_getR B (C := RX11) (T := TX11) (N := 16) iq_X11_system_X11 ha0 ka0 (by decide) rfl 11 (by decide) (by decide) (by decide +kernel) rfl (fun _ _ _ => rfl) (v := uu) euu dX11_system_32 ?_
          refine wa_getR B (C := RX9) (T := TX9) (N := 7) iq_X11_system_X9 huu kuu (by decide) rfl 1 (by decide) (by decide) (by decide +kernel) rfl (fun _ _ _ => rfl) (v := c0) ec0 dX11_system_35 ?_
          refine wa_iload_n B dX11_system_38 rfl 1 rfl ?_
          refine wa_iaload B hc0 kc0 (by decide) (by decide) (show 0 ≤ n1.toInt by omega) (show n1.toInt < (h.2.1 c0 : Int) by omega) (v := (q.2.2.2.1 c0 (n1 : Int32).toNatClampNeg)) rfl dX11_system_39 ?_
          have g_13 : (0 : Int) ≤ ((q.2.2.2.1 c0 (n1 : Int32).toNatClampNeg)).toInt ∧ ((q.2.2.2.1 c0 (n1 : Int32).toNatClampNeg)).toInt ≤ 5 := hV.cnt hc0 kc0 _
          exact hret _ _ _ _ dX11_system_40 ⟨rfl, ⟨by unfold sy_ok; omega, Or.inl ⟨by omega, rfl⟩⟩⟩
      · exact hthr _ _ (by unfold sy_ok; omega) dX11_system_17 dX11_system_20 dX11_system_21 dX11_system_23 dX11_system_26
