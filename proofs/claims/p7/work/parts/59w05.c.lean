set_option maxHeartbeats 4000000 in
set_option maxRecDepth 100000 in
theorem k_X11_octet_e (l : Launch) (hlst : l.stackTraces = false) (dC : Nat → ClassId) (dI : Nat → Nat → Nat) (h : Sh) (L : List Nat) (hN : sx_nd L) (q : Sg) (hV : sx_V h L q) {a0 : Nat} (ha0 : a0 ∈ L) (ka0 : h.1 a0 = 11) (n1 : Int32) {o0 : Nat} (eo0 : q.2.2.1 a0 1 = o0) {ob : Nat} (eob : q.2.2.1 o0 0 = ob)    : CMy l dC dI h L yX11_octet wsX11_octet ({ frames := 6, cells := 1, slots := 6, locals := 82 } : Room) q [.ref a0, .int n1] (¬ (0 ≤ n1.toInt ∧ n1.toInt < (q.1 o0 1).toInt)) (fun r q' => q = q' ∧ ((0 ≤ n1.toInt ∧ n1.toInt < (q.1 o0 1).toInt) ∧ r = (q.2.2.2.1 ob n1.toNatClampNeg &&& 255))) := by
  refine cm_y (cc := cX11_octet) (mL := 2) (is := 160) hlst hN (by decide) rfl rfl (Nat.le_of_ble_eq_true rfl) ⟨by decide, by decide, by decide, by decide⟩ (by decide +kernel) (by decide +kernel) (fun w hh => List.mem_cons_of_mem _ (List.mem_append_right _ hh)) (fun A U hZ => hZ.2.2.2.2.2.2.2.1) (fun Z B hret hthr => ?_)
  obtain ⟨ho0, ko0, lo0⟩ : o0 ∈ L ∧ h.1 o0 = 7 ∧ h.2.1 o0 = 2 := by obtain ⟨r9, e9, z1, z2, z3⟩ := hV.refn (t := 7) (n := 2) ha0 ka0 1 rfl (by decide) rfl (by decide); rw [← eo0, e9]; exact ⟨z1, z2, z3⟩
  obtain ⟨hob, kob, lob⟩ : ob ∈ L ∧ h.1 ob = 300 ∧ h.2.1 ob = 59 := by obtain ⟨r9, e9, z1, z2, z3⟩ := hV.refn (t := 300) (n := 59) ho0 ko0 0 rfl (by decide) (by rw [lo0]; rfl) (by decide); rw [← eob, e9]; exact ⟨z1, z2, z3⟩
  show WA l dC dI h L ({ frames := 6, cells := 1, slots := 6, locals := 82 } : Room) 2 Z q 0 [(0, .ref a0), (1, .int n1)] []
  refine wa_iload_n B dX11_octet_0 rfl 1 rfl ?_
  refine wa_if_lt B 15 dX11_octet_1 (by decide) (fun (t_1 : n1.toInt < 0) => ?_) (fun (t_1 : ¬ n1.toInt < 0) => ?_)
  · exact hthr _ _ (by omega) dX11_octet_15 dX11_octet_18 dX11_octet_19 dX11_octet_21 dX11_octet_24
  · refine wa_iload_n B dX11_octet_4 rfl 1 rfl ?_
    refine wa_aload_n B dX11_octet_5 rfl 0 rfl ?_
    refine wa_getR B (C := RX11) (T := TX11) (N := 16) iq_X11_octet_X11 ha0 ka0 (by decide) rfl 1 (by decide) (by decide) (by decide +kernel) rfl (fun _ _ _ => rfl) (v := o0) eo0 dX11_octet_6 ?_
    refine wa_getI B (C := RX7) (T := TX7) (N := 2) iq_X11_octet_X7 ho0 ko0 (by decide) rfl 1 (by decide) (by decide) (by decide +kernel) rfl (by decide) (v := (q.1 o0 1)) rfl dX11_octet_9 ?_
    have g_2 : (0 : Int) ≤ (q.1 o0 1).toInt ∧ (q.1 o0 1).toInt ≤ (h.2.1 ob : Int) := by have z9 := hV.int ho0 ko0 1; rw [eob] at z9; exact z9
    refine wa_icmp_lt B 25 dX11_octet_12 (by decide) (fun (t_3 : n1.toInt < (q.1 o0 1).toInt) => ?_) (fun (t_3 : ¬ n1.toInt < (q.1 o0 1).toInt) => ?_)
    · refine wa_aload_n B dX11_octet_25 rfl 0 rfl ?_
      refine wa_getR B (C := RX11) (T := TX11) (N := 16) iq_X11_octet_X11 ha0 ka0 (by decide) rfl 1 (by decide) (by decide) (by decide +kernel) rfl (fun _ _ _ => rfl) (v := o0) eo0 dX11_octet_26 ?_
      refine wa_iload_n B dX11_octet_29 rfl 1 rfl ?_
      refine wa_callVi B (x := (RX7, TX7, 2)) (As := [.int n1]) (rest := []) (k_X7_byteAt_c l dC dI h L hN q hV (a0 := o0) ho0 ko0 n1 (b0 := ob) eob  ) (cwV 1 B.1.2.2.2.2 gX11_octet_X7_byteAt rfl rfl rfl (by decide +kernel) ⟨Nat.le_of_ble_eq_true rfl, Nat.le_of_ble_eq_true rfl⟩) ho0 ko0 (by decide) rfl rfl rfl (Nat.le_of_ble_eq_true rfl) dX11_octet_30 (fun r_5 q_4 w_6 => ?_)
      obtain ⟨ew_6, hw_6⟩ := w_6
      subst ew_6
      exact hret _ _ _ _ dX11_octet_33 ⟨rfl, ⟨by omega, hw_6.2.2 ⟨by omega, by omega⟩⟩⟩
    · exact hthr _ _ (by omega) dX11_octet_15 dX11_octet_18 dX11_octet_19 dX11_octet_21 dX11_octet_24
