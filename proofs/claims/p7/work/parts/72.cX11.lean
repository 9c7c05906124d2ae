theorem iq_X11_init_X0 : ∀ w ∈ wsX00, w ∈ wsX11_init := fun _ h => List.mem_cons_of_mem _ (List.mem_append_left _ (List.mem_append_left _ (List.mem_append_left _ (List.mem_append_right _ h))))
theorem iq_X11_init_X3 : ∀ w ∈ wsX30, w ∈ wsX11_init := fun _ h => List.mem_cons_of_mem _ (List.mem_append_left _ (List.mem_append_left _ (List.mem_append_left _ (List.mem_append_left _ (List.mem_append_left _ (List.mem_append_left _ (List.mem_append_right _ h)))))))
theorem iq_X11_init_X4 : ∀ w ∈ wsX40, w ∈ wsX11_init := fun _ h => List.mem_cons_of_mem _ (List.mem_append_left _ (List.mem_append_left _ (List.mem_append_left _ (List.mem_append_left _ (List.mem_append_left _ (List.mem_append_left _ (List.mem_append_left _ (List.mem_append_right _ h))))))))
theorem iq_X11_init_X5 : ∀ w ∈ wsX50, w ∈ wsX11_init := fun _ h => List.mem_cons_of_mem _ (List.mem_append_left _ (List.mem_append_left _ (List.mem_append_left _ (List.mem_append_left _ (List.mem_append_left _ (List.mem_append_right _ h))))))
theorem iq_X11_init_X6 : ∀ w ∈ wsX60, w ∈ wsX11_init := fun _ h => List.mem_cons_of_mem _ (List.mem_append_left _ (List.mem_append_left _ (List.mem_append_left _ (List.mem_append_left _ (List.mem_append_left _ (List.mem_append_left _ (List.mem_append_left _ (List.mem_append_left _ (List.mem_append_right _ h)))))))))
theorem iq_X11_init_X7 : ∀ w ∈ wsX70, w ∈ wsX11_init := fun _ h => List.mem_cons_of_mem _ (List.mem_append_left _ (List.mem_append_left _ (List.mem_append_left _ (List.mem_append_left _ (List.mem_append_left _ (List.mem_append_left _ (List.mem_append_left _ (List.mem_append_left _ (List.mem_append_left _ (List.mem_append_left _ (List.mem_append_left _ (List.mem_append_right _ h))))))))))))
theorem iq_X11_init_X9 : ∀ w ∈ wsX90, w ∈ wsX11_init := fun _ h => List.mem_cons_of_mem _ (List.mem_append_left _ (List.mem_append_left _ (List.mem_append_left _ (List.mem_append_left _ (List.mem_append_right _ h)))))
theorem iq_X11_init_X10 : ∀ w ∈ wsX100, w ∈ wsX11_init := fun _ h => List.mem_cons_of_mem _ (List.mem_append_left _ (List.mem_append_left _ (List.mem_append_left _ (List.mem_append_left _ (List.mem_append_left _ (List.mem_append_left _ (List.mem_append_left _ (List.mem_append_left _ (List.mem_append_left _ (List.mem_append_right _ h))))))))))
theorem iq_X11_init_X11 : ∀ w ∈ wsX110, w ∈ wsX11_init := fun _ h => List.mem_cons_of_mem _ (List.mem_append_left _ (List.mem_append_left _ (List.mem_append_left _ (List.mem_append_left _ (List.mem_append_left _ (List.mem_append_left _ (List.mem_append_left _ (List.mem_append_left _ (List.mem_append_left _ (List.mem_append_left _ (List.mem_append_right _ h)))))))))))
set_option maxHeartbeats 4000000 in
set_option maxRecDepth 100000 in
theorem cc_X11 (l : Launch) (dC : Nat → ClassId) (dI : Nat → Nat → Nat) (cT : Nat → ClassId) (a0 : Nat) : CCI l dC dI cT yX11_init wsX11_init ({ frames := 4, cells := 267, slots := 9348, locals := 79 } : Room) 11 [.null, .null, .null, .null, .null, .null, .null, .null, .null, .null, .null, .null, .null, .int 0, .int 0, .int 0] [] a0 (fun u => cc_f u.1 u.2.2 a0 14 ∧ cc_f u.1 u.2.2 (u.2.2.2.2.1 a0 0) 1 ∧ cc_d u.1 u.2.1 (u.2.2.2.2.1 a0 9) ∧ cc_ua u.1 u.2.2 (u.2.2.2.2.1 a0 11) (u.2.2.2.2.1 a0 12) ∧ cc_f u.1 u.2.2 (u.2.2.2.2.1 a0 11) 6 ∧ cc_f u.1 u.2.2 (u.2.2.2.2.1 a0 1) 1) 267 9348 := by
  refine cc_v (cc := cX11_init) (own := RX11) (mL := 2) (by decide) rfl rfl rfl (Nat.le_of_ble_eq_true rfl) ?_
  intro sz Z hlt hsz B ret
  have hcT : (cc_h0 cT).2.2.1 = cT := rfl
  have hV : sx_V (cc_h0 cT) [] cc_q0 := cc_V0
  refine wc_aload_n B dX11_init_0 rfl 0 rfl ?_
  refine wc_objInit B (by decide +kernel) (by decide +kernel) (by decide +kernel) (Nat.le_of_ble_eq_true rfl) (Nat.le_of_ble_eq_true rfl) dX11_init_1 ?_
  refine wc_aload_n B dX11_init_4 rfl 0 rfl ?_
  refine wc_nw B (C := RX7) (T := TX7) (N := 2) (ci := 7) (fs := [.null, .int 0]) iq_X11_init_X7 tyX7 tyX7_ok (by decide +kernel) (by decide +kernel) (by decide +kernel) rfl (fun j hj => zz_defX7 j hj) (Nat.le_of_ble_eq_true rfl) (Nat.le_of_ble_eq_true rfl) dX11_init_5 (fun b1 => ?_)
  refine wc_dup B dX11_init_8 rfl ?_
  refine wc_sipush B 440 dX11_init_9 (by decide) ?_
  refine wc_init B (As := [.int 440]) (rest := [.ref b1, .ref a0]) (X2 := [(a0, .inr (11, [.null, .null, .null, .null, .null, .null, .null, .null, .null, .null, .null, .null, .null, .int 0, .int 0, .int 0]))]) 1 rfl rfl (cc_X7 l dC dI cT b1 1 440 440 rfl (by decide) (by decide) (by decide)) (cwI 1 B.1.2.2.2.2 gX11_init_X7_init rfl rfl rfl (B.1.2.2.2.2 (.initialized RX7) (by decide +kernel)) (B.1.2.2.2.2 (.methodLink RX11 11 yX7_init) (by decide +kernel)) (B.1.2.2.2.2 (.instanceMethod yX7_init) (by decide +kernel)) rfl (by decide +kernel) ⟨(Nat.le_of_ble_eq_true rfl), (Nat.le_of_ble_eq_true rfl)⟩) hcT hV rfl rfl (Nat.le_of_ble_eq_true rfl) (Nat.le_of_ble_eq_true rfl) (Nat.le_of_ble_eq_true rfl) dX11_init_12 (fun M g r M0 g0 r0 hg hg0 hx hb9 hk9 hcT hV => ?_)
  have y_b1 := hx.1.gr hg0
  have f_b1 := hx.2.gr hg0
  clear hx hb9 hk9 hg hg0
  refine wc_putF B (C := RX11) (T := TX11) (N := 16) (X2 := [(a0, .inr (11, [.ref b1, .null, .null, .null, .null, .null, .null, .null, .null, .null, .null, .null, .null, .int 0, .int 0, .int 0]))]) iq_X11_init_X11 0 rfl rfl 0 (by decide) (by decide +kernel) rfl (v := .ref b1) (ty := (.object "ClayAccounts$Text")) tyX11 tyX11_ok nmX11 rfl rfl (by decide +kernel) rfl rfl (Nat.le_of_ble_eq_true rfl) rfl dX11_init_15 ?_
  refine wc_aload_n B dX11_init_18 rfl 0 rfl ?_
  refine wc_nw B (C := RX7) (T := TX7) (N := 2) (ci := 7) (fs := [.null, .int 0]) iq_X11_init_X7 tyX7 tyX7_ok (by decide +kernel) (by decide +kernel) (by decide +kernel) rfl (fun j hj => zz_defX7 j hj) (Nat.le_of_ble_eq_true rfl) (Nat.le_of_ble_eq_true rfl) dX11_init_19 (fun b2 => ?_)
  refine wc_dup B dX11_init_22 rfl ?_
  refine wc_bipush B 59 dX11_init_23 (by decide) ?_
  refine wc_init B (As := [.int 59]) (rest := [.ref b2, .ref a0]) (X2 := [(a0, .inr (11, [.ref b1, .null, .null, .null, .null, .null, .null, .null, .null, .null, .null, .null, .null, .int 0, .int 0, .int 0]))]) 1 rfl rfl (cc_X7 l dC dI cT b2 2 59 59 rfl (by decide) (by decide) (by decide)) (cwI 1 B.1.2.2.2.2 gX11_init_X7_init rfl rfl rfl (B.1.2.2.2.2 (.initialized RX7) (by decide +kernel)) (B.1.2.2.2.2 (.methodLink RX11 11 yX7_init) (by decide +kernel)) (B.1.2.2.2.2 (.instanceMethod yX7_init) (by decide +kernel)) rfl (by decide +kernel) ⟨(Nat.le_of_ble_eq_true rfl), (Nat.le_of_ble_eq_true rfl)⟩) hcT hV rfl rfl (Nat.le_of_ble_eq_true rfl) (Nat.le_of_ble_eq_true rfl) (Nat.le_of_ble_eq_true rfl) dX11_init_25 (fun M g r M0 g0 r0 hg hg0 hx hb9 hk9 hcT hV => ?_)
  replace y_b1 := y_b1.gr hg
  replace f_b1 := f_b1.gr hg
  have y_b2 := hx.1.gr hg0
  have f_b2 := hx.2.gr hg0
  clear hx hb9 hk9 hg hg0
  refine wc_putF B (C := RX11) (T := TX11) (N := 16) (X2 := [(a0, .inr (11, [.ref b1, .ref b2, .null, .null, .null, .null, .null, .null, .null, .null, .null, .null, .null, .int 0, .int 0, .int 0]))]) iq_X11_init_X11 0 rfl rfl 1 (by decide) (by decide +kernel) rfl (v := .ref b2) (ty := (.object "ClayAccounts$Text")) tyX11 tyX11_ok nmX11 rfl rfl (by decide +kernel) rfl rfl (Nat.le_of_ble_eq_true rfl) rfl dX11_init_28 ?_
  refine wc_aload_n B dX11_init_31 rfl 0 rfl ?_
  refine wc_nw B (C := RX7) (T := TX7) (N := 2) (ci := 7) (fs := [.null, .int 0]) iq_X11_init_X7 tyX7 tyX7_ok (by decide +kernel) (by decide +kernel) (by decide +kernel) rfl (fun j hj => zz_defX7 j hj) (Nat.le_of_ble_eq_true rfl) (Nat.le_of_ble_eq_true rfl) dX11_init_32 (fun b3 => ?_)
  refine wc_dup B dX11_init_35 rfl ?_
  refine wc_sipush B 402 dX11_init_36 (by decide) ?_
  refine wc_init B (As := [.int 402]) (rest := [.ref b3, .ref a0]) (X2 := [(a0, .inr (11, [.ref b1, .ref b2, .null, .null, .null, .null, .null, .null, .null, .null, .null, .null, .null, .int 0, .int 0, .int 0]))]) 1 rfl rfl (cc_X7 l dC dI cT b3 3 402 402 rfl (by decide) (by decide) (by decide)) (cwI 1 B.1.2.2.2.2 gX11_init_X7_init rfl rfl rfl (B.1.2.2.2.2 (.initialized RX7) (by decide +kernel)) (B.1.2.2.2.2 (.methodLink RX11 11 yX7_init) (by decide +kernel)) (B.1.2.2.2.2 (.instanceMethod yX7_init) (by decide +kernel)) rfl (by decide +kernel) ⟨(Nat.le_of_ble_eq_true rfl), (Nat.le_of_ble_eq_true rfl)⟩) hcT hV rfl rfl (Nat.le_of_ble_eq_true rfl) (Nat.le_of_ble_eq_true rfl) (Nat.le_of_ble_eq_true rfl) dX11_init_39 (fun M g r M0 g0 r0 hg hg0 hx hb9 hk9 hcT hV => ?_)
  replace y_b1 := y_b1.gr hg
  replace f_b1 := f_b1.gr hg
  replace y_b2 := y_b2.gr hg
  replace f_b2 := f_b2.gr hg
  have y_b3 := hx.1.gr hg0
  clear hx hb9 hk9 hg hg0
  refine wc_putF B (C := RX11) (T := TX11) (N := 16) (X2 := [(a0, .inr (11, [.ref b1, .ref b2, .ref b3, .null, .null, .null, .null, .null, .null, .null, .null, .null, .null, .int 0, .int 0, .int 0]))]) iq_X11_init_X11 0 rfl rfl 2 (by decide) (by decide +kernel) rfl (v := .ref b3) (ty := (.object "ClayAccounts$Text")) tyX11 tyX11_ok nmX11 rfl rfl (by decide +kernel) rfl rfl (Nat.le_of_ble_eq_true rfl) rfl dX11_init_42 ?_
  refine wc_aload_n B dX11_init_45 rfl 0 rfl ?_
  refine wc_nw B (C := RX10) (T := TX10) (N := 3) (ci := 10) (fs := [.null, .int 0, .int 0]) iq_X11_init_X10 tyX10 tyX10_ok (by decide +kernel) (by decide +kernel) (by decide +kernel) rfl (fun j hj => zz_defX10 j hj) (Nat.le_of_ble_eq_true rfl) (Nat.le_of_ble_eq_true rfl) dX11_init_46 (fun b4 => ?_)
  refine wc_dup B dX11_init_49 rfl ?_
  refine wc_initN B (As := []) (rest := [.ref b4, .ref a0]) (X2 := [(a0, .inr (11, [.ref b1, .ref b2, .ref b3, .null, .null, .null, .null, .null, .null, .null, .null, .null, .null, .int 0, .int 0, .int 0]))]) 1 rfl rfl (cc_X10 l dC dI cT b4) ⟨va_cnB 0 B.1.2.2.2.2 gX11_init_X10_init_n26 rfl rfl rfl B.2.2.2.1.n_RX11_26 (B.1.2.2.2.2 (.initialized RX10) (by decide +kernel)) (by decide +kernel) ⟨(Nat.le_of_ble_eq_true rfl), (Nat.le_of_ble_eq_true rfl)⟩, rfl, B.1.2.2.2.2 (.instanceMethod yX10_init) (by decide +kernel)⟩ hcT hV rfl rfl (Nat.le_of_ble_eq_true rfl) (Nat.le_of_ble_eq_true rfl) (Nat.le_of_ble_eq_true rfl) dX11_init_50 (fun M g r M0 g0 r0 hg hg0 hx hb9 hk9 hcT hV => ?_)
  replace y_b1 := y_b1.gr hg
  replace f_b1 := f_b1.gr hg
  replace y_b2 := y_b2.gr hg
  replace f_b2 := f_b2.gr hg
  replace y_b3 := y_b3.gr hg
  have o_b4 : cc_o M g b4 10 := ⟨hb9, hk9⟩
  clear hx hb9 hk9 hg hg0
  refine wc_putF B (C := RX11) (T := TX11) (N := 16) (X2 := [(a0, .inr (11, [.ref b1, .ref b2, .ref b3, .ref b4, .null, .null, .null, .null, .null, .null, .null, .null, .null, .int 0, .int 0, .int 0]))]) iq_X11_init_X11 0 rfl rfl 3 (by decide) (by decide +kernel) rfl (v := .ref b4) (ty := (.object "ClayAccounts$UnitsReader")) tyX11 tyX11_ok nmX11 rfl rfl (by decide +kernel) rfl rfl (Nat.le_of_ble_eq_true rfl) rfl dX11_init_53 ?_
  refine wc_aload_n B dX11_init_56 rfl 0 rfl ?_
  refine wc_nw B (C := RX6) (T := TX6) (N := 8) (ci := 6) (fs := [.null, .int 0, .int 0, .int 0, .int 0, .int 0, .int 0, .int 0]) iq_X11_init_X6 tyX6 tyX6_ok (by decide +kernel) (by decide +kernel) (by decide +kernel) rfl (fun j hj => zz_defX6 j hj) (Nat.le_of_ble_eq_true rfl) (Nat.le_of_ble_eq_true rfl) dX11_init_57 (fun b5 => ?_)
  refine wc_dup B dX11_init_60 rfl ?_
  refine wc_initN B (As := []) (rest := [.ref b5, .ref a0]) (X2 := [(a0, .inr (11, [.ref b1, .ref b2, .ref b3, .ref b4, .null, .null, .null, .null, .null, .null, .null, .null, .null, .int 0, .int 0, .int 0]))]) 1 rfl rfl (cc_X6 l dC dI cT b5) ⟨va_cnB 0 B.1.2.2.2.2 gX11_init_X6_init_n33 rfl rfl rfl B.2.2.2.1.n_RX11_33 (B.1.2.2.2.2 (.initialized RX6) (by decide +kernel)) (by decide +kernel) ⟨(Nat.le_of_ble_eq_true rfl), (Nat.le_of_ble_eq_true rfl)⟩, rfl, B.1.2.2.2.2 (.instanceMethod yX6_init) (by decide +kernel)⟩ hcT hV rfl rfl (Nat.le_of_ble_eq_true rfl) (Nat.le_of_ble_eq_true rfl) (Nat.le_of_ble_eq_true rfl) dX11_init_61 (fun M g r M0 g0 r0 hg hg0 hx hb9 hk9 hcT hV => ?_)
  replace y_b1 := y_b1.gr hg
  replace f_b1 := f_b1.gr hg
  replace y_b2 := y_b2.gr hg
  replace f_b2 := f_b2.gr hg
  replace y_b3 := y_b3.gr hg
  replace o_b4 := o_b4.gr hg
  have o_b5 : cc_o M g b5 6 := ⟨hb9, hk9⟩
  clear hx hb9 hk9 hg hg0
  refine wc_putF B (C := RX11) (T := TX11) (N := 16) (X2 := [(a0, .inr (11, [.ref b1, .ref b2, .ref b3, .ref b4, .ref b5, .null, .null, .null, .null, .null, .null, .null, .null, .int 0, .int 0, .int 0]))]) iq_X11_init_X11 0 rfl rfl 4 (by decide) (by decide +kernel) rfl (v := .ref b5) (ty := (.object "ClayAccounts$TabletReader")) tyX11 tyX11_ok nmX11 rfl rfl (by decide +kernel) rfl rfl (Nat.le_of_ble_eq_true rfl) rfl dX11_init_64 ?_
  refine wc_aload_n B dX11_init_67 rfl 0 rfl ?_
  refine wc_nw B (C := RX4) (T := TX4) (N := 7) (ci := 4) (fs := [.int 0, .null, .null, .null, .null, .null, .int 0]) iq_X11_init_X4 tyX4 tyX4_ok (by decide +kernel) (by decide +kernel) (by decide +kernel) rfl (fun j hj => zz_defX4 j hj) (Nat.le_of_ble_eq_true rfl) (Nat.le_of_ble_eq_true rfl) dX11_init_68 (fun b6 => ?_)
  refine wc_dup B dX11_init_71 rfl ?_
  refine wc_initN B (As := []) (rest := [.ref b6, .ref a0]) (X2 := [(a0, .inr (11, [.ref b1, .ref b2, .ref b3, .ref b4, .ref b5, .null, .null, .null, .null, .null, .null, .null, .null, .int 0, .int 0, .int 0]))]) 1 rfl rfl (cc_X4 l dC dI cT b6) ⟨va_cnB 0 B.1.2.2.2.2 gX11_init_X4_init_n40 rfl rfl rfl B.2.2.2.1.n_RX11_40 (B.1.2.2.2.2 (.initialized RX4) (by decide +kernel)) (by decide +kernel) ⟨(Nat.le_of_ble_eq_true rfl), (Nat.le_of_ble_eq_true rfl)⟩, rfl, B.1.2.2.2.2 (.instanceMethod yX4_init) (by decide +kernel)⟩ hcT hV rfl rfl (Nat.le_of_ble_eq_true rfl) (Nat.le_of_ble_eq_true rfl) (Nat.le_of_ble_eq_true rfl) dX11_init_72 (fun M g r M0 g0 r0 hg hg0 hx hb9 hk9 hcT hV => ?_)
  replace y_b1 := y_b1.gr hg
  replace f_b1 := f_b1.gr hg
  replace y_b2 := y_b2.gr hg
  replace f_b2 := f_b2.gr hg
  replace y_b3 := y_b3.gr hg
  replace o_b4 := o_b4.gr hg
  replace o_b5 := o_b5.gr hg
  have o_b6 : cc_o M g b6 4 := ⟨hb9, hk9⟩
  clear hx hb9 hk9 hg hg0
  refine wc_putF B (C := RX11) (T := TX11) (N := 16) (X2 := [(a0, .inr (11, [.ref b1, .ref b2, .ref b3, .ref b4, .ref b5, .ref b6, .null, .null, .null, .null, .null, .null, .null, .int 0, .int 0, .int 0]))]) iq_X11_init_X11 0 rfl rfl 5 (by decide) (by decide +kernel) rfl (v := .ref b6) (ty := (.object "ClayAccounts$Solver")) tyX11 tyX11_ok nmX11 rfl rfl (by decide +kernel) rfl rfl (Nat.le_of_ble_eq_true rfl) rfl dX11_init_75 ?_
  refine wc_aload_n B dX11_init_78 rfl 0 rfl ?_
  refine wc_nw B (C := RX3) (T := TX3) (N := 5) (ci := 3) (fs := [.null, .int 0, .int 0, .null, .null]) iq_X11_init_X3 tyX3 tyX3_ok (by decide +kernel) (by decide +kernel) (by decide +kernel) rfl (fun j hj => zz_defX3 j hj) (Nat.le_of_ble_eq_true rfl) (Nat.le_of_ble_eq_true rfl) dX11_init_79 (fun b7 => ?_)
  refine wc_dup B dX11_init_82 rfl ?_
  refine wc_init B (As := []) (rest := [.ref b7, .ref a0]) (X2 := [(a0, .inr (11, [.ref b1, .ref b2, .ref b3, .ref b4, .ref b5, .ref b6, .null, .null, .null, .null, .null, .null, .null, .int 0, .int 0, .int 0]))]) 1 rfl rfl (cc_X3 l dC dI cT b7) (cwI 0 B.1.2.2.2.2 gX11_init_X3_init rfl rfl rfl (B.1.2.2.2.2 (.initialized RX3) (by decide +kernel)) (B.1.2.2.2.2 (.methodLink RX11 47 yX3_init) (by decide +kernel)) (B.1.2.2.2.2 (.instanceMethod yX3_init) (by decide +kernel)) rfl (by decide +kernel) ⟨(Nat.le_of_ble_eq_true rfl), (Nat.le_of_ble_eq_true rfl)⟩) hcT hV rfl rfl (Nat.le_of_ble_eq_true rfl) (Nat.le_of_ble_eq_true rfl) (Nat.le_of_ble_eq_true rfl) dX11_init_83 (fun M g r M0 g0 r0 hg hg0 hx hb9 hk9 hcT hV => ?_)
  replace y_b1 := y_b1.gr hg
  replace f_b1 := f_b1.gr hg
  replace y_b2 := y_b2.gr hg
  replace f_b2 := f_b2.gr hg
  replace y_b3 := y_b3.gr hg
  replace o_b4 := o_b4.gr hg
  replace o_b5 := o_b5.gr hg
  replace o_b6 := o_b6.gr hg
  have o_b7 : cc_o M g b7 3 := ⟨hb9, hk9⟩
  clear hx hb9 hk9 hg hg0
  refine wc_putF B (C := RX11) (T := TX11) (N := 16) (X2 := [(a0, .inr (11, [.ref b1, .ref b2, .ref b3, .ref b4, .ref b5, .ref b6, .ref b7, .null, .null, .null, .null, .null, .null, .int 0, .int 0, .int 0]))]) iq_X11_init_X11 0 rfl rfl 6 (by decide) (by decide +kernel) rfl (v := .ref b7) (ty := (.object "ClayAccounts$Matcher")) tyX11 tyX11_ok nmX11 rfl rfl (by decide +kernel) rfl rfl (Nat.le_of_ble_eq_true rfl) rfl dX11_init_86 ?_
  refine wc_aload_n B dX11_init_89 rfl 0 rfl ?_
  refine wc_bipush B 8 dX11_init_90 (by decide) ?_
  refine wc_nq B 400 3 8 rfl B.2.2.2.1.ao_X5 (by decide +kernel) (by decide) (by decide) (by decide) (Nat.le_of_ble_eq_true rfl) (Nat.le_of_ble_eq_true rfl) dX11_init_92 (fun b8 => ?_)
  have l_b8 : cc_l _ _ [] 5 := cc_l.nil (L := M) (h := g)
  refine wc_putF B (C := RX11) (T := TX11) (N := 16) (X2 := [(a0, .inr (11, [.ref b1, .ref b2, .ref b3, .ref b4, .ref b5, .ref b6, .ref b7, .ref b8, .null, .null, .null, .null, .null, .int 0, .int 0, .int 0])), (b8, .inl (cT 400, 8, .inr (.inr (.inr (.inr (fun j => ([] : List Nat)[j]?))))))]) iq_X11_init_X11 0 rfl rfl 7 (by decide) (by decide +kernel) rfl (v := .ref b8) (ty := (.array (.object "ClayAccounts$Tablet"))) tyX11 tyX11_ok nmX11 rfl rfl (by decide +kernel) rfl rfl (Nat.le_of_ble_eq_true rfl) rfl dX11_init_95 ?_
  refine wc_aload_n B dX11_init_98 rfl 0 rfl ?_
  refine wc_nw B (C := RX5) (T := TX5) (N := 7) (ci := 5) (fs := [.null, .null, .int 0, .int 0, .int 0, .int 0, .int 0]) iq_X11_init_X5 tyX5 tyX5_ok (by decide +kernel) (by decide +kernel) (by decide +kernel) rfl (fun j hj => zz_defX5 j hj) (Nat.le_of_ble_eq_true rfl) (Nat.le_of_ble_eq_true rfl) dX11_init_99 (fun b9 => ?_)
  refine wc_dup B dX11_init_102 rfl ?_
  refine wc_init B (As := []) (rest := [.ref b9, .ref a0]) (X2 := [(a0, .inr (11, [.ref b1, .ref b2, .ref b3, .ref b4, .ref b5, .ref b6, .ref b7, .ref b8, .null, .null, .null, .null, .null, .int 0, .int 0, .int 0])), (b8, .inl (cT 400, 8, .inr (.inr (.inr (.inr (fun j => ([] : List Nat)[j]?))))))]) 2 rfl rfl (cc_X5 l dC dI cT b9) (cwI 0 B.1.2.2.2.2 gX11_init_X5_init rfl rfl rfl (B.1.2.2.2.2 (.initialized RX5) (by decide +kernel)) (B.1.2.2.2.2 (.methodLink RX11 58 yX5_init) (by decide +kernel)) (B.1.2.2.2.2 (.instanceMethod yX5_init) (by decide +kernel)) rfl (by decide +kernel) ⟨(Nat.le_of_ble_eq_true rfl), (Nat.le_of_ble_eq_true rfl)⟩) hcT hV rfl rfl (Nat.le_of_ble_eq_true rfl) (Nat.le_of_ble_eq_true rfl) (Nat.le_of_ble_eq_true rfl) dX11_init_103 (fun M g r M0 g0 r0 hg hg0 hx hb9 hk9 hcT hV => ?_)
  replace y_b1 := y_b1.gr hg
  replace f_b1 := f_b1.gr hg
  replace y_b2 := y_b2.gr hg
  replace f_b2 := f_b2.gr hg
  replace y_b3 := y_b3.gr hg
  replace o_b4 := o_b4.gr hg
  replace o_b5 := o_b5.gr hg
  replace o_b6 := o_b6.gr hg
  replace o_b7 := o_b7.gr hg
  replace l_b8 := l_b8.gr hg
  have o_b9 : cc_o M g b9 5 := ⟨hb9, hk9⟩
  clear hx hb9 hk9 hg hg0
  refine wc_putF B (C := RX11) (T := TX11) (N := 16) (X2 := [(a0, .inr (11, [.ref b1, .ref b2, .ref b3, .ref b4, .ref b5, .ref b6, .ref b7, .ref b8, .ref b9, .null, .null, .null, .null, .int 0, .int 0, .int 0])), (b8, .inl (cT 400, 8, .inr (.inr (.inr (.inr (fun j => ([] : List Nat)[j]?))))))]) iq_X11_init_X11 0 rfl rfl 8 (by decide) (by decide +kernel) rfl (v := .ref b9) (ty := (.object "ClayAccounts$Tablet")) tyX11 tyX11_ok nmX11 rfl rfl (by decide +kernel) rfl rfl (Nat.le_of_ble_eq_true rfl) rfl dX11_init_106 ?_
  refine wc_aload_n B dX11_init_109 rfl 0 rfl ?_
  refine wc_bipush B 12 dX11_init_110 (by decide) ?_
  refine wc_nq B 403 6 12 rfl B.2.2.2.1.ao_X0 (by decide +kernel) (by decide) (by decide) (by decide) (Nat.le_of_ble_eq_true rfl) (Nat.le_of_ble_eq_true rfl) dX11_init_112 (fun b10 => ?_)
  have l_b10 : cc_l _ _ [] 0 := cc_l.nil (L := M) (h := g)
  have nd_b10 : ([] : List Nat).Nodup := List.nodup_nil
  refine wc_putF B (C := RX11) (T := TX11) (N := 16) (X2 := [(a0, .inr (11, [.ref b1, .ref b2, .ref b3, .ref b4, .ref b5, .ref b6, .ref b7, .ref b8, .ref b9, .ref b10, .null, .null, .null, .int 0, .int 0, .int 0])), (b8, .inl (cT 400, 8, .inr (.inr (.inr (.inr (fun j => ([] : List Nat)[j]?)))))), (b10, .inl (cT 403, 12, .inr (.inr (.inr (.inr (fun j => ([] : List Nat)[j]?))))))]) iq_X11_init_X11 0 rfl rfl 9 (by decide) (by decide +kernel) rfl (v := .ref b10) (ty := (.array (.object "ClayAccounts$Fragment"))) tyX11 tyX11_ok nmX11 rfl rfl (by decide +kernel) rfl rfl (Nat.le_of_ble_eq_true rfl) rfl dX11_init_115 ?_
  refine wc_aload_n B dX11_init_118 rfl 0 rfl ?_
  refine wc_sipush B 144 dX11_init_119 (by decide) ?_
  refine wc_nI B 100 144 (by decide) (by decide) hcT hV (by decide +kernel) (by decide) (by decide) (by decide) (Nat.le_of_ble_eq_true rfl) (Nat.le_of_ble_eq_true rfl) dX11_init_122 (fun b11 M g r hg y_b11 z_b11 hcT hV => ?_)
  replace y_b1 := y_b1.gr hg
  replace f_b1 := f_b1.gr hg
  replace y_b2 := y_b2.gr hg
  replace f_b2 := f_b2.gr hg
  replace y_b3 := y_b3.gr hg
  replace o_b4 := o_b4.gr hg
  replace o_b5 := o_b5.gr hg
  replace o_b6 := o_b6.gr hg
  replace o_b7 := o_b7.gr hg
  replace l_b8 := l_b8.gr hg
  replace o_b9 := o_b9.gr hg
  replace l_b10 := l_b10.gr hg
  clear z_b11
  refine wc_putF B (C := RX11) (T := TX11) (N := 16) (X2 := [(a0, .inr (11, [.ref b1, .ref b2, .ref b3, .ref b4, .ref b5, .ref b6, .ref b7, .ref b8, .ref b9, .ref b10, .ref b11, .null, .null, .int 0, .int 0, .int 0])), (b8, .inl (cT 400, 8, .inr (.inr (.inr (.inr (fun j => ([] : List Nat)[j]?)))))), (b10, .inl (cT 403, 12, .inr (.inr (.inr (.inr (fun j => ([] : List Nat)[j]?))))))]) iq_X11_init_X11 0 rfl rfl 10 (by decide) (by decide +kernel) rfl (v := .ref b11) (ty := (.array .int)) tyX11 tyX11_ok nmX11 rfl rfl (by decide +kernel) rfl rfl (Nat.le_of_ble_eq_true rfl) rfl dX11_init_124 ?_
  refine wc_aload_n B dX11_init_127 rfl 0 rfl ?_
  refine wc_nw B (C := RX9) (T := TX9) (N := 7) (ci := 9) (fs := [.null, .null, .null, .null, .null, .null, .int 0]) iq_X11_init_X9 tyX9 tyX9_ok (by decide +kernel) (by decide +kernel) (by decide +kernel) rfl (fun j hj => zz_defX9 j hj) (Nat.le_of_ble_eq_true rfl) (Nat.le_of_ble_eq_true rfl) dX11_init_128 (fun b12 => ?_)
  refine wc_dup B dX11_init_131 rfl ?_
  refine wc_initNn B (As := []) (rest := [.ref b12, .ref a0]) (X2 := [(a0, .inr (11, [.ref b1, .ref b2, .ref b3, .ref b4, .ref b5, .ref b6, .ref b7, .ref b8, .ref b9, .ref b10, .ref b11, .null, .null, .int 0, .int 0, .int 0])), (b8, .inl (cT 400, 8, .inr (.inr (.inr (.inr (fun j => ([] : List Nat)[j]?)))))), (b10, .inl (cT 403, 12, .inr (.inr (.inr (.inr (fun j => ([] : List Nat)[j]?))))))]) 3 rfl rfl (cc_X9 l dC dI cT b12) ⟨va_cnB 0 B.1.2.2.2.2 gX11_init_X9_init_n75 rfl rfl rfl B.2.2.2.1.n_RX11_75 (B.1.2.2.2.2 (.initialized RX9) (by decide +kernel)) (by decide +kernel) ⟨(Nat.le_of_ble_eq_true rfl), (Nat.le_of_ble_eq_true rfl)⟩, rfl, B.1.2.2.2.2 (.instanceMethod yX9_init) (by decide +kernel)⟩ hcT hV rfl rfl (Nat.le_of_ble_eq_true rfl) (Nat.le_of_ble_eq_true rfl) (Nat.le_of_ble_eq_true rfl) dX11_init_132 (fun M g r M0 g0 r0 hg hg0 hap hb0 hk0 hV0 hx hb9 hk9 hcT hV => ?_)
  clear hap hb0 hk0 hV0
  replace y_b1 := y_b1.gr hg
  replace f_b1 := f_b1.gr hg
  replace y_b2 := y_b2.gr hg
  replace f_b2 := f_b2.gr hg
  replace y_b3 := y_b3.gr hg
  replace o_b4 := o_b4.gr hg
  replace o_b5 := o_b5.gr hg
  replace o_b6 := o_b6.gr hg
  replace o_b7 := o_b7.gr hg
  replace l_b8 := l_b8.gr hg
  replace o_b9 := o_b9.gr hg
  replace l_b10 := l_b10.gr hg
  replace y_b11 := y_b11.gr hg
  have o_b12 : cc_o M g b12 9 := ⟨hb9, hk9⟩
  have f_b12 := hx.gr hg0
  clear hx hb9 hk9 hg hg0
  refine wc_put B (C := RX11) (T := TX11) (N := 16) (X2 := [(a0, .inr (11, [.ref b1, .ref b2, .ref b3, .ref b4, .ref b5, .ref b6, .ref b7, .ref b8, .ref b9, .ref b10, .ref b11, .ref b12, .null, .int 0, .int 0, .int 0])), (b8, .inl (cT 400, 8, .inr (.inr (.inr (.inr (fun j => ([] : List Nat)[j]?)))))), (b10, .inl (cT 403, 12, .inr (.inr (.inr (.inr (fun j => ([] : List Nat)[j]?))))))]) iq_X11_init_X11 0 rfl rfl 11 (by decide) (by decide +kernel) rfl (v := .ref b12) (ty := (.object "ClayAccounts$Units")) tyX11 tyX11_ok nmX11 rfl (by decide +kernel) rfl rfl (Nat.le_of_ble_eq_true rfl) rfl dX11_init_135 ?_
  refine wc_aload_n B dX11_init_138 rfl 0 rfl ?_
  refine wc_nw B (C := RX9) (T := TX9) (N := 7) (ci := 9) (fs := [.null, .null, .null, .null, .null, .null, .int 0]) iq_X11_init_X9 tyX9 tyX9_ok (by decide +kernel) (by decide +kernel) (by decide +kernel) rfl (fun j hj => zz_defX9 j hj) (Nat.le_of_ble_eq_true rfl) (Nat.le_of_ble_eq_true rfl) dX11_init_139 (fun b13 => ?_)
  refine wc_dup B dX11_init_142 rfl ?_
  have hVo := hV
  have ob9 := o_b12
  refine wc_initNn B (As := []) (rest := [.ref b13, .ref a0]) (X2 := [(a0, .inr (11, [.ref b1, .ref b2, .ref b3, .ref b4, .ref b5, .ref b6, .ref b7, .ref b8, .ref b9, .ref b10, .ref b11, .ref b12, .null, .int 0, .int 0, .int 0])), (b8, .inl (cT 400, 8, .inr (.inr (.inr (.inr (fun j => ([] : List Nat)[j]?)))))), (b10, .inl (cT 403, 12, .inr (.inr (.inr (.inr (fun j => ([] : List Nat)[j]?))))))]) 3 rfl rfl (cc_X9 l dC dI cT b13) ⟨va_cnB 0 B.1.2.2.2.2 gX11_init_X9_init_n75 rfl rfl rfl B.2.2.2.1.n_RX11_75 (B.1.2.2.2.2 (.initialized RX9) (by decide +kernel)) (by decide +kernel) ⟨(Nat.le_of_ble_eq_true rfl), (Nat.le_of_ble_eq_true rfl)⟩, rfl, B.1.2.2.2.2 (.instanceMethod yX9_init) (by decide +kernel)⟩ hcT hV rfl rfl (Nat.le_of_ble_eq_true rfl) (Nat.le_of_ble_eq_true rfl) (Nat.le_of_ble_eq_true rfl) dX11_init_143 (fun M g r M0 g0 r0 hg hg0 hap hb0 hk0 hV0 hx hb9 hk9 hcT hV => ?_)
  have f_ua := cc_ua_mk hVo ob9 hg hg0 hap hb0 hk0 hV0
  clear hVo ob9
  clear hap hb0 hk0 hV0
  replace y_b1 := y_b1.gr hg
  replace f_b1 := f_b1.gr hg
  replace y_b2 := y_b2.gr hg
  replace f_b2 := f_b2.gr hg
  replace y_b3 := y_b3.gr hg
  replace o_b4 := o_b4.gr hg
  replace o_b5 := o_b5.gr hg
  replace o_b6 := o_b6.gr hg
  replace o_b7 := o_b7.gr hg
  replace l_b8 := l_b8.gr hg
  replace o_b9 := o_b9.gr hg
  replace l_b10 := l_b10.gr hg
  replace y_b11 := y_b11.gr hg
  replace o_b12 := o_b12.gr hg
  replace f_b12 := f_b12.gr hg
  have o_b13 : cc_o M g b13 9 := ⟨hb9, hk9⟩
  have f_b13 := hx.gr hg0
  clear hx hb9 hk9 hg hg0
  refine wc_put B (C := RX11) (T := TX11) (N := 16) (X2 := [(a0, .inr (11, [.ref b1, .ref b2, .ref b3, .ref b4, .ref b5, .ref b6, .ref b7, .ref b8, .ref b9, .ref b10, .ref b11, .ref b12, .ref b13, .int 0, .int 0, .int 0])), (b8, .inl (cT 400, 8, .inr (.inr (.inr (.inr (fun j => ([] : List Nat)[j]?)))))), (b10, .inl (cT 403, 12, .inr (.inr (.inr (.inr (fun j => ([] : List Nat)[j]?))))))]) iq_X11_init_X11 0 rfl rfl 12 (by decide) (by decide +kernel) rfl (v := .ref b13) (ty := (.object "ClayAccounts$Units")) tyX11 tyX11_ok nmX11 rfl (by decide +kernel) rfl rfl (Nat.le_of_ble_eq_true rfl) rfl dX11_init_146 ?_
  refine wc_iconst B 0 dX11_init_149 (by decide) ?_
  refine wc_istore_n B [(1, .int 0), (0, .ref a0)] dX11_init_150 rfl (by decide) rfl ?_
  refine wc_iload_n B dX11_init_151 rfl 0 rfl ?_
  refine wc_bipush B 8 dX11_init_152 (by decide) ?_
  refine wc_ge B 176 dX11_init_154 (by decide) (fun c9 => absurd c9 (by decide)) (fun c9 => ?_)
  refine wc_aload_n B dX11_init_157 rfl 1 rfl ?_
  refine wc_get B (C := RX11) (T := TX11) (N := 16) iq_X11_init_X11 0 rfl rfl 7 (by decide) (by decide +kernel) rfl (v := .ref b8) rfl dX11_init_158 ?_
  refine wc_iload_n B dX11_init_161 rfl 0 rfl ?_
  refine wc_nw B (C := RX5) (T := TX5) (N := 7) (ci := 5) (fs := [.null, .null, .int 0, .int 0, .int 0, .int 0, .int 0]) iq_X11_init_X5 tyX5 tyX5_ok (by decide +kernel) (by decide +kernel) (by decide +kernel) rfl (fun j hj => zz_defX5 j hj) (Nat.le_of_ble_eq_true rfl) (Nat.le_of_ble_eq_true rfl) dX11_init_162 (fun b14 => ?_)
  refine wc_dup B dX11_init_165 rfl ?_
  refine wc_init B (As := []) (rest := [.ref b14, .int 0, .ref b8]) (X2 := [(a0, .inr (11, [.ref b1, .ref b2, .ref b3, .ref b4, .ref b5, .ref b6, .ref b7, .ref b8, .ref b9, .ref b10, .ref b11, .ref b12, .ref b13, .int 0, .int 0, .int 0])), (b8, .inl (cT 400, 8, .inr (.inr (.inr (.inr (fun j => ([] : List Nat)[j]?)))))), (b10, .inl (cT 403, 12, .inr (.inr (.inr (.inr (fun j => ([] : List Nat)[j]?))))))]) 3 rfl rfl (cc_X5 l dC dI cT b14) (cwI 0 B.1.2.2.2.2 gX11_init_X5_init rfl rfl rfl (B.1.2.2.2.2 (.initialized RX5) (by decide +kernel)) (B.1.2.2.2.2 (.methodLink RX11 58 yX5_init) (by decide +kernel)) (B.1.2.2.2.2 (.instanceMethod yX5_init) (by decide +kernel)) rfl (by decide +kernel) ⟨(Nat.le_of_ble_eq_true rfl), (Nat.le_of_ble_eq_true rfl)⟩) hcT hV rfl rfl (Nat.le_of_ble_eq_true rfl) (Nat.le_of_ble_eq_true rfl) (Nat.le_of_ble_eq_true rfl) dX11_init_166 (fun M g r M0 g0 r0 hg hg0 hx hb9 hk9 hcT hV => ?_)
  replace y_b1 := y_b1.gr hg
  replace f_b1 := f_b1.gr hg
  replace y_b2 := y_b2.gr hg
  replace f_b2 := f_b2.gr hg
  replace y_b3 := y_b3.gr hg
  replace o_b4 := o_b4.gr hg
  replace o_b5 := o_b5.gr hg
  replace o_b6 := o_b6.gr hg
  replace o_b7 := o_b7.gr hg
  replace l_b8 := l_b8.gr hg
  replace o_b9 := o_b9.gr hg
  replace l_b10 := l_b10.gr hg
  replace y_b11 := y_b11.gr hg
  replace o_b12 := o_b12.gr hg
  replace f_b12 := f_b12.gr hg
  replace f_ua := f_ua.gr hg
  replace o_b13 := o_b13.gr hg
  replace f_b13 := f_b13.gr hg
  have o_b14 : cc_o M g b14 5 := ⟨hb9, hk9⟩
  clear hx hb9 hk9 hg hg0
  refine wc_as B (r := (RX5, TX5, 7)) (ci := 5) (xs := []) (X2 := [(a0, .inr (11, [.ref b1, .ref b2, .ref b3, .ref b4, .ref b5, .ref b6, .ref b7, .ref b8, .ref b9, .ref b10, .ref b11, .ref b12, .ref b13, .int 0, .int 0, .int 0])), (b8, .inl (cT 400, 8, .inr (.inr (.inr (.inr (fun j => ([b14] : List Nat)[j]?)))))), (b10, .inl (cT 403, 12, .inr (.inr (.inr (.inr (fun j => ([] : List Nat)[j]?))))))]) 1 3 400 [b14] rfl rfl o_b14 (by decide) rfl (show ¬ ((0 : Int32) < 0 ∨ 8 ≤ (0 : Int32).toNatClampNeg) by decide) rfl rfl rfl dX11_init_169 ?_
  replace l_b8 := l_b8.snoc o_b14
  clear o_b14
  refine wc_iinc B [(1, .int 1), (0, .ref a0)] 1 dX11_init_170 0 rfl (by decide) (by decide) rfl ?_
  refine wc_goto B 151 dX11_init_173 (by decide) ?_
  refine wc_iload_n B dX11_init_151 rfl 0 rfl ?_
  refine wc_bipush B 8 dX11_init_152 (by decide) ?_
  refine wc_ge B 176 dX11_init_154 (by decide) (fun c9 => absurd c9 (by decide)) (fun c9 => ?_)
  refine wc_aload_n B dX11_init_157 rfl 1 rfl ?_
  refine wc_get B (C := RX11) (T := TX11) (N := 16) iq_X11_init_X11 0 rfl rfl 7 (by decide) (by decide +kernel) rfl (v := .ref b8) rfl dX11_init_158 ?_
  refine wc_iload_n B dX11_init_161 rfl 0 rfl ?_
  refine wc_nw B (C := RX5) (T := TX5) (N := 7) (ci := 5) (fs := [.null, .null, .int 0, .int 0, .int 0, .int 0, .int 0]) iq_X11_init_X5 tyX5 tyX5_ok (by decide +kernel) (by decide +kernel) (by decide +kernel) rfl (fun j hj => zz_defX5 j hj) (Nat.le_of_ble_eq_true rfl) (Nat.le_of_ble_eq_true rfl) dX11_init_162 (fun b15 => ?_)
  refine wc_dup B dX11_init_165 rfl ?_
  refine wc_init B (As := []) (rest := [.ref b15, .int 1, .ref b8]) (X2 := [(a0, .inr (11, [.ref b1, .ref b2, .ref b3, .ref b4, .ref b5, .ref b6, .ref b7, .ref b8, .ref b9, .ref b10, .ref b11, .ref b12, .ref b13, .int 0, .int 0, .int 0])), (b8, .inl (cT 400, 8, .inr (.inr (.inr (.inr (fun j => ([b14] : List Nat)[j]?)))))), (b10, .inl (cT 403, 12, .inr (.inr (.inr (.inr (fun j => ([] : List Nat)[j]?))))))]) 3 rfl rfl (cc_X5 l dC dI cT b15) (cwI 0 B.1.2.2.2.2 gX11_init_X5_init rfl rfl rfl (B.1.2.2.2.2 (.initialized RX5) (by decide +kernel)) (B.1.2.2.2.2 (.methodLink RX11 58 yX5_init) (by decide +kernel)) (B.1.2.2.2.2 (.instanceMethod yX5_init) (by decide +kernel)) rfl (by decide +kernel) ⟨(Nat.le_of_ble_eq_true rfl), (Nat.le_of_ble_eq_true rfl)⟩) hcT hV rfl rfl (Nat.le_of_ble_eq_true rfl) (Nat.le_of_ble_eq_true rfl) (Nat.le_of_ble_eq_true rfl) dX11_init_166 (fun M g r M0 g0 r0 hg hg0 hx hb9 hk9 hcT hV => ?_)
  replace y_b1 := y_b1.gr hg
  replace f_b1 := f_b1.gr hg
  replace y_b2 := y_b2.gr hg
  replace f_b2 := f_b2.gr hg
  replace y_b3 := y_b3.gr hg
  replace o_b4 := o_b4.gr hg
  replace o_b5 := o_b5.gr hg
  replace o_b6 := o_b6.gr hg
  replace o_b7 := o_b7.gr hg
  replace l_b8 := l_b8.gr hg
  replace o_b9 := o_b9.gr hg
  replace l_b10 := l_b10.gr hg
  replace y_b11 := y_b11.gr hg
  replace o_b12 := o_b12.gr hg
  replace f_b12 := f_b12.gr hg
  replace f_ua := f_ua.gr hg
  replace o_b13 := o_b13.gr hg
  replace f_b13 := f_b13.gr hg
  have o_b15 : cc_o M g b15 5 := ⟨hb9, hk9⟩
  clear hx hb9 hk9 hg hg0
  refine wc_as B (r := (RX5, TX5, 7)) (ci := 5) (xs := [b14]) (X2 := [(a0, .inr (11, [.ref b1, .ref b2, .ref b3, .ref b4, .ref b5, .ref b6, .ref b7, .ref b8, .ref b9, .ref b10, .ref b11, .ref b12, .ref b13, .int 0, .int 0, .int 0])), (b8, .inl (cT 400, 8, .inr (.inr (.inr (.inr (fun j => ([b14, b15] : List Nat)[j]?)))))), (b10, .inl (cT 403, 12, .inr (.inr (.inr (.inr (fun j => ([] : List Nat)[j]?))))))]) 1 3 400 [b14, b15] rfl rfl o_b15 (by decide) rfl (show ¬ ((1 : Int32) < 0 ∨ 8 ≤ (1 : Int32).toNatClampNeg) by decide) rfl rfl rfl dX11_init_169 ?_
  replace l_b8 := l_b8.snoc o_b15
  clear o_b15
  refine wc_iinc B [(1, .int 2), (0, .ref a0)] 2 dX11_init_170 0 rfl (by decide) (by decide) rfl ?_
  refine wc_goto B 151 dX11_init_173 (by decide) ?_
  refine wc_iload_n B dX11_init_151 rfl 0 rfl ?_
  refine wc_bipush B 8 dX11_init_152 (by decide) ?_
  refine wc_ge B 176 dX11_init_154 (by decide) (fun c9 => absurd c9 (by decide)) (fun c9 => ?_)
  refine wc_aload_n B dX11_init_157 rfl 1 rfl ?_
  refine wc_get B (C := RX11) (T := TX11) (N := 16) iq_X11_init_X11 0 rfl rfl 7 (by decide) (by decide +kernel) rfl (v := .ref b8) rfl dX11_init_158 ?_
  refine wc_iload_n B dX11_init_161 rfl 0 rfl ?_
  refine wc_nw B (C := RX5) (T := TX5) (N := 7) (ci := 5) (fs := [.null, .null, .int 0, .int 0, .int 0, .int 0, .int 0]) iq_X11_init_X5 tyX5 tyX5_ok (by decide +kernel) (by decide +kernel) (by decide +kernel) rfl (fun j hj => zz_defX5 j hj) (Nat.le_of_ble_eq_true rfl) (Nat.le_of_ble_eq_true rfl) dX11_init_162 (fun b16 => ?_)
  refine wc_dup B dX11_init_165 rfl ?_
  refine wc_init B (As := []) (rest := [.ref b16, .int 2, .ref b8]) (X2 := [(a0, .inr (11, [.ref b1, .ref b2, .ref b3, .ref b4, .ref b5, .ref b6, .ref b7, .ref b8, .ref b9, .ref b10, .ref b11, .ref b12, .ref b13, .int 0, .int 0, .int 0])), (b8, .inl (cT 400, 8, .inr (.inr (.inr (.inr (fun j => ([b14, b15] : List Nat)[j]?)))))), (b10, .inl (cT 403, 12, .inr (.inr (.inr (.inr (fun j => ([] : List Nat)[j]?))))))]) 3 rfl rfl (cc_X5 l dC dI cT b16) (cwI 0 B.1.2.2.2.2 gX11_init_X5_init rfl rfl rfl (B.1.2.2.2.2 (.initialized RX5) (by decide +kernel)) (B.1.2.2.2.2 (.methodLink RX11 58 yX5_init) (by decide +kernel)) (B.1.2.2.2.2 (.instanceMethod yX5_init) (by decide +kernel)) rfl (by decide +kernel) ⟨(Nat.le_of_ble_eq_true rfl), (Nat.le_of_ble_eq_true rfl)⟩) hcT hV rfl rfl (Nat.le_of_ble_eq_true rfl) (Nat.le_of_ble_eq_true rfl) (Nat.le_of_ble_eq_true rfl) dX11_init_166 (fun M g r M0 g0 r0 hg hg0 hx hb9 hk9 hcT hV => ?_)
  replace y_b1 := y_b1.gr hg
  replace f_b1 := f_b1.gr hg
  replace y_b2 := y_b2.gr hg
  replace f_b2 := f_b2.gr hg
  replace y_b3 := y_b3.gr hg
  replace o_b4 := o_b4.gr hg
  replace o_b5 := o_b5.gr hg
  replace o_b6 := o_b6.gr hg
  replace o_b7 := o_b7.gr hg
  replace l_b8 := l_b8.gr hg
  replace o_b9 := o_b9.gr hg
  replace l_b10 := l_b10.gr hg
  replace y_b11 := y_b11.gr hg
  replace o_b12 := o_b12.gr hg
  replace f_b12 := f_b12.gr hg
  replace f_ua := f_ua.gr hg
  replace o_b13 := o_b13.gr hg
  replace f_b13 := f_b13.gr hg
  have o_b16 : cc_o M g b16 5 := ⟨hb9, hk9⟩
  clear hx hb9 hk9 hg hg0
  refine wc_as B (r := (RX5, TX5, 7)) (ci := 5) (xs := [b14, b15]) (X2 := [(a0, .inr (11, [.ref b1, .ref b2, .ref b3, .ref b4, .ref b5, .ref b6, .ref b7, .ref b8, .ref b9, .ref b10, .ref b11, .ref b12, .ref b13, .int 0, .int 0, .int 0])), (b8, .inl (cT 400, 8, .inr (.inr (.inr (.inr (fun j => ([b14, b15, b16] : List Nat)[j]?)))))), (b10, .inl (cT 403, 12, .inr (.inr (.inr (.inr (fun j => ([] : List Nat)[j]?))))))]) 1 3 400 [b14, b15, b16] rfl rfl o_b16 (by decide) rfl (show ¬ ((2 : Int32) < 0 ∨ 8 ≤ (2 : Int32).toNatClampNeg) by decide) rfl rfl rfl dX11_init_169 ?_
  replace l_b8 := l_b8.snoc o_b16
  clear o_b16
  refine wc_iinc B [(1, .int 3), (0, .ref a0)] 3 dX11_init_170 0 rfl (by decide) (by decide) rfl ?_
  refine wc_goto B 151 dX11_init_173 (by decide) ?_
  refine wc_iload_n B dX11_init_151 rfl 0 rfl ?_
  refine wc_bipush B 8 dX11_init_152 (by decide) ?_
  refine wc_ge B 176 dX11_init_154 (by decide) (fun c9 => absurd c9 (by decide)) (fun c9 => ?_)
  refine wc_aload_n B dX11_init_157 rfl 1 rfl ?_
  refine wc_get B (C := RX11) (T := TX11) (N := 16) iq_X11_init_X11 0 rfl rfl 7 (by decide) (by decide +kernel) rfl (v := .ref b8) rfl dX11_init_158 ?_
  refine wc_iload_n B dX11_init_161 rfl 0 rfl ?_
  refine wc_nw B (C := RX5) (T := TX5) (N := 7) (ci := 5) (fs := [.null, .null, .int 0, .int 0, .int 0, .int 0, .int 0]) iq_X11_init_X5 tyX5 tyX5_ok (by decide +kernel) (by decide +kernel) (by decide +kernel) rfl (fun j hj => zz_defX5 j hj) (Nat.le_of_ble_eq_true rfl) (Nat.le_of_ble_eq_true rfl) dX11_init_162 (fun b17 => ?_)
  refine wc_dup B dX11_init_165 rfl ?_
  refine wc_init B (As := []) (rest := [.ref b17, .int 3, .ref b8]) (X2 := [(a0, .inr (11, [.ref b1, .ref b2, .ref b3, .ref b4, .ref b5, .ref b6, .ref b7, .ref b8, .ref b9, .ref b10, .ref b11, .ref b12, .ref b13, .int 0, .int 0, .int 0])), (b8, .inl (cT 400, 8, .inr (.inr (.inr (.inr (fun j => ([b14, b15, b16] : List Nat)[j]?)))))), (b10, .inl (cT 403, 12, .inr (.inr (.inr (.inr (fun j => ([] : List Nat)[j]?))))))]) 3 rfl rfl (cc_X5 l dC dI cT b17) (cwI 0 B.1.2.2.2.2 gX11_init_X5_init rfl rfl rfl (B.1.2.2.2.2 (.initialized RX5) (by decide +kernel)) (B.1.2.2.2.2 (.methodLink RX11 58 yX5_init) (by decide +kernel)) (B.1.2.2.2.2 (.instanceMethod yX5_init) (by decide +kernel)) rfl (by decide +kernel) ⟨(Nat.le_of_ble_eq_true rfl), (Nat.le_of_ble_eq_true rfl)⟩) hcT hV rfl rfl (Nat.le_of_ble_eq_true rfl) (Nat.le_of_ble_eq_true rfl) (Nat.le_of_ble_eq_true rfl) dX11_init_166 (fun M g r M0 g0 r0 hg hg0 hx hb9 hk9 hcT hV => ?_)
  replace y_b1 := y_b1.gr hg
  replace f_b1 := f_b1.gr hg
  replace y_b2 := y_b2.gr hg
  replace f_b2 := f_b2.gr hg
  replace y_b3 := y_b3.gr hg
  replace o_b4 := o_b4.gr hg
  replace o_b5 := o_b5.gr hg
  replace o_b6 := o_b6.gr hg
  replace o_b7 := o_b7.gr hg
  replace l_b8 := l_b8.gr hg
  replace o_b9 := o_b9.gr hg
  replace l_b10 := l_b10.gr hg
  replace y_b11 := y_b11.gr hg
  replace o_b12 := o_b12.gr hg
  replace f_b12 := f_b12.gr hg
  replace f_ua := f_ua.gr hg
  replace o_b13 := o_b13.gr hg
  replace f_b13 := f_b13.gr hg
  have o_b17 : cc_o M g b17 5 := ⟨hb9, hk9⟩
  clear hx hb9 hk9 hg hg0
  refine wc_as B (r := (RX5, TX5, 7)) (ci := 5) (xs := [b14, b15, b16]) (X2 := [(a0, .inr (11, [.ref b1, .ref b2, .ref b3, .ref b4, .ref b5, .ref b6, .ref b7, .ref b8, .ref b9, .ref b10, .ref b11, .ref b12, .ref b13, .int 0, .int 0, .int 0])), (b8, .inl (cT 400, 8, .inr (.inr (.inr (.inr (fun j => ([b14, b15, b16, b17] : List Nat)[j]?)))))), (b10, .inl (cT 403, 12, .inr (.inr (.inr (.inr (fun j => ([] : List Nat)[j]?))))))]) 1 3 400 [b14, b15, b16, b17] rfl rfl o_b17 (by decide) rfl (show ¬ ((3 : Int32) < 0 ∨ 8 ≤ (3 : Int32).toNatClampNeg) by decide) rfl rfl rfl dX11_init_169 ?_
  replace l_b8 := l_b8.snoc o_b17
  clear o_b17
  refine wc_iinc B [(1, .int 4), (0, .ref a0)] 4 dX11_init_170 0 rfl (by decide) (by decide) rfl ?_
  refine wc_goto B 151 dX11_init_173 (by decide) ?_
  refine wc_iload_n B dX11_init_151 rfl 0 rfl ?_
  refine wc_bipush B 8 dX11_init_152 (by decide) ?_
  refine wc_ge B 176 dX11_init_154 (by decide) (fun c9 => absurd c9 (by decide)) (fun c9 => ?_)
  refine wc_aload_n B dX11_init_157 rfl 1 rfl ?_
  refine wc_get B (C := RX11) (T := TX11) (N := 16) iq_X11_init_X11 0 rfl rfl 7 (by decide) (by decide +kernel) rfl (v := .ref b8) rfl dX11_init_158 ?_
  refine wc_iload_n B dX11_init_161 rfl 0 rfl ?_
  refine wc_nw B (C := RX5) (T := TX5) (N := 7) (ci := 5) (fs := [.null, .null, .int 0, .int 0, .int 0, .int 0, .int 0]) iq_X11_init_X5 tyX5 tyX5_ok (by decide +kernel) (by decide +kernel) (by decide +kernel) rfl (fun j hj => zz_defX5 j hj) (Nat.le_of_ble_eq_true rfl) (Nat.le_of_ble_eq_true rfl) dX11_init_162 (fun b18 => ?_)
  refine wc_dup B dX11_init_165 rfl ?_
  refine wc_init B (As := []) (rest := [.ref b18, .int 4, .ref b8]) (X2 := [(a0, .inr (11, [.ref b1, .ref b2, .ref b3, .ref b4, .ref b5, .ref b6, .ref b7, .ref b8, .ref b9, .ref b10, .ref b11, .ref b12, .ref b13, .int 0, .int 0, .int 0])), (b8, .inl (cT 400, 8, .inr (.inr (.inr (.inr (fun j => ([b14, b15, b16, b17] : List Nat)[j]?)))))), (b10, .inl (cT 403, 12, .inr (.inr (.inr (.inr (fun j => ([] : List Nat)[j]?))))))]) 3 rfl rfl (cc_X5 l dC dI cT b18) (cwI 0 B.1.2.2.2.2 gX11_init_X5_init rfl rfl rfl (B.1.2.2.2.2 (.initialized RX5) (by decide +kernel)) (B.1.2.2.2.2 (.methodLink RX11 58 yX5_init) (by decide +kernel)) (B.1.2.2.2.2 (.instanceMethod yX5_init) (by decide +kernel)) rfl (by decide +kernel) ⟨(Nat.le_of_ble_eq_true rfl), (Nat.le_of_ble_eq_true rfl)⟩) hcT hV rfl rfl (Nat.le_of_ble_eq_true rfl) (Nat.le_of_ble_eq_true rfl) (Nat.le_of_ble_eq_true rfl) dX11_init_166 (fun M g r M0 g0 r0 hg hg0 hx hb9 hk9 hcT hV => ?_)
  replace y_b1 := y_b1.gr hg
  replace f_b1 := f_b1.gr hg
  replace y_b2 := y_b2.gr hg
  replace f_b2 := f_b2.gr hg
  replace y_b3 := y_b3.gr hg
  replace o_b4 := o_b4.gr hg
  replace o_b5 := o_b5.gr hg
  replace o_b6 := o_b6.gr hg
  replace o_b7 := o_b7.gr hg
  replace l_b8 := l_b8.gr hg
  replace o_b9 := o_b9.gr hg
  replace l_b10 := l_b10.gr hg
  replace y_b11 := y_b11.gr hg
  replace o_b12 := o_b12.gr hg
  replace f_b12 := f_b12.gr hg
  replace f_ua := f_ua.gr hg
  replace o_b13 := o_b13.gr hg
  replace f_b13 := f_b13.gr hg
  have o_b18 : cc_o M g b18 5 := ⟨hb9, hk9⟩
  clear hx hb9 hk9 hg hg0
  refine wc_as B (r := (RX5, TX5, 7)) (ci := 5) (xs := [b14, b15, b16, b17]) (X2 := [(a0, .inr (11, [.ref b1, .ref b2, .ref b3, .ref b4, .ref b5, .ref b6, .ref b7, .ref b8, .ref b9, .ref b10, .ref b11, .ref b12, .ref b13, .int 0, .int 0, .int 0])), (b8, .inl (cT 400, 8, .inr (.inr (.inr (.inr (fun j => ([b14, b15, b16, b17, b18] : List Nat)[j]?)))))), (b10, .inl (cT 403, 12, .inr (.inr (.inr (.inr (fun j => ([] : List Nat)[j]?))))))]) 1 3 400 [b14, b15, b16, b17, b18] rfl rfl o_b18 (by decide) rfl (show ¬ ((4 : Int32) < 0 ∨ 8 ≤ (4 : Int32).toNatClampNeg) by decide) rfl rfl rfl dX11_init_169 ?_
  replace l_b8 := l_b8.snoc o_b18
  clear o_b18
  refine wc_iinc B [(1, .int 5), (0, .ref a0)] 5 dX11_init_170 0 rfl (by decide) (by decide) rfl ?_
  refine wc_goto B 151 dX11_init_173 (by decide) ?_
  refine wc_iload_n B dX11_init_151 rfl 0 rfl ?_
  refine wc_bipush B 8 dX11_init_152 (by decide) ?_
  refine wc_ge B 176 dX11_init_154 (by decide) (fun c9 => absurd c9 (by decide)) (fun c9 => ?_)
  refine wc_aload_n B dX11_init_157 rfl 1 rfl ?_
  refine wc_get B (C := RX11) (T := TX11) (N := 16) iq_X11_init_X11 0 rfl rfl 7 (by decide) (by decide +kernel) rfl (v := .ref b8) rfl dX11_init_158 ?_
  refine wc_iload_n B dX11_init_161 rfl 0 rfl ?_
  refine wc_nw B (C := RX5) (T := TX5) (N := 7) (ci := 5) (fs := [.null, .null, .int 0, .int 0, .int 0, .int 0, .int 0]) iq_X11_init_X5 tyX5 tyX5_ok (by decide +kernel) (by decide +kernel) (by decide +kernel) rfl (fun j hj => zz_defX5 j hj) (Nat.le_of_ble_eq_true rfl) (Nat.le_of_ble_eq_true rfl) dX11_init_162 (fun b19 => ?_)
  refine wc_dup B dX11_init_165 rfl ?_
  refine wc_init B (As := []) (rest := [.ref b19, .int 5, .ref b8]) (X2 := [(a0, .inr (11, [.ref b1, .ref b2, .ref b3, .ref b4, .ref b5, .ref b6, .ref b7, .ref b8, .ref b9, .ref b10, .ref b11, .ref b12, .ref b13, .int 0, .int 0, .int 0])), (b8, .inl (cT 400, 8, .inr (.inr (.inr (.inr (fun j => ([b14, b15, b16, b17, b18] : List Nat)[j]?)))))), (b10, .inl (cT 403, 12, .inr (.inr (.inr (.inr (fun j => ([] : List Nat)[j]?))))))]) 3 rfl rfl (cc_X5 l dC dI cT b19) (cwI 0 B.1.2.2.2.2 gX11_init_X5_init rfl rfl rfl (B.1.2.2.2.2 (.initialized RX5) (by decide +kernel)) (B.1.2.2.2.2 (.methodLink RX11 58 yX5_init) (by decide +kernel)) (B.1.2.2.2.2 (.instanceMethod yX5_init) (by decide +kernel)) rfl (by decide +kernel) ⟨(Nat.le_of_ble_eq_true rfl), (Nat.le_of_ble_eq_true rfl)⟩) hcT hV rfl rfl (Nat.le_of_ble_eq_true rfl) (Nat.le_of_ble_eq_true rfl) (Nat.le_of_ble_eq_true rfl) dX11_init_166 (fun M g r M0 g0 r0 hg hg0 hx hb9 hk9 hcT hV => ?_)
  replace y_b1 := y_b1.gr hg
  replace f_b1 := f_b1.gr hg
  replace y_b2 := y_b2.gr hg
  replace f_b2 := f_b2.gr hg
  replace y_b3 := y_b3.gr hg
  replace o_b4 := o_b4.gr hg
  replace o_b5 := o_b5.gr hg
  replace o_b6 := o_b6.gr hg
  replace o_b7 := o_b7.gr hg
  replace l_b8 := l_b8.gr hg
  replace o_b9 := o_b9.gr hg
  replace l_b10 := l_b10.gr hg
  replace y_b11 := y_b11.gr hg
  replace o_b12 := o_b12.gr hg
  replace f_b12 := f_b12.gr hg
  replace f_ua := f_ua.gr hg
  replace o_b13 := o_b13.gr hg
  replace f_b13 := f_b13.gr hg
  have o_b19 : cc_o M g b19 5 := ⟨hb9, hk9⟩
  clear hx hb9 hk9 hg hg0
  refine wc_as B (r := (RX5, TX5, 7)) (ci := 5) (xs := [b14, b15, b16, b17, b18]) (X2 := [(a0, .inr (11, [.ref b1, .ref b2, .ref b3, .ref b4, .ref b5, .ref b6, .ref b7, .ref b8, .ref b9, .ref b10, .ref b11, .ref b12, .ref b13, .int 0, .int 0, .int 0])), (b8, .inl (cT 400, 8, .inr (.inr (.inr (.inr (fun j => ([b14, b15, b16, b17, b18, b19] : List Nat)[j]?)))))), (b10, .inl (cT 403, 12, .inr (.inr (.inr (.inr (fun j => ([] : List Nat)[j]?))))))]) 1 3 400 [b14, b15, b16, b17, b18, b19] rfl rfl o_b19 (by decide) rfl (show ¬ ((5 : Int32) < 0 ∨ 8 ≤ (5 : Int32).toNatClampNeg) by decide) rfl rfl rfl dX11_init_169 ?_
  replace l_b8 := l_b8.snoc o_b19
  clear o_b19
  refine wc_iinc B [(1, .int 6), (0, .ref a0)] 6 dX11_init_170 0 rfl (by decide) (by decide) rfl ?_
  refine wc_goto B 151 dX11_init_173 (by decide) ?_
  refine wc_iload_n B dX11_init_151 rfl 0 rfl ?_
  refine wc_bipush B 8 dX11_init_152 (by decide) ?_
  refine wc_ge B 176 dX11_init_154 (by decide) (fun c9 => absurd c9 (by decide)) (fun c9 => ?_)
  refine wc_aload_n B dX11_init_157 rfl 1 rfl ?_
  refine wc_get B (C := RX11) (T := TX11) (N := 16) iq_X11_init_X11 0 rfl rfl 7 (by decide) (by decide +kernel) rfl (v := .ref b8) rfl dX11_init_158 ?_
  refine wc_iload_n B dX11_init_161 rfl 0 rfl ?_
  refine wc_nw B (C := RX5) (T := TX5) (N := 7) (ci := 5) (fs := [.null, .null, .int 0, .int 0, .int 0, .int 0, .int 0]) iq_X11_init_X5 tyX5 tyX5_ok (by decide +kernel) (by decide +kernel) (by decide +kernel) rfl (fun j hj => zz_defX5 j hj) (Nat.le_of_ble_eq_true rfl) (Nat.le_of_ble_eq_true rfl) dX11_init_162 (fun b20 => ?_)
  refine wc_dup B dX11_init_165 rfl ?_
  refine wc_init B (As := []) (rest := [.ref b20, .int 6, .ref b8]) (X2 := [(a0, .inr (11, [.ref b1, .ref b2, .ref b3, .ref b4, .ref b5, .ref b6, .ref b7, .ref b8, .ref b9, .ref b10, .ref b11, .ref b12, .ref b13, .int 0, .int 0, .int 0])), (b8, .inl (cT 400, 8, .inr (.inr (.inr (.inr (fun j => ([b14, b15, b16, b17, b18, b19] : List Nat)[j]?)))))), (b10, .inl (cT 403, 12, .inr (.inr (.inr (.inr (fun j => ([] : List Nat)[j]?))))))]) 3 rfl rfl (cc_X5 l dC dI cT b20) (cwI 0 B.1.2.2.2.2 gX11_init_X5_init rfl rfl rfl (B.1.2.2.2.2 (.initialized RX5) (by decide +kernel)) (B.1.2.2.2.2 (.methodLink RX11 58 yX5_init) (by decide +kernel)) (B.1.2.2.2.2 (.instanceMethod yX5_init) (by decide +kernel)) rfl (by decide +kernel) ⟨(Nat.le_of_ble_eq_true rfl), (Nat.le_of_ble_eq_true rfl)⟩) hcT hV rfl rfl (Nat.le_of_ble_eq_true rfl) (Nat.le_of_ble_eq_true rfl) (Nat.le_of_ble_eq_true rfl) dX11_init_166 (fun M g r M0 g0 r0 hg hg0 hx hb9 hk9 hcT hV => ?_)
  replace y_b1 := y_b1.gr hg
  replace f_b1 := f_b1.gr hg
  replace y_b2 := y_b2.gr hg
  replace f_b2 := f_b2.gr hg
  replace y_b3 := y_b3.gr hg
  replace o_b4 := o_b4.gr hg
  replace o_b5 := o_b5.gr hg
  replace o_b6 := o_b6.gr hg
  replace o_b7 := o_b7.gr hg
  replace l_b8 := l_b8.gr hg
  replace o_b9 := o_b9.gr hg
  replace l_b10 := l_b10.gr hg
  replace y_b11 := y_b11.gr hg
  replace o_b12 := o_b12.gr hg
  replace f_b12 := f_b12.gr hg
  replace f_ua := f_ua.gr hg
  replace o_b13 := o_b13.gr hg
  replace f_b13 := f_b13.gr hg
  have o_b20 : cc_o M g b20 5 := ⟨hb9, hk9⟩
  clear hx hb9 hk9 hg hg0
  refine wc_as B (r := (RX5, TX5, 7)) (ci := 5) (xs := [b14, b15, b16, b17, b18, b19]) (X2 := [(a0, .inr (11, [.ref b1, .ref b2, .ref b3, .ref b4, .ref b5, .ref b6, .ref b7, .ref b8, .ref b9, .ref b10, .ref b11, .ref b12, .ref b13, .int 0, .int 0, .int 0])), (b8, .inl (cT 400, 8, .inr (.inr (.inr (.inr (fun j => ([b14, b15, b16, b17, b18, b19, b20] : List Nat)[j]?)))))), (b10, .inl (cT 403, 12, .inr (.inr (.inr (.inr (fun j => ([] : List Nat)[j]?))))))]) 1 3 400 [b14, b15, b16, b17, b18, b19, b20] rfl rfl o_b20 (by decide) rfl (show ¬ ((6 : Int32) < 0 ∨ 8 ≤ (6 : Int32).toNatClampNeg) by decide) rfl rfl rfl dX11_init_169 ?_
  replace l_b8 := l_b8.snoc o_b20
  clear o_b20
  refine wc_iinc B [(1, .int 7), (0, .ref a0)] 7 dX11_init_170 0 rfl (by decide) (by decide) rfl ?_
  refine wc_goto B 151 dX11_init_173 (by decide) ?_
  refine wc_iload_n B dX11_init_151 rfl 0 rfl ?_
  refine wc_bipush B 8 dX11_init_152 (by decide) ?_
  refine wc_ge B 176 dX11_init_154 (by decide) (fun c9 => absurd c9 (by decide)) (fun c9 => ?_)
  refine wc_aload_n B dX11_init_157 rfl 1 rfl ?_
  refine wc_get B (C := RX11) (T := TX11) (N := 16) iq_X11_init_X11 0 rfl rfl 7 (by decide) (by decide +kernel) rfl (v := .ref b8) rfl dX11_init_158 ?_
  refine wc_iload_n B dX11_init_161 rfl 0 rfl ?_
  refine wc_nw B (C := RX5) (T := TX5) (N := 7) (ci := 5) (fs := [.null, .null, .int 0, .int 0, .int 0, .int 0, .int 0]) iq_X11_init_X5 tyX5 tyX5_ok (by decide +kernel) (by decide +kernel) (by decide +kernel) rfl (fun j hj => zz_defX5 j hj) (Nat.le_of_ble_eq_true rfl) (Nat.le_of_ble_eq_true rfl) dX11_init_162 (fun b21 => ?_)
  refine wc_dup B dX11_init_165 rfl ?_
  refine wc_init B (As := []) (rest := [.ref b21, .int 7, .ref b8]) (X2 := [(a0, .inr (11, [.ref b1, .ref b2, .ref b3, .ref b4, .ref b5, .ref b6, .ref b7, .ref b8, .ref b9, .ref b10, .ref b11, .ref b12, .ref b13, .int 0, .int 0, .int 0])), (b8, .inl (cT 400, 8, .inr (.inr (.inr (.inr (fun j => ([b14, b15, b16, b17, b18, b19, b20] : List Nat)[j]?)))))), (b10, .inl (cT 403, 12, .inr (.inr (.inr (.inr (fun j => ([] : List Nat)[j]?))))))]) 3 rfl rfl (cc_X5 l dC dI cT b21) (cwI 0 B.1.2.2.2.2 gX11_init_X5_init rfl rfl rfl (B.1.2.2.2.2 (.initialized RX5) (by decide +kernel)) (B.1.2.2.2.2 (.methodLink RX11 58 yX5_init) (by decide +kernel)) (B.1.2.2.2.2 (.instanceMethod yX5_init) (by decide +kernel)) rfl (by decide +kernel) ⟨(Nat.le_of_ble_eq_true rfl), (Nat.le_of_ble_eq_true rfl)⟩) hcT hV rfl rfl (Nat.le_of_ble_eq_true rfl) (Nat.le_of_ble_eq_true rfl) (Nat.le_of_ble_eq_true rfl) dX11_init_166 (fun M g r M0 g0 r0 hg hg0 hx hb9 hk9 hcT hV => ?_)
  replace y_b1 := y_b1.gr hg
  replace f_b1 := f_b1.gr hg
  replace y_b2 := y_b2.gr hg
  replace f_b2 := f_b2.gr hg
  replace y_b3 := y_b3.gr hg
  replace o_b4 := o_b4.gr hg
  replace o_b5 := o_b5.gr hg
  replace o_b6 := o_b6.gr hg
  replace o_b7 := o_b7.gr hg
  replace l_b8 := l_b8.gr hg
  replace o_b9 := o_b9.gr hg
  replace l_b10 := l_b10.gr hg
  replace y_b11 := y_b11.gr hg
  replace o_b12 := o_b12.gr hg
  replace f_b12 := f_b12.gr hg
  replace f_ua := f_ua.gr hg
  replace o_b13 := o_b13.gr hg
  replace f_b13 := f_b13.gr hg
  have o_b21 : cc_o M g b21 5 := ⟨hb9, hk9⟩
  clear hx hb9 hk9 hg hg0
  refine wc_as B (r := (RX5, TX5, 7)) (ci := 5) (xs := [b14, b15, b16, b17, b18, b19, b20]) (X2 := [(a0, .inr (11, [.ref b1, .ref b2, .ref b3, .ref b4, .ref b5, .ref b6, .ref b7, .ref b8, .ref b9, .ref b10, .ref b11, .ref b12, .ref b13, .int 0, .int 0, .int 0])), (b8, .inl (cT 400, 8, .inr (.inr (.inr (.inr (fun j => ([b14, b15, b16, b17, b18, b19, b20, b21] : List Nat)[j]?)))))), (b10, .inl (cT 403, 12, .inr (.inr (.inr (.inr (fun j => ([] : List Nat)[j]?))))))]) 1 3 400 [b14, b15, b16, b17, b18, b19, b20, b21] rfl rfl o_b21 (by decide) rfl (show ¬ ((7 : Int32) < 0 ∨ 8 ≤ (7 : Int32).toNatClampNeg) by decide) rfl rfl rfl dX11_init_169 ?_
  replace l_b8 := l_b8.snoc o_b21
  clear o_b21
  refine wc_iinc B [(1, .int 8), (0, .ref a0)] 8 dX11_init_170 0 rfl (by decide) (by decide) rfl ?_
  refine wc_goto B 151 dX11_init_173 (by decide) ?_
  refine wc_iload_n B dX11_init_151 rfl 0 rfl ?_
  refine wc_bipush B 8 dX11_init_152 (by decide) ?_
  refine wc_ge B 176 dX11_init_154 (by decide) (fun c9 => ?_) (fun c9 => absurd (by decide) c9)
  refine wc_iconst B 0 dX11_init_176 (by decide) ?_
  refine wc_istore_n B [(1, .int 0), (0, .ref a0)] dX11_init_177 rfl (by decide) rfl ?_
  refine wc_iload_n B dX11_init_178 rfl 0 rfl ?_
  refine wc_bipush B 12 dX11_init_179 (by decide) ?_
  refine wc_ge B 203 dX11_init_181 (by decide) (fun c9 => absurd c9 (by decide)) (fun c9 => ?_)
  refine wc_aload_n B dX11_init_184 rfl 1 rfl ?_
  refine wc_get B (C := RX11) (T := TX11) (N := 16) iq_X11_init_X11 0 rfl rfl 9 (by decide) (by decide +kernel) rfl (v := .ref b10) rfl dX11_init_185 ?_
  refine wc_iload_n B dX11_init_188 rfl 0 rfl ?_
  refine wc_nwn B (C := RX0) (T := TX0) (N := 4) (ci := 0) (fs := [.null, .int 0, .int 0, .int 0]) iq_X11_init_X0 tyX0 tyX0_ok (by decide +kernel) (by decide +kernel) (by decide +kernel) rfl (fun j hj => zz_defX0 j hj) (Nat.le_of_ble_eq_true rfl) (Nat.le_of_ble_eq_true rfl) dX11_init_189 (fun b22 n_b22 => ?_)
  have d_b22 := fun z => n_b22 (l_b10 _ z).1
  clear n_b22
  refine wc_dup B dX11_init_192 rfl ?_
  refine wc_initN B (As := []) (rest := [.ref b22, .int 0, .ref b10]) (X2 := [(a0, .inr (11, [.ref b1, .ref b2, .ref b3, .ref b4, .ref b5, .ref b6, .ref b7, .ref b8, .ref b9, .ref b10, .ref b11, .ref b12, .ref b13, .int 0, .int 0, .int 0])), (b8, .inl (cT 400, 8, .inr (.inr (.inr (.inr (fun j => ([b14, b15, b16, b17, b18, b19, b20, b21] : List Nat)[j]?)))))), (b10, .inl (cT 403, 12, .inr (.inr (.inr (.inr (fun j => ([] : List Nat)[j]?))))))]) 3 rfl rfl (cc_X0 l dC dI cT b22) ⟨va_cnB 0 B.1.2.2.2.2 gX11_init_X0_init_n83 rfl rfl rfl B.2.2.2.1.n_RX11_83 (B.1.2.2.2.2 (.initialized RX0) (by decide +kernel)) (by decide +kernel) ⟨(Nat.le_of_ble_eq_true rfl), (Nat.le_of_ble_eq_true rfl)⟩, rfl, B.1.2.2.2.2 (.instanceMethod yX0_init) (by decide +kernel)⟩ hcT hV rfl rfl (Nat.le_of_ble_eq_true rfl) (Nat.le_of_ble_eq_true rfl) (Nat.le_of_ble_eq_true rfl) dX11_init_193 (fun M g r M0 g0 r0 hg hg0 hx hb9 hk9 hcT hV => ?_)
  replace y_b1 := y_b1.gr hg
  replace f_b1 := f_b1.gr hg
  replace y_b2 := y_b2.gr hg
  replace f_b2 := f_b2.gr hg
  replace y_b3 := y_b3.gr hg
  replace o_b4 := o_b4.gr hg
  replace o_b5 := o_b5.gr hg
  replace o_b6 := o_b6.gr hg
  replace o_b7 := o_b7.gr hg
  replace l_b8 := l_b8.gr hg
  replace o_b9 := o_b9.gr hg
  replace l_b10 := l_b10.gr hg
  replace y_b11 := y_b11.gr hg
  replace o_b12 := o_b12.gr hg
  replace f_b12 := f_b12.gr hg
  replace f_ua := f_ua.gr hg
  replace o_b13 := o_b13.gr hg
  replace f_b13 := f_b13.gr hg
  have o_b22 : cc_o M g b22 0 := ⟨hb9, hk9⟩
  clear hx hb9 hk9 hg hg0
  refine wc_as B (r := (RX0, TX0, 4)) (ci := 0) (xs := []) (X2 := [(a0, .inr (11, [.ref b1, .ref b2, .ref b3, .ref b4, .ref b5, .ref b6, .ref b7, .ref b8, .ref b9, .ref b10, .ref b11, .ref b12, .ref b13, .int 0, .int 0, .int 0])), (b8, .inl (cT 400, 8, .inr (.inr (.inr (.inr (fun j => ([b14, b15, b16, b17, b18, b19, b20, b21] : List Nat)[j]?)))))), (b10, .inl (cT 403, 12, .inr (.inr (.inr (.inr (fun j => ([b22] : List Nat)[j]?))))))]) 2 6 403 [b22] rfl rfl o_b22 (by decide) rfl (show ¬ ((0 : Int32) < 0 ∨ 12 ≤ (0 : Int32).toNatClampNeg) by decide) rfl rfl rfl dX11_init_196 ?_
  replace l_b10 := l_b10.snoc o_b22
  clear o_b22
  replace nd_b10 := cc_ndx nd_b10 d_b22
  clear d_b22
  refine wc_iinc B [(1, .int 1), (0, .ref a0)] 1 dX11_init_197 0 rfl (by decide) (by decide) rfl ?_
  refine wc_goto B 178 dX11_init_200 (by decide) ?_
  refine wc_iload_n B dX11_init_178 rfl 0 rfl ?_
  refine wc_bipush B 12 dX11_init_179 (by decide) ?_
  refine wc_ge B 203 dX11_init_181 (by decide) (fun c9 => absurd c9 (by decide)) (fun c9 => ?_)
  refine wc_aload_n B dX11_init_184 rfl 1 rfl ?_
  refine wc_get B (C := RX11) (T := TX11) (N := 16) iq_X11_init_X11 0 rfl rfl 9 (by decide) (by decide +kernel) rfl (v := .ref b10) rfl dX11_init_185 ?_
  refine wc_iload_n B dX11_init_188 rfl 0 rfl ?_
  refine wc_nwn B (C := RX0) (T := TX0) (N := 4) (ci := 0) (fs := [.null, .int 0, .int 0, .int 0]) iq_X11_init_X0 tyX0 tyX0_ok (by decide +kernel) (by decide +kernel) (by decide +kernel) rfl (fun j hj => zz_defX0 j hj) (Nat.le_of_ble_eq_true rfl) (Nat.le_of_ble_eq_true rfl) dX11_init_189 (fun b23 n_b23 => ?_)
  have d_b23 := fun z => n_b23 (l_b10 _ z).1
  clear n_b23
  refine wc_dup B dX11_init_192 rfl ?_
  refine wc_initN B (As := []) (rest := [.ref b23, .int 1, .ref b10]) (X2 := [(a0, .inr (11, [.ref b1, .ref b2, .ref b3, .ref b4, .ref b5, .ref b6, .ref b7, .ref b8, .ref b9, .ref b10, .ref b11, .ref b12, .ref b13, .int 0, .int 0, .int 0])), (b8, .inl (cT 400, 8, .inr (.inr (.inr (.inr (fun j => ([b14, b15, b16, b17, b18, b19, b20, b21] : List Nat)[j]?)))))), (b10, .inl (cT 403, 12, .inr (.inr (.inr (.inr (fun j => ([b22] : List Nat)[j]?))))))]) 3 rfl rfl (cc_X0 l dC dI cT b23) ⟨va_cnB 0 B.1.2.2.2.2 gX11_init_X0_init_n83 rfl rfl rfl B.2.2.2.1.n_RX11_83 (B.1.2.2.2.2 (.initialized RX0) (by decide +kernel)) (by decide +kernel) ⟨(Nat.le_of_ble_eq_true rfl), (Nat.le_of_ble_eq_true rfl)⟩, rfl, B.1.2.2.2.2 (.instanceMethod yX0_init) (by decide +kernel)⟩ hcT hV rfl rfl (Nat.le_of_ble_eq_true rfl) (Nat.le_of_ble_eq_true rfl) (Nat.le_of_ble_eq_true rfl) dX11_init_193 (fun M g r M0 g0 r0 hg hg0 hx hb9 hk9 hcT hV => ?_)
  replace y_b1 := y_b1.gr hg
  replace f_b1 := f_b1.gr hg
  replace y_b2 := y_b2.gr hg
  replace f_b2 := f_b2.gr hg
  replace y_b3 := y_b3.gr hg
  replace o_b4 := o_b4.gr hg
  replace o_b5 := o_b5.gr hg
  replace o_b6 := o_b6.gr hg
  replace o_b7 := o_b7.gr hg
  replace l_b8 := l_b8.gr hg
  replace o_b9 := o_b9.gr hg
  replace l_b10 := l_b10.gr hg
  replace y_b11 := y_b11.gr hg
  replace o_b12 := o_b12.gr hg
  replace f_b12 := f_b12.gr hg
  replace f_ua := f_ua.gr hg
  replace o_b13 := o_b13.gr hg
  replace f_b13 := f_b13.gr hg
  have o_b23 : cc_o M g b23 0 := ⟨hb9, hk9⟩
  clear hx hb9 hk9 hg hg0
  refine wc_as B (r := (RX0, TX0, 4)) (ci := 0) (xs := [b22]) (X2 := [(a0, .inr (11, [.ref b1, .ref b2, .ref b3, .ref b4, .ref b5, .ref b6, .ref b7, .ref b8, .ref b9, .ref b10, .ref b11, .ref b12, .ref b13, .int 0, .int 0, .int 0])), (b8, .inl (cT 400, 8, .inr (.inr (.inr (.inr (fun j => ([b14, b15, b16, b17, b18, b19, b20, b21] : List Nat)[j]?)))))), (b10, .inl (cT 403, 12, .inr (.inr (.inr (.inr (fun j => ([b22, b23] : List Nat)[j]?))))))]) 2 6 403 [b22, b23] rfl rfl o_b23 (by decide) rfl (show ¬ ((1 : Int32) < 0 ∨ 12 ≤ (1 : Int32).toNatClampNeg) by decide) rfl rfl rfl dX11_init_196 ?_
  replace l_b10 := l_b10.snoc o_b23
  clear o_b23
  replace nd_b10 := cc_ndx nd_b10 d_b23
  clear d_b23
  refine wc_iinc B [(1, .int 2), (0, .ref a0)] 2 dX11_init_197 0 rfl (by decide) (by decide) rfl ?_
  refine wc_goto B 178 dX11_init_200 (by decide) ?_
  refine wc_iload_n B dX11_init_178 rfl 0 rfl ?_
  refine wc_bipush B 12 dX11_init_179 (by decide) ?_
  refine wc_ge B 203 dX11_init_181 (by decide) (fun c9 => absurd c9 (by decide)) (fun c9 => ?_)
  refine wc_aload_n B dX11_init_184 rfl 1 rfl ?_
  refine wc_get B (C := RX11) (T := TX11) (N := 16) iq_X11_init_X11 0 rfl rfl 9 (by decide) (by decide +kernel) rfl (v := .ref b10) rfl dX11_init_185 ?_
  refine wc_iload_n B dX11_init_188 rfl 0 rfl ?_
  refine wc_nwn B (C := RX0) (T := TX0) (N := 4) (ci := 0) (fs := [.null, .int 0, .int 0, .int 0]) iq_X11_init_X0 tyX0 tyX0_ok (by decide +kernel) (by decide +kernel) (by decide +kernel) rfl (fun j hj => zz_defX0 j hj) (Nat.le_of_ble_eq_true rfl) (Nat.le_of_ble_eq_true rfl) dX11_init_189 (fun b24 n_b24 => ?_)
  have d_b24 := fun z => n_b24 (l_b10 _ z).1
  clear n_b24
  refine wc_dup B dX11_init_192 rfl ?_
  refine wc_initN B (As := []) (rest := [.ref b24, .int 2, .ref b10]) (X2 := [(a0, .inr (11, [.ref b1, .ref b2, .ref b3, .ref b4, .ref b5, .ref b6, .ref b7, .ref b8, .ref b9, .ref b10, .ref b11, .ref b12, .ref b13, .int 0, .int 0, .int 0])), (b8, .inl (cT 400, 8, .inr (.inr (.inr (.inr (fun j => ([b14, b15, b16, b17, b18, b19, b20, b21] : List Nat)[j]?)))))), (b10, .inl (cT 403, 12, .inr (.inr (.inr (.inr (fun j => ([b22, b23] : List Nat)[j]?))))))]) 3 rfl rfl (cc_X0 l dC dI cT b24) ⟨va_cnB 0 B.1.2.2.2.2 gX11_init_X0_init_n83 rfl rfl rfl B.2.2.2.1.n_RX11_83 (B.1.2.2.2.2 (.initialized RX0) (by decide +kernel)) (by decide +kernel) ⟨(Nat.le_of_ble_eq_true rfl), (Nat.le_of_ble_eq_true rfl)⟩, rfl, B.1.2.2.2.2 (.instanceMethod yX0_init) (by decide +kernel)⟩ hcT hV rfl rfl (Nat.le_of_ble_eq_true rfl) (Nat.le_of_ble_eq_true rfl) (Nat.le_of_ble_eq_true rfl) dX11_init_193 (fun M g r M0 g0 r0 hg hg0 hx hb9 hk9 hcT hV => ?_)
  replace y_b1 := y_b1.gr hg
  replace f_b1 := f_b1.gr hg
  replace y_b2 := y_b2.gr hg
  replace f_b2 := f_b2.gr hg
  replace y_b3 := y_b3.gr hg
  replace o_b4 := o_b4.gr hg
  replace o_b5 := o_b5.gr hg
  replace o_b6 := o_b6.gr hg
  replace o_b7 := o_b7.gr hg
  replace l_b8 := l_b8.gr hg
  replace o_b9 := o_b9.gr hg
  replace l_b10 := l_b10.gr hg
  replace y_b11 := y_b11.gr hg
  replace o_b12 := o_b12.gr hg
  replace f_b12 := f_b12.gr hg
  replace f_ua := f_ua.gr hg
  replace o_b13 := o_b13.gr hg
  replace f_b13 := f_b13.gr hg
  have o_b24 : cc_o M g b24 0 := ⟨hb9, hk9⟩
  clear hx hb9 hk9 hg hg0
  refine wc_as B (r := (RX0, TX0, 4)) (ci := 0) (xs := [b22, b23]) (X2 := [(a0, .inr (11, [.ref b1, .ref b2, .ref b3, .ref b4, .ref b5, .ref b6, .ref b7, .ref b8, .ref b9, .ref b10, .ref b11, .ref b12, .ref b13, .int 0, .int 0, .int 0])), (b8, .inl (cT 400, 8, .inr (.inr (.inr (.inr (fun j => ([b14, b15, b16, b17, b18, b19, b20, b21] : List Nat)[j]?)))))), (b10, .inl (cT 403, 12, .inr (.inr (.inr (.inr (fun j => ([b22, b23, b24] : List Nat)[j]?))))))]) 2 6 403 [b22, b23, b24] rfl rfl o_b24 (by decide) rfl (show ¬ ((2 : Int32) < 0 ∨ 12 ≤ (2 : Int32).toNatClampNeg) by decide) rfl rfl rfl dX11_init_196 ?_
  replace l_b10 := l_b10.snoc o_b24
  clear o_b24
  replace nd_b10 := cc_ndx nd_b10 d_b24
  clear d_b24
  refine wc_iinc B [(1, .int 3), (0, .ref a0)] 3 dX11_init_197 0 rfl (by decide) (by decide) rfl ?_
  refine wc_goto B 178 dX11_init_200 (by decide) ?_
  refine wc_iload_n B dX11_init_178 rfl 0 rfl ?_
  refine wc_bipush B 12 dX11_init_179 (by decide) ?_
  refine wc_ge B 203 dX11_init_181 (by decide) (fun c9 => absurd c9 (by decide)) (fun c9 => ?_)
  refine wc_aload_n B dX11_init_184 rfl 1 rfl ?_
  refine wc_get B (C := RX11) (T := TX11) (N := 16) iq_X11_init_X11 0 rfl rfl 9 (by decide) (by decide +kernel) rfl (v := .ref b10) rfl dX11_init_185 ?_
  refine wc_iload_n B dX11_init_188 rfl 0 rfl ?_
  refine wc_nwn B (C := RX0) (T := TX0) (N := 4) (ci := 0) (fs := [.null, .int 0, .int 0, .int 0]) iq_X11_init_X0 tyX0 tyX0_ok (by decide +kernel) (by decide +kernel) (by decide +kernel) rfl (fun j hj => zz_defX0 j hj) (Nat.le_of_ble_eq_true rfl) (Nat.le_of_ble_eq_true rfl) dX11_init_189 (fun b25 n_b25 => ?_)
  have d_b25 := fun z => n_b25 (l_b10 _ z).1
  clear n_b25
  refine wc_dup B dX11_init_192 rfl ?_
  refine wc_initN B (As := []) (rest := [.ref b25, .int 3, .ref b10]) (X2 := [(a0, .inr (11, [.ref b1, .ref b2, .ref b3, .ref b4, .ref b5, .ref b6, .ref b7, .ref b8, .ref b9, .ref b10, .ref b11, .ref b12, .ref b13, .int 0, .int 0, .int 0])), (b8, .inl (cT 400, 8, .inr (.inr (.inr (.inr (fun j => ([b14, b15, b16, b17, b18, b19, b20, b21] : List Nat)[j]?)))))), (b10, .inl (cT 403, 12, .inr (.inr (.inr (.inr (fun j => ([b22, b23, b24] : List Nat)[j]?))))))]) 3 rfl rfl (cc_X0 l dC dI cT b25) ⟨va_cnB 0 B.1.2.2.2.2 gX11_init_X0_init_n83 rfl rfl rfl B.2.2.2.1.n_RX11_83 (B.1.2.2.2.2 (.initialized RX0) (by decide +kernel)) (by decide +kernel) ⟨(Nat.le_of_ble_eq_true rfl), (Nat.le_of_ble_eq_true rfl)⟩, rfl, B.1.2.2.2.2 (.instanceMethod yX0_init) (by decide +kernel)⟩ hcT hV rfl rfl (Nat.le_of_ble_eq_true rfl) (Nat.le_of_ble_eq_true rfl) (Nat.le_of_ble_eq_true rfl) dX11_init_193 (fun M g r M0 g0 r0 hg hg0 hx hb9 hk9 hcT hV => ?_)
  replace y_b1 := y_b1.gr hg
  replace f_b1 := f_b1.gr hg
  replace y_b2 := y_b2.gr hg
  replace f_b2 := f_b2.gr hg
  replace y_b3 := y_b3.gr hg
  replace o_b4 := o_b4.gr hg
  replace o_b5 := o_b5.gr hg
  replace o_b6 := o_b6.gr hg
  replace o_b7 := o_b7.gr hg
  replace l_b8 := l_b8.gr hg
  replace o_b9 := o_b9.gr hg
  replace l_b10 := l_b10.gr hg
  replace y_b11 := y_b11.gr hg
  replace o_b12 := o_b12.gr hg
  replace f_b12 := f_b12.gr hg
  replace f_ua := f_ua.gr hg
  replace o_b13 := o_b13.gr hg
  replace f_b13 := f_b13.gr hg
  have o_b25 : cc_o M g b25 0 := ⟨hb9, hk9⟩
  clear hx hb9 hk9 hg hg0
  refine wc_as B (r := (RX0, TX0, 4)) (ci := 0) (xs := [b22, b23, b24]) (X2 := [(a0, .inr (11, [.ref b1, .ref b2, .ref b3, .ref b4, .ref b5, .ref b6, .ref b7, .ref b8, .ref b9, .ref b10, .ref b11, .ref b12, .ref b13, .int 0, .int 0, .int 0])), (b8, .inl (cT 400, 8, .inr (.inr (.inr (.inr (fun j => ([b14, b15, b16, b17, b18, b19, b20, b21] : List Nat)[j]?)))))), (b10, .inl (cT 403, 12, .inr (.inr (.inr (.inr (fun j => ([b22, b23, b24, b25] : List Nat)[j]?))))))]) 2 6 403 [b22, b23, b24, b25] rfl rfl o_b25 (by decide) rfl (show ¬ ((3 : Int32) < 0 ∨ 12 ≤ (3 : Int32).toNatClampNeg) by decide) rfl rfl rfl dX11_init_196 ?_
  replace l_b10 := l_b10.snoc o_b25
  clear o_b25
  replace nd_b10 := cc_ndx nd_b10 d_b25
  clear d_b25
  refine wc_iinc B [(1, .int 4), (0, .ref a0)] 4 dX11_init_197 0 rfl (by decide) (by decide) rfl ?_
  refine wc_goto B 178 dX11_init_200 (by decide) ?_
  refine wc_iload_n B dX11_init_178 rfl 0 rfl ?_
  refine wc_bipush B 12 dX11_init_179 (by decide) ?_
  refine wc_ge B 203 dX11_init_181 (by decide) (fun c9 => absurd c9 (by decide)) (fun c9 => ?_)
  refine wc_aload_n B dX11_init_184 rfl 1 rfl ?_
  refine wc_get B (C := RX11) (T := TX11) (N := 16) iq_X11_init_X11 0 rfl rfl 9 (by decide) (by decide +kernel) rfl (v := .ref b10) rfl dX11_init_185 ?_
  refine wc_iload_n B dX11_init_188 rfl 0 rfl ?_
  refine wc_nwn B (C := RX0) (T := TX0) (N := 4) (ci := 0) (fs := [.null, .int 0, .int 0, .int 0]) iq_X11_init_X0 tyX0 tyX0_ok (by decide +kernel) (by decide +kernel) (by decide +kernel) rfl (fun j hj => zz_defX0 j hj) (Nat.le_of_ble_eq_true rfl) (Nat.le_of_ble_eq_true rfl) dX11_init_189 (fun b26 n_b26 => ?_)
  have d_b26 := fun z => n_b26 (l_b10 _ z).1
  clear n_b26
  refine wc_dup B dX11_init_192 rfl ?_
  refine wc_initN B (As := []) (rest := [.ref b26, .int 4, .ref b10]) (X2 := [(a0, .inr (11, [.ref b1, .ref b2, .ref b3, .ref b4, .ref b5, .ref b6, .ref b7, .ref b8, .ref b9, .ref b10, .ref b11, .ref b12, .ref b13, .int 0, .int 0, .int 0])), (b8, .inl (cT 400, 8, .inr (.inr (.inr (.inr (fun j => ([b14, b15, b16, b17, b18, b19, b20, b21] : List Nat)[j]?)))))), (b10, .inl (cT 403, 12, .inr (.inr (.inr (.inr (fun j => ([b22, b23, b24, b25] : List Nat)[j]?))))))]) 3 rfl rfl (cc_X0 l dC dI cT b26) ⟨va_cnB 0 B.1.2.2.2.2 gX11_init_X0_init_n83 rfl rfl rfl B.2.2.2.1.n_RX11_83 (B.1.2.2.2.2 (.initialized RX0) (by decide +kernel)) (by decide +kernel) ⟨(Nat.le_of_ble_eq_true rfl), (Nat.le_of_ble_eq_true rfl)⟩, rfl, B.1.2.2.2.2 (.instanceMethod yX0_init) (by decide +kernel)⟩ hcT hV rfl rfl (Nat.le_of_ble_eq_true rfl) (Nat.le_of_ble_eq_true rfl) (Nat.le_of_ble_eq_true rfl) dX11_init_193 (fun M g r M0 g0 r0 hg hg0 hx hb9 hk9 hcT hV => ?_)
  replace y_b1 := y_b1.gr hg
  replace f_b1 := f_b1.gr hg
  replace y_b2 := y_b2.gr hg
  replace f_b2 := f_b2.gr hg
  replace y_b3 := y_b3.gr hg
  replace o_b4 := o_b4.gr hg
  replace o_b5 := o_b5.gr hg
  replace o_b6 := o_b6.gr hg
  replace o_b7 := o_b7.gr hg
  replace l_b8 := l_b8.gr hg
  replace o_b9 := o_b9.gr hg
  replace l_b10 := l_b10.gr hg
  replace y_b11 := y_b11.gr hg
  replace o_b12 := o_b12.gr hg
  replace f_b12 := f_b12.gr hg
  replace f_ua := f_ua.gr hg
  replace o_b13 := o_b13.gr hg
  replace f_b13 := f_b13.gr hg
  have o_b26 : cc_o M g b26 0 := ⟨hb9, hk9⟩
  clear hx hb9 hk9 hg hg0
  refine wc_as B (r := (RX0, TX0, 4)) (ci := 0) (xs := [b22, b23, b24, b25]) (X2 := [(a0, .inr (11, [.ref b1, .ref b2, .ref b3, .ref b4, .ref b5, .ref b6, .ref b7, .ref b8, .ref b9, .ref b10, .ref b11, .ref b12, .ref b13, .int 0, .int 0, .int 0])), (b8, .inl (cT 400, 8, .inr (.inr (.inr (.inr (fun j => ([b14, b15, b16, b17, b18, b19, b20, b21] : List Nat)[j]?)))))), (b10, .inl (cT 403, 12, .inr (.inr (.inr (.inr (fun j => ([b22, b23, b24, b25, b26] : List Nat)[j]?))))))]) 2 6 403 [b22, b23, b24, b25, b26] rfl rfl o_b26 (by decide) rfl (show ¬ ((4 : Int32) < 0 ∨ 12 ≤ (4 : Int32).toNatClampNeg) by decide) rfl rfl rfl dX11_init_196 ?_
  replace l_b10 := l_b10.snoc o_b26
  clear o_b26
  replace nd_b10 := cc_ndx nd_b10 d_b26
  clear d_b26
  refine wc_iinc B [(1, .int 5), (0, .ref a0)] 5 dX11_init_197 0 rfl (by decide) (by decide) rfl ?_
  refine wc_goto B 178 dX11_init_200 (by decide) ?_
  refine wc_iload_n B dX11_init_178 rfl 0 rfl ?_
  refine wc_bipush B 12 dX11_init_179 (by decide) ?_
  refine wc_ge B 203 dX11_init_181 (by decide) (fun c9 => absurd c9 (by decide)) (fun c9 => ?_)
  refine wc_aload_n B dX11_init_184 rfl 1 rfl ?_
  refine wc_get B (C := RX11) (T := TX11) (N := 16) iq_X11_init_X11 0 rfl rfl 9 (by decide) (by decide +kernel) rfl (v := .ref b10) rfl dX11_init_185 ?_
  refine wc_iload_n B dX11_init_188 rfl 0 rfl ?_
  refine wc_nwn B (C := RX0) (T := TX0) (N := 4) (ci := 0) (fs := [.null, .int 0, .int 0, .int 0]) iq_X11_init_X0 tyX0 tyX0_ok (by decide +kernel) (by decide +kernel) (by decide +kernel) rfl (fun j hj => zz_defX0 j hj) (Nat.le_of_ble_eq_true rfl) (Nat.le_of_ble_eq_true rfl) dX11_init_189 (fun b27 n_b27 => ?_)
  have d_b27 := fun z => n_b27 (l_b10 _ z).1
  clear n_b27
  refine wc_dup B dX11_init_192 rfl ?_
  refine wc_initN B (As := []) (rest := [.ref b27, .int 5, .ref b10]) (X2 := [(a0, .inr (11, [.ref b1, .ref b2, .ref b3, .ref b4, .ref b5, .ref b6, .ref b7, .ref b8, .ref b9, .ref b10, .ref b11, .ref b12, .ref b13, .int 0, .int 0, .int 0])), (b8, .inl (cT 400, 8, .inr (.inr (.inr (.inr (fun j => ([b14, b15, b16, b17, b18, b19, b20, b21] : List Nat)[j]?)))))), (b10, .inl (cT 403, 12, .inr (.inr (.inr (.inr (fun j => ([b22, b23, b24, b25, b26] : List Nat)[j]?))))))]) 3 rfl rfl (cc_X0 l dC dI cT b27) ⟨va_cnB 0 B.1.2.2.2.2 gX11_init_X0_init_n83 rfl rfl rfl B.2.2.2.1.n_RX11_83 (B.1.2.2.2.2 (.initialized RX0) (by decide +kernel)) (by decide +kernel) ⟨(Nat.le_of_ble_eq_true rfl), (Nat.le_of_ble_eq_true rfl)⟩, rfl, B.1.2.2.2.2 (.instanceMethod yX0_init) (by decide +kernel)⟩ hcT hV rfl rfl (Nat.le_of_ble_eq_true rfl) (Nat.le_of_ble_eq_true rfl) (Nat.le_of_ble_eq_true rfl) dX11_init_193 (fun M g r M0 g0 r0 hg hg0 hx hb9 hk9 hcT hV => ?_)
  replace y_b1 := y_b1.gr hg
  replace f_b1 := f_b1.gr hg
  replace y_b2 := y_b2.gr hg
  replace f_b2 := f_b2.gr hg
  replace y_b3 := y_b3.gr hg
  replace o_b4 := o_b4.gr hg
  replace o_b5 := o_b5.gr hg
  replace o_b6 := o_b6.gr hg
  replace o_b7 := o_b7.gr hg
  replace l_b8 := l_b8.gr hg
  replace o_b9 := o_b9.gr hg
  replace l_b10 := l_b10.gr hg
  replace y_b11 := y_b11.gr hg
  replace o_b12 := o_b12.gr hg
  replace f_b12 := f_b12.gr hg
  replace f_ua := f_ua.gr hg
  replace o_b13 := o_b13.gr hg
  replace f_b13 := f_b13.gr hg
  have o_b27 : cc_o M g b27 0 := ⟨hb9, hk9⟩
  clear hx hb9 hk9 hg hg0
  refine wc_as B (r := (RX0, TX0, 4)) (ci := 0) (xs := [b22, b23, b24, b25, b26]) (X2 := [(a0, .inr (11, [.ref b1, .ref b2, .ref b3, .ref b4, .ref b5, .ref b6, .ref b7, .ref b8, .ref b9, .ref b10, .ref b11, .ref b12, .ref b13, .int 0, .int 0, .int 0])), (b8, .inl (cT 400, 8, .inr (.inr (.inr (.inr (fun j => ([b14, b15, b16, b17, b18, b19, b20, b21] : List Nat)[j]?)))))), (b10, .inl (cT 403, 12, .inr (.inr (.inr (.inr (fun j => ([b22, b23, b24, b25, b26, b27] : List Nat)[j]?))))))]) 2 6 403 [b22, b23, b24, b25, b26, b27] rfl rfl o_b27 (by decide) rfl (show ¬ ((5 : Int32) < 0 ∨ 12 ≤ (5 : Int32).toNatClampNeg) by decide) rfl rfl rfl dX11_init_196 ?_
  replace l_b10 := l_b10.snoc o_b27
  clear o_b27
  replace nd_b10 := cc_ndx nd_b10 d_b27
  clear d_b27
  refine wc_iinc B [(1, .int 6), (0, .ref a0)] 6 dX11_init_197 0 rfl (by decide) (by decide) rfl ?_
  refine wc_goto B 178 dX11_init_200 (by decide) ?_
  refine wc_iload_n B dX11_init_178 rfl 0 rfl ?_
  refine wc_bipush B 12 dX11_init_179 (by decide) ?_
  refine wc_ge B 203 dX11_init_181 (by decide) (fun c9 => absurd c9 (by decide)) (fun c9 => ?_)
  refine wc_aload_n B dX11_init_184 rfl 1 rfl ?_
  refine wc_get B (C := RX11) (T := TX11) (N := 16) iq_X11_init_X11 0 rfl rfl 9 (by decide) (by decide +kernel) rfl (v := .ref b10) rfl dX11_init_185 ?_
  refine wc_iload_n B dX11_init_188 rfl 0 rfl ?_
  refine wc_nwn B (C := RX0) (T := TX0) (N := 4) (ci := 0) (fs := [.null, .int 0, .int 0, .int 0]) iq_X11_init_X0 tyX0 tyX0_ok (by decide +kernel) (by decide +kernel) (by decide +kernel) rfl (fun j hj => zz_defX0 j hj) (Nat.le_of_ble_eq_true rfl) (Nat.le_of_ble_eq_true rfl) dX11_init_189 (fun b28 n_b28 => ?_)
  have d_b28 := fun z => n_b28 (l_b10 _ z).1
  clear n_b28
  refine wc_dup B dX11_init_192 rfl ?_
  refine wc_initN B (As := []) (rest := [.ref b28, .int 6, .ref b10]) (X2 := [(a0, .inr (11, [.ref b1, .ref b2, .ref b3, .ref b4, .ref b5, .ref b6, .ref b7, .ref b8, .ref b9, .ref b10, .ref b11, .ref b12, .ref b13, .int 0, .int 0, .int 0])), (b8, .inl (cT 400, 8, .inr (.inr (.inr (.inr (fun j => ([b14, b15, b16, b17, b18, b19, b20, b21] : List Nat)[j]?)))))), (b10, .inl (cT 403, 12, .inr (.inr (.inr (.inr (fun j => ([b22, b23, b24, b25, b26, b27] : List Nat)[j]?))))))]) 3 rfl rfl (cc_X0 l dC dI cT b28) ⟨va_cnB 0 B.1.2.2.2.2 gX11_init_X0_init_n83 rfl rfl rfl B.2.2.2.1.n_RX11_83 (B.1.2.2.2.2 (.initialized RX0) (by decide +kernel)) (by decide +kernel) ⟨(Nat.le_of_ble_eq_true rfl), (Nat.le_of_ble_eq_true rfl)⟩, rfl, B.1.2.2.2.2 (.instanceMethod yX0_init) (by decide +kernel)⟩ hcT hV rfl rfl (Nat.le_of_ble_eq_true rfl) (Nat.le_of_ble_eq_true rfl) (Nat.le_of_ble_eq_true rfl) dX11_init_193 (fun M g r M0 g0 r0 hg hg0 hx hb9 hk9 hcT hV => ?_)
  replace y_b1 := y_b1.gr hg
  replace f_b1 := f_b1.gr hg
  replace y_b2 := y_b2.gr hg
  replace f_b2 := f_b2.gr hg
  replace y_b3 := y_b3.gr hg
  replace o_b4 := o_b4.gr hg
  replace o_b5 := o_b5.gr hg
  replace o_b6 := o_b6.gr hg
  replace o_b7 := o_b7.gr hg
  replace l_b8 := l_b8.gr hg
  replace o_b9 := o_b9.gr hg
  replace l_b10 := l_b10.gr hg
  replace y_b11 := y_b11.gr hg
  replace o_b12 := o_b12.gr hg
  replace f_b12 := f_b12.gr hg
  replace f_ua := f_ua.gr hg
  replace o_b13 := o_b13.gr hg
  replace f_b13 := f_b13.gr hg
  have o_b28 : cc_o M g b28 0 := ⟨hb9, hk9⟩
  clear hx hb9 hk9 hg hg0
  refine wc_as B (r := (RX0, TX0, 4)) (ci := 0) (xs := [b22, b23, b24, b25, b26, b27]) (X2 := [(a0, .inr (11, [.ref b1, .ref b2, .ref b3, .ref b4, .ref b5, .ref b6, .ref b7, .ref b8, .ref b9, .ref b10, .ref b11, .ref b12, .ref b13, .int 0, .int 0, .int 0])), (b8, .inl (cT 400, 8, .inr (.inr (.inr (.inr (fun j => ([b14, b15, b16, b17, b18, b19, b20, b21] : List Nat)[j]?)))))), (b10, .inl (cT 403, 12, .inr (.inr (.inr (.inr (fun j => ([b22, b23, b24, b25, b26, b27, b28] : List Nat)[j]?))))))]) 2 6 403 [b22, b23, b24, b25, b26, b27, b28] rfl rfl o_b28 (by decide) rfl (show ¬ ((6 : Int32) < 0 ∨ 12 ≤ (6 : Int32).toNatClampNeg) by decide) rfl rfl rfl dX11_init_196 ?_
  replace l_b10 := l_b10.snoc o_b28
  clear o_b28
  replace nd_b10 := cc_ndx nd_b10 d_b28
  clear d_b28
  refine wc_iinc B [(1, .int 7), (0, .ref a0)] 7 dX11_init_197 0 rfl (by decide) (by decide) rfl ?_
  refine wc_goto B 178 dX11_init_200 (by decide) ?_
  refine wc_iload_n B dX11_init_178 rfl 0 rfl ?_
  refine wc_bipush B 12 dX11_init_179 (by decide) ?_
  refine wc_ge B 203 dX11_init_181 (by decide) (fun c9 => absurd c9 (by decide)) (fun c9 => ?_)
  refine wc_aload_n B dX11_init_184 rfl 1 rfl ?_
  refine wc_get B (C := RX11) (T := TX11) (N := 16) iq_X11_init_X11 0 rfl rfl 9 (by decide) (by decide +kernel) rfl (v := .ref b10) rfl dX11_init_185 ?_
  refine wc_iload_n B dX11_init_188 rfl 0 rfl ?_
  refine wc_nwn B (C := RX0) (T := TX0) (N := 4) (ci := 0) (fs := [.null, .int 0, .int 0, .int 0]) iq_X11_init_X0 tyX0 tyX0_ok (by decide +kernel) (by decide +kernel) (by decide +kernel) rfl (fun j hj => zz_defX0 j hj) (Nat.le_of_ble_eq_true rfl) (Nat.le_of_ble_eq_true rfl) dX11_init_189 (fun b29 n_b29 => ?_)
  have d_b29 := fun z => n_b29 (l_b10 _ z).1
  clear n_b29
  refine wc_dup B dX11_init_192 rfl ?_
  refine wc_initN B (As := []) (rest := [.ref b29, .int 7, .ref b10]) (X2 := [(a0, .inr (11, [.ref b1, .ref b2, .ref b3, .ref b4, .ref b5, .ref b6, .ref b7, .ref b8, .ref b9, .ref b10, .ref b11, .ref b12, .ref b13, .int 0, .int 0, .int 0])), (b8, .inl (cT 400, 8, .inr (.inr (.inr (.inr (fun j => ([b14, b15, b16, b17, b18, b19, b20, b21] : List Nat)[j]?)))))), (b10, .inl (cT 403, 12, .inr (.inr (.inr (.inr (fun j => ([b22, b23, b24, b25, b26, b27, b28] : List Nat)[j]?))))))]) 3 rfl rfl (cc_X0 l dC dI cT b29) ⟨va_cnB 0 B.1.2.2.2.2 gX11_init_X0_init_n83 rfl rfl rfl B.2.2.2.1.n_RX11_83 (B.1.2.2.2.2 (.initialized RX0) (by decide +kernel)) (by decide +kernel) ⟨(Nat.le_of_ble_eq_true rfl), (Nat.le_of_ble_eq_true rfl)⟩, rfl, B.1.2.2.2.2 (.instanceMethod yX0_init) (by decide +kernel)⟩ hcT hV rfl rfl (Nat.le_of_ble_eq_true rfl) (Nat.le_of_ble_eq_true rfl) (Nat.le_of_ble_eq_true rfl) dX11_init_193 (fun M g r M0 g0 r0 hg hg0 hx hb9 hk9 hcT hV => ?_)
  replace y_b1 := y_b1.gr hg
  replace f_b1 := f_b1.gr hg
  replace y_b2 := y_b2.gr hg
  replace f_b2 := f_b2.gr hg
  replace y_b3 := y_b3.gr hg
  replace o_b4 := o_b4.gr hg
  replace o_b5 := o_b5.gr hg
  replace o_b6 := o_b6.gr hg
  replace o_b7 := o_b7.gr hg
  replace l_b8 := l_b8.gr hg
  replace o_b9 := o_b9.gr hg
  replace l_b10 := l_b10.gr hg
  replace y_b11 := y_b11.gr hg
  replace o_b12 := o_b12.gr hg
  replace f_b12 := f_b12.gr hg
  replace f_ua := f_ua.gr hg
  replace o_b13 := o_b13.gr hg
  replace f_b13 := f_b13.gr hg
  have o_b29 : cc_o M g b29 0 := ⟨hb9, hk9⟩
  clear hx hb9 hk9 hg hg0
  refine wc_as B (r := (RX0, TX0, 4)) (ci := 0) (xs := [b22, b23, b24, b25, b26, b27, b28]) (X2 := [(a0, .inr (11, [.ref b1, .ref b2, .ref b3, .ref b4, .ref b5, .ref b6, .ref b7, .ref b8, .ref b9, .ref b10, .ref b11, .ref b12, .ref b13, .int 0, .int 0, .int 0])), (b8, .inl (cT 400, 8, .inr (.inr (.inr (.inr (fun j => ([b14, b15, b16, b17, b18, b19, b20, b21] : List Nat)[j]?)))))), (b10, .inl (cT 403, 12, .inr (.inr (.inr (.inr (fun j => ([b22, b23, b24, b25, b26, b27, b28, b29] : List Nat)[j]?))))))]) 2 6 403 [b22, b23, b24, b25, b26, b27, b28, b29] rfl rfl o_b29 (by decide) rfl (show ¬ ((7 : Int32) < 0 ∨ 12 ≤ (7 : Int32).toNatClampNeg) by decide) rfl rfl rfl dX11_init_196 ?_
  replace l_b10 := l_b10.snoc o_b29
  clear o_b29
  replace nd_b10 := cc_ndx nd_b10 d_b29
  clear d_b29
  refine wc_iinc B [(1, .int 8), (0, .ref a0)] 8 dX11_init_197 0 rfl (by decide) (by decide) rfl ?_
  refine wc_goto B 178 dX11_init_200 (by decide) ?_
  refine wc_iload_n B dX11_init_178 rfl 0 rfl ?_
  refine wc_bipush B 12 dX11_init_179 (by decide) ?_
  refine wc_ge B 203 dX11_init_181 (by decide) (fun c9 => absurd c9 (by decide)) (fun c9 => ?_)
  refine wc_aload_n B dX11_init_184 rfl 1 rfl ?_
  refine wc_get B (C := RX11) (T := TX11) (N := 16) iq_X11_init_X11 0 rfl rfl 9 (by decide) (by decide +kernel) rfl (v := .ref b10) rfl dX11_init_185 ?_
  refine wc_iload_n B dX11_init_188 rfl 0 rfl ?_
  refine wc_nwn B (C := RX0) (T := TX0) (N := 4) (ci := 0) (fs := [.null, .int 0, .int 0, .int 0]) iq_X11_init_X0 tyX0 tyX0_ok (by decide +kernel) (by decide +kernel) (by decide +kernel) rfl (fun j hj => zz_defX0 j hj) (Nat.le_of_ble_eq_true rfl) (Nat.le_of_ble_eq_true rfl) dX11_init_189 (fun b30 n_b30 => ?_)
  have d_b30 := fun z => n_b30 (l_b10 _ z).1
  clear n_b30
  refine wc_dup B dX11_init_192 rfl ?_
  refine wc_initN B (As := []) (rest := [.ref b30, .int 8, .ref b10]) (X2 := [(a0, .inr (11, [.ref b1, .ref b2, .ref b3, .ref b4, .ref b5, .ref b6, .ref b7, .ref b8, .ref b9, .ref b10, .ref b11, .ref b12, .ref b13, .int 0, .int 0, .int 0])), (b8, .inl (cT 400, 8, .inr (.inr (.inr (.inr (fun j => ([b14, b15, b16, b17, b18, b19, b20, b21] : List Nat)[j]?)))))), (b10, .inl (cT 403, 12, .inr (.inr (.inr (.inr (fun j => ([b22, b23, b24, b25, b26, b27, b28, b29] : List Nat)[j]?))))))]) 3 rfl rfl (cc_X0 l dC dI cT b30) ⟨va_cnB 0 B.1.2.2.2.2 gX11_init_X0_init_n83 rfl rfl rfl B.2.2.2.1.n_RX11_83 (B.1.2.2.2.2 (.initialized RX0) (by decide +kernel)) (by decide +kernel) ⟨(Nat.le_of_ble_eq_true rfl), (Nat.le_of_ble_eq_true rfl)⟩, rfl, B.1.2.2.2.2 (.instanceMethod yX0_init) (by decide +kernel)⟩ hcT hV rfl rfl (Nat.le_of_ble_eq_true rfl) (Nat.le_of_ble_eq_true rfl) (Nat.le_of_ble_eq_true rfl) dX11_init_193 (fun M g r M0 g0 r0 hg hg0 hx hb9 hk9 hcT hV => ?_)
  replace y_b1 := y_b1.gr hg
  replace f_b1 := f_b1.gr hg
  replace y_b2 := y_b2.gr hg
  replace f_b2 := f_b2.gr hg
  replace y_b3 := y_b3.gr hg
  replace o_b4 := o_b4.gr hg
  replace o_b5 := o_b5.gr hg
  replace o_b6 := o_b6.gr hg
  replace o_b7 := o_b7.gr hg
  replace l_b8 := l_b8.gr hg
  replace o_b9 := o_b9.gr hg
  replace l_b10 := l_b10.gr hg
  replace y_b11 := y_b11.gr hg
  replace o_b12 := o_b12.gr hg
  replace f_b12 := f_b12.gr hg
  replace f_ua := f_ua.gr hg
  replace o_b13 := o_b13.gr hg
  replace f_b13 := f_b13.gr hg
  have o_b30 : cc_o M g b30 0 := ⟨hb9, hk9⟩
  clear hx hb9 hk9 hg hg0
  refine wc_as B (r := (RX0, TX0, 4)) (ci := 0) (xs := [b22, b23, b24, b25, b26, b27, b28, b29]) (X2 := [(a0, .inr (11, [.ref b1, .ref b2, .ref b3, .ref b4, .ref b5, .ref b6, .ref b7, .ref b8, .ref b9, .ref b10, .ref b11, .ref b12, .ref b13, .int 0, .int 0, .int 0])), (b8, .inl (cT 400, 8, .inr (.inr (.inr (.inr (fun j => ([b14, b15, b16, b17, b18, b19, b20, b21] : List Nat)[j]?)))))), (b10, .inl (cT 403, 12, .inr (.inr (.inr (.inr (fun j => ([b22, b23, b24, b25, b26, b27, b28, b29, b30] : List Nat)[j]?))))))]) 2 6 403 [b22, b23, b24, b25, b26, b27, b28, b29, b30] rfl rfl o_b30 (by decide) rfl (show ¬ ((8 : Int32) < 0 ∨ 12 ≤ (8 : Int32).toNatClampNeg) by decide) rfl rfl rfl dX11_init_196 ?_
  replace l_b10 := l_b10.snoc o_b30
  clear o_b30
  replace nd_b10 := cc_ndx nd_b10 d_b30
  clear d_b30
  refine wc_iinc B [(1, .int 9), (0, .ref a0)] 9 dX11_init_197 0 rfl (by decide) (by decide) rfl ?_
  refine wc_goto B 178 dX11_init_200 (by decide) ?_
  refine wc_iload_n B dX11_init_178 rfl 0 rfl ?_
  refine wc_bipush B 12 dX11_init_179 (by decide) ?_
  refine wc_ge B 203 dX11_init_181 (by decide) (fun c9 => absurd c9 (by decide)) (fun c9 => ?_)
  refine wc_aload_n B dX11_init_184 rfl 1 rfl ?_
  refine wc_get B (C := RX11) (T := TX11) (N := 16) iq_X11_init_X11 0 rfl rfl 9 (by decide) (by decide +kernel) rfl (v := .ref b10) rfl dX11_init_185 ?_
  refine wc_iload_n B dX11_init_188 rfl 0 rfl ?_
  refine wc_nwn B (C := RX0) (T := TX0) (N := 4) (ci := 0) (fs := [.null, .int 0, .int 0, .int 0]) iq_X11_init_X0 tyX0 tyX0_ok (by decide +kernel) (by decide +kernel) (by decide +kernel) rfl (fun j hj => zz_defX0 j hj) (Nat.le_of_ble_eq_true rfl) (Nat.le_of_ble_eq_true rfl) dX11_init_189 (fun b31 n_b31 => ?_)
  have d_b31 := fun z => n_b31 (l_b10 _ z).1
  clear n_b31
  refine wc_dup B dX11_init_192 rfl ?_
  refine wc_initN B (As := []) (rest := [.ref b31, .int 9, .ref b10]) (X2 := [(a0, .inr (11, [.ref b1, .ref b2, .ref b3, .ref b4, .ref b5, .ref b6, .ref b7, .ref b8, .ref b9, .ref b10, .ref b11, .ref b12, .ref b13, .int 0, .int 0, .int 0])), (b8, .inl (cT 400, 8, .inr (.inr (.inr (.inr (fun j => ([b14, b15, b16, b17, b18, b19, b20, b21] : List Nat)[j]?)))))), (b10, .inl (cT 403, 12, .inr (.inr (.inr (.inr (fun j => ([b22, b23, b24, b25, b26, b27, b28, b29, b30] : List Nat)[j]?))))))]) 3 rfl rfl (cc_X0 l dC dI cT b31) ⟨va_cnB 0 B.1.2.2.2.2 gX11_init_X0_init_n83 rfl rfl rfl B.2.2.2.1.n_RX11_83 (B.1.2.2.2.2 (.initialized RX0) (by decide +kernel)) (by decide +kernel) ⟨(Nat.le_of_ble_eq_true rfl), (Nat.le_of_ble_eq_true rfl)⟩, rfl, B.1.2.2.2.2 (.instanceMethod yX0_init) (by decide +kernel)⟩ hcT hV rfl rfl (Nat.le_of_ble_eq_true rfl) (Nat.le_of_ble_eq_true rfl) (Nat.le_of_ble_eq_true rfl) dX11_init_193 (fun M g r M0 g0 r0 hg hg0 hx hb9 hk9 hcT hV => ?_)
  replace y_b1 := y_b1.gr hg
  replace f_b1 := f_b1.gr hg
  replace y_b2 := y_b2.gr hg
  replace f_b2 := f_b2.gr hg
  replace y_b3 := y_b3.gr hg
  replace o_b4 := o_b4.gr hg
  replace o_b5 := o_b5.gr hg
  replace o_b6 := o_b6.gr hg
  replace o_b7 := o_b7.gr hg
  replace l_b8 := l_b8.gr hg
  replace o_b9 := o_b9.gr hg
  replace l_b10 := l_b10.gr hg
  replace y_b11 := y_b11.gr hg
  replace o_b12 := o_b12.gr hg
  replace f_b12 := f_b12.gr hg
  replace f_ua := f_ua.gr hg
  replace o_b13 := o_b13.gr hg
  replace f_b13 := f_b13.gr hg
  have o_b31 : cc_o M g b31 0 := ⟨hb9, hk9⟩
  clear hx hb9 hk9 hg hg0
  refine wc_as B (r := (RX0, TX0, 4)) (ci := 0) (xs := [b22, b23, b24, b25, b26, b27, b28, b29, b30]) (X2 := [(a0, .inr (11, [.ref b1, .ref b2, .ref b3, .ref b4, .ref b5, .ref b6, .ref b7, .ref b8, .ref b9, .ref b10, .ref b11, .ref b12, .ref b13, .int 0, .int 0, .int 0])), (b8, .inl (cT 400, 8, .inr (.inr (.inr (.inr (fun j => ([b14, b15, b16, b17, b18, b19, b20, b21] : List Nat)[j]?)))))), (b10, .inl (cT 403, 12, .inr (.inr (.inr (.inr (fun j => ([b22, b23, b24, b25, b26, b27, b28, b29, b30, b31] : List Nat)[j]?))))))]) 2 6 403 [b22, b23, b24, b25, b26, b27, b28, b29, b30, b31] rfl rfl o_b31 (by decide) rfl (show ¬ ((9 : Int32) < 0 ∨ 12 ≤ (9 : Int32).toNatClampNeg) by decide) rfl rfl rfl dX11_init_196 ?_
  replace l_b10 := l_b10.snoc o_b31
  clear o_b31
  replace nd_b10 := cc_ndx nd_b10 d_b31
  clear d_b31
  refine wc_iinc B [(1, .int 10), (0, .ref a0)] 10 dX11_init_197 0 rfl (by decide) (by decide) rfl ?_
  refine wc_goto B 178 dX11_init_200 (by decide) ?_
  refine wc_iload_n B dX11_init_178 rfl 0 rfl ?_
  refine wc_bipush B 12 dX11_init_179 (by decide) ?_
  refine wc_ge B 203 dX11_init_181 (by decide) (fun c9 => absurd c9 (by decide)) (fun c9 => ?_)
  refine wc_aload_n B dX11_init_184 rfl 1 rfl ?_
  refine wc_get B (C := RX11) (T := TX11) (N := 16) iq_X11_init_X11 0 rfl rfl 9 (by decide) (by decide +kernel) rfl (v := .ref b10) rfl dX11_init_185 ?_
  refine wc_iload_n B dX11_init_188 rfl 0 rfl ?_
  refine wc_nwn B (C := RX0) (T := TX0) (N := 4) (ci := 0) (fs := [.null, .int 0, .int 0, .int 0]) iq_X11_init_X0 tyX0 tyX0_ok (by decide +kernel) (by decide +kernel) (by decide +kernel) rfl (fun j hj => zz_defX0 j hj) (Nat.le_of_ble_eq_true rfl) (Nat.le_of_ble_eq_true rfl) dX11_init_189 (fun b32 n_b32 => ?_)
  have d_b32 := fun z => n_b32 (l_b10 _ z).1
  clear n_b32
  refine wc_dup B dX11_init_192 rfl ?_
  refine wc_initN B (As := []) (rest := [.ref b32, .int 10, .ref b10]) (X2 := [(a0, .inr (11, [.ref b1, .ref b2, .ref b3, .ref b4, .ref b5, .ref b6, .ref b7, .ref b8, .ref b9, .ref b10, .ref b11, .ref b12, .ref b13, .int 0, .int 0, .int 0])), (b8, .inl (cT 400, 8, .inr (.inr (.inr (.inr (fun j => ([b14, b15, b16, b17, b18, b19, b20, b21] : List Nat)[j]?)))))), (b10, .inl (cT 403, 12, .inr (.inr (.inr (.inr (fun j => ([b22, b23, b24, b25, b26, b27, b28, b29, b30, b31] : List Nat)[j]?))))))]) 3 rfl rfl (cc_X0 l dC dI cT b32) ⟨va_cnB 0 B.1.2.2.2.2 gX11_init_X0_init_n83 rfl rfl rfl B.2.2.2.1.n_RX11_83 (B.1.2.2.2.2 (.initialized RX0) (by decide +kernel)) (by decide +kernel) ⟨(Nat.le_of_ble_eq_true rfl), (Nat.le_of_ble_eq_true rfl)⟩, rfl, B.1.2.2.2.2 (.instanceMethod yX0_init) (by decide +kernel)⟩ hcT hV rfl rfl (Nat.le_of_ble_eq_true rfl) (Nat.le_of_ble_eq_true rfl) (Nat.le_of_ble_eq_true rfl) dX11_init_193 (fun M g r M0 g0 r0 hg hg0 hx hb9 hk9 hcT hV => ?_)
  replace y_b1 := y_b1.gr hg
  replace f_b1 := f_b1.gr hg
  replace y_b2 := y_b2.gr hg
  replace f_b2 := f_b2.gr hg
  replace y_b3 := y_b3.gr hg
  replace o_b4 := o_b4.gr hg
  replace o_b5 := o_b5.gr hg
  replace o_b6 := o_b6.gr hg
  replace o_b7 := o_b7.gr hg
  replace l_b8 := l_b8.gr hg
  replace o_b9 := o_b9.gr hg
  replace l_b10 := l_b10.gr hg
  replace y_b11 := y_b11.gr hg
  replace o_b12 := o_b12.gr hg
  replace f_b12 := f_b12.gr hg
  replace f_ua := f_ua.gr hg
  replace o_b13 := o_b13.gr hg
  replace f_b13 := f_b13.gr hg
  have o_b32 : cc_o M g b32 0 := ⟨hb9, hk9⟩
  clear hx hb9 hk9 hg hg0
  refine wc_as B (r := (RX0, TX0, 4)) (ci := 0) (xs := [b22, b23, b24, b25, b26, b27, b28, b29, b30, b31]) (X2 := [(a0, .inr (11, [.ref b1, .ref b2, .ref b3, .ref b4, .ref b5, .ref b6, .ref b7, .ref b8, .ref b9, .ref b10, .ref b11, .ref b12, .ref b13, .int 0, .int 0, .int 0])), (b8, .inl (cT 400, 8, .inr (.inr (.inr (.inr (fun j => ([b14, b15, b16, b17, b18, b19, b20, b21] : List Nat)[j]?)))))), (b10, .inl (cT 403, 12, .inr (.inr (.inr (.inr (fun j => ([b22, b23, b24, b25, b26, b27, b28, b29, b30, b31, b32] : List Nat)[j]?))))))]) 2 6 403 [b22, b23, b24, b25, b26, b27, b28, b29, b30, b31, b32] rfl rfl o_b32 (by decide) rfl (show ¬ ((10 : Int32) < 0 ∨ 12 ≤ (10 : Int32).toNatClampNeg) by decide) rfl rfl rfl dX11_init_196 ?_
  replace l_b10 := l_b10.snoc o_b32
  clear o_b32
  replace nd_b10 := cc_ndx nd_b10 d_b32
  clear d_b32
  refine wc_iinc B [(1, .int 11), (0, .ref a0)] 11 dX11_init_197 0 rfl (by decide) (by decide) rfl ?_
  refine wc_goto B 178 dX11_init_200 (by decide) ?_
  refine wc_iload_n B dX11_init_178 rfl 0 rfl ?_
  refine wc_bipush B 12 dX11_init_179 (by decide) ?_
  refine wc_ge B 203 dX11_init_181 (by decide) (fun c9 => absurd c9 (by decide)) (fun c9 => ?_)
  refine wc_aload_n B dX11_init_184 rfl 1 rfl ?_
  refine wc_get B (C := RX11) (T := TX11) (N := 16) iq_X11_init_X11 0 rfl rfl 9 (by decide) (by decide +kernel) rfl (v := .ref b10) rfl dX11_init_185 ?_
  refine wc_iload_n B dX11_init_188 rfl 0 rfl ?_
  refine wc_nwn B (C := RX0) (T := TX0) (N := 4) (ci := 0) (fs := [.null, .int 0, .int 0, .int 0]) iq_X11_init_X0 tyX0 tyX0_ok (by decide +kernel) (by decide +kernel) (by decide +kernel) rfl (fun j hj => zz_defX0 j hj) (Nat.le_of_ble_eq_true rfl) (Nat.le_of_ble_eq_true rfl) dX11_init_189 (fun b33 n_b33 => ?_)
  have d_b33 := fun z => n_b33 (l_b10 _ z).1
  clear n_b33
  refine wc_dup B dX11_init_192 rfl ?_
  refine wc_initN B (As := []) (rest := [.ref b33, .int 11, .ref b10]) (X2 := [(a0, .inr (11, [.ref b1, .ref b2, .ref b3, .ref b4, .ref b5, .ref b6, .ref b7, .ref b8, .ref b9, .ref b10, .ref b11, .ref b12, .ref b13, .int 0, .int 0, .int 0])), (b8, .inl (cT 400, 8, .inr (.inr (.inr (.inr (fun j => ([b14, b15, b16, b17, b18, b19, b20, b21] : List Nat)[j]?)))))), (b10, .inl (cT 403, 12, .inr (.inr (.inr (.inr (fun j => ([b22, b23, b24, b25, b26, b27, b28, b29, b30, b31, b32] : List Nat)[j]?))))))]) 3 rfl rfl (cc_X0 l dC dI cT b33) ⟨va_cnB 0 B.1.2.2.2.2 gX11_init_X0_init_n83 rfl rfl rfl B.2.2.2.1.n_RX11_83 (B.1.2.2.2.2 (.initialized RX0) (by decide +kernel)) (by decide +kernel) ⟨(Nat.le_of_ble_eq_true rfl), (Nat.le_of_ble_eq_true rfl)⟩, rfl, B.1.2.2.2.2 (.instanceMethod yX0_init) (by decide +kernel)⟩ hcT hV rfl rfl (Nat.le_of_ble_eq_true rfl) (Nat.le_of_ble_eq_true rfl) (Nat.le_of_ble_eq_true rfl) dX11_init_193 (fun M g r M0 g0 r0 hg hg0 hx hb9 hk9 hcT hV => ?_)
  replace y_b1 := y_b1.gr hg
  replace f_b1 := f_b1.gr hg
  replace y_b2 := y_b2.gr hg
  replace f_b2 := f_b2.gr hg
  replace y_b3 := y_b3.gr hg
  replace o_b4 := o_b4.gr hg
  replace o_b5 := o_b5.gr hg
  replace o_b6 := o_b6.gr hg
  replace o_b7 := o_b7.gr hg
  replace l_b8 := l_b8.gr hg
  replace o_b9 := o_b9.gr hg
  replace l_b10 := l_b10.gr hg
  replace y_b11 := y_b11.gr hg
  replace o_b12 := o_b12.gr hg
  replace f_b12 := f_b12.gr hg
  replace f_ua := f_ua.gr hg
  replace o_b13 := o_b13.gr hg
  replace f_b13 := f_b13.gr hg
  have o_b33 : cc_o M g b33 0 := ⟨hb9, hk9⟩
  clear hx hb9 hk9 hg hg0
  refine wc_as B (r := (RX0, TX0, 4)) (ci := 0) (xs := [b22, b23, b24, b25, b26, b27, b28, b29, b30, b31, b32]) (X2 := [(a0, .inr (11, [.ref b1, .ref b2, .ref b3, .ref b4, .ref b5, .ref b6, .ref b7, .ref b8, .ref b9, .ref b10, .ref b11, .ref b12, .ref b13, .int 0, .int 0, .int 0])), (b8, .inl (cT 400, 8, .inr (.inr (.inr (.inr (fun j => ([b14, b15, b16, b17, b18, b19, b20, b21] : List Nat)[j]?)))))), (b10, .inl (cT 403, 12, .inr (.inr (.inr (.inr (fun j => ([b22, b23, b24, b25, b26, b27, b28, b29, b30, b31, b32, b33] : List Nat)[j]?))))))]) 2 6 403 [b22, b23, b24, b25, b26, b27, b28, b29, b30, b31, b32, b33] rfl rfl o_b33 (by decide) rfl (show ¬ ((11 : Int32) < 0 ∨ 12 ≤ (11 : Int32).toNatClampNeg) by decide) rfl rfl rfl dX11_init_196 ?_
  replace l_b10 := l_b10.snoc o_b33
  clear o_b33
  replace nd_b10 := cc_ndx nd_b10 d_b33
  clear d_b33
  refine wc_iinc B [(1, .int 12), (0, .ref a0)] 12 dX11_init_197 0 rfl (by decide) (by decide) rfl ?_
  refine wc_goto B 178 dX11_init_200 (by decide) ?_
  refine wc_iload_n B dX11_init_178 rfl 0 rfl ?_
  refine wc_bipush B 12 dX11_init_179 (by decide) ?_
  refine wc_ge B 203 dX11_init_181 (by decide) (fun c9 => ?_) (fun c9 => absurd (by decide) c9)
  refine wc_aload_n B dX11_init_203 rfl 1 rfl ?_
  refine wc_get B (C := RX11) (T := TX11) (N := 16) iq_X11_init_X11 0 rfl rfl 10 (by decide) (by decide +kernel) rfl (v := .ref b11) rfl dX11_init_204 ?_
  refine wc_iconst B (-1) dX11_init_207 (by decide) ?_
  refine wc_fill2 B y_b11 (va_cwS 2 B.1.2.2.2.2 gX11_init_J7_fill_53178 rfl rfl rfl (by decide +kernel) ⟨(Nat.le_of_ble_eq_true rfl), (Nat.le_of_ble_eq_true rfl)⟩) hcT hV (Nat.le_of_ble_eq_true rfl) (Nat.le_of_ble_eq_true rfl) (Nat.le_of_ble_eq_true rfl) dX11_init_208 (fun r hV he9 hr9 => ?_)
  replace f_b1 := f_b1.fill he9
  replace f_b2 := f_b2.fill he9
  replace f_b12 := f_b12.fill he9
  replace f_ua := f_ua.fill hr9
  replace f_b13 := f_b13.fill he9
  refine wc_aload_n B dX11_init_211 rfl 1 rfl ?_
  refine wc_iconst B 0 dX11_init_212 (by decide) ?_
  refine wc_put B (C := RX11) (T := TX11) (N := 16) (X2 := [(a0, .inr (11, [.ref b1, .ref b2, .ref b3, .ref b4, .ref b5, .ref b6, .ref b7, .ref b8, .ref b9, .ref b10, .ref b11, .ref b12, .ref b13, .int 0, .int 0, .int 0])), (b8, .inl (cT 400, 8, .inr (.inr (.inr (.inr (fun j => ([b14, b15, b16, b17, b18, b19, b20, b21] : List Nat)[j]?)))))), (b10, .inl (cT 403, 12, .inr (.inr (.inr (.inr (fun j => ([b22, b23, b24, b25, b26, b27, b28, b29, b30, b31, b32, b33] : List Nat)[j]?))))))]) iq_X11_init_X11 0 rfl rfl 13 (by decide) (by decide +kernel) rfl (v := .int 0) (ty := .int) tyX11 tyX11_ok nmX11 rfl (by decide +kernel) rfl rfl (Nat.le_of_ble_eq_true rfl) rfl dX11_init_213 ?_
  refine wc_aload_n B dX11_init_216 rfl 1 rfl ?_
  refine wc_iconst B 0 dX11_init_217 (by decide) ?_
  refine wc_put B (C := RX11) (T := TX11) (N := 16) (X2 := [(a0, .inr (11, [.ref b1, .ref b2, .ref b3, .ref b4, .ref b5, .ref b6, .ref b7, .ref b8, .ref b9, .ref b10, .ref b11, .ref b12, .ref b13, .int 0, .int 0, .int 0])), (b8, .inl (cT 400, 8, .inr (.inr (.inr (.inr (fun j => ([b14, b15, b16, b17, b18, b19, b20, b21] : List Nat)[j]?)))))), (b10, .inl (cT 403, 12, .inr (.inr (.inr (.inr (fun j => ([b22, b23, b24, b25, b26, b27, b28, b29, b30, b31, b32, b33] : List Nat)[j]?))))))]) iq_X11_init_X11 0 rfl rfl 14 (by decide) (by decide +kernel) rfl (v := .int 0) (ty := .int) tyX11 tyX11_ok nmX11 rfl (by decide +kernel) rfl rfl (Nat.le_of_ble_eq_true rfl) rfl dX11_init_218 ?_
  refine wc_aload_n B dX11_init_221 rfl 1 rfl ?_
  refine wc_iconst B 0 dX11_init_222 (by decide) ?_
  refine wc_put B (C := RX11) (T := TX11) (N := 16) (X2 := [(a0, .inr (11, [.ref b1, .ref b2, .ref b3, .ref b4, .ref b5, .ref b6, .ref b7, .ref b8, .ref b9, .ref b10, .ref b11, .ref b12, .ref b13, .int 0, .int 0, .int 0])), (b8, .inl (cT 400, 8, .inr (.inr (.inr (.inr (fun j => ([b14, b15, b16, b17, b18, b19, b20, b21] : List Nat)[j]?)))))), (b10, .inl (cT 403, 12, .inr (.inr (.inr (.inr (fun j => ([b22, b23, b24, b25, b26, b27, b28, b29, b30, b31, b32, b33] : List Nat)[j]?))))))]) iq_X11_init_X11 0 rfl rfl 15 (by decide) (by decide +kernel) rfl (v := .int 0) (ty := .int) tyX11 tyX11_ok nmX11 rfl (by decide +kernel) rfl rfl (Nat.le_of_ble_eq_true rfl) rfl dX11_init_223 ?_
  refine wc_layL (X2 := [(a0, .inr (11, [.ref b1, .ref b2, .ref b3, .ref b4, .ref b5, .ref b6, .ref b7, .ref b8, .ref b9, .ref b10, .ref b11, .ref b12, .ref b13, .int 0, .int 0, .int 0])), (b10, .inl (cT 403, 12, .inr (.inr (.inr (.inr (fun j => ([b22, b23, b24, b25, b26, b27, b28, b29, b30, b31, b32, b33] : List Nat)[j]?))))))]) 1 (xs := [b14, b15, b16, b17, b18, b19, b20, b21]) rfl rfl (by decide) (by decide) hcT hV rfl (by decide) (K2 := 5) rfl l_b8 (fun M g r hg y_b8 hcT hV => ?_)
  replace y_b1 := y_b1.gr hg
  replace f_b1 := f_b1.gr hg
  replace y_b2 := y_b2.gr hg
  replace f_b2 := f_b2.gr hg
  replace y_b3 := y_b3.gr hg
  replace o_b4 := o_b4.gr hg
  replace o_b5 := o_b5.gr hg
  replace o_b6 := o_b6.gr hg
  replace o_b7 := o_b7.gr hg
  replace o_b9 := o_b9.gr hg
  replace l_b10 := l_b10.gr hg
  replace y_b11 := y_b11.gr hg
  replace o_b12 := o_b12.gr hg
  replace f_b12 := f_b12.gr hg
  replace f_ua := f_ua.gr hg
  replace o_b13 := o_b13.gr hg
  replace f_b13 := f_b13.gr hg
  clear hg
  refine wc_layLn (X2 := [(a0, .inr (11, [.ref b1, .ref b2, .ref b3, .ref b4, .ref b5, .ref b6, .ref b7, .ref b8, .ref b9, .ref b10, .ref b11, .ref b12, .ref b13, .int 0, .int 0, .int 0]))]) 1 (xs := [b22, b23, b24, b25, b26, b27, b28, b29, b30, b31, b32, b33]) rfl rfl (by decide) (by decide) hcT hV rfl (by decide) (K2 := 0) rfl l_b10 (fun M g r hg y_b10 eR hcT hV => ?_)
  replace y_b1 := y_b1.gr hg
  replace f_b1 := f_b1.gr hg
  replace y_b2 := y_b2.gr hg
  replace f_b2 := f_b2.gr hg
  replace y_b3 := y_b3.gr hg
  replace o_b4 := o_b4.gr hg
  replace o_b5 := o_b5.gr hg
  replace o_b6 := o_b6.gr hg
  replace o_b7 := o_b7.gr hg
  replace o_b9 := o_b9.gr hg
  replace y_b11 := y_b11.gr hg
  replace o_b12 := o_b12.gr hg
  replace f_b12 := f_b12.gr hg
  replace f_ua := f_ua.gr hg
  replace o_b13 := o_b13.gr hg
  replace f_b13 := f_b13.gr hg
  replace y_b8 := y_b8.gr hg
  clear hg
  have f_b10 : cc_d M g b10 := ⟨y_b10.1, by rw [eR]; exact cc_ndg nd_b10 rfl⟩
  refine wc_layO (X2 := []) 0 rfl rfl (by decide) 0 (fun k => ([b1, b2, b3, b4, b5, b6, b7, b8, b9, b10, b11, b12, b13, 0, 0, 0] : List Nat).getD k 0) rfl hcT hV (by decide) [0, 1, 2, 3, 4, 5, 6, 7, 8, 9, 10, 11, 12] (by decide +kernel) (List.forall_mem_cons.mpr ⟨⟨y_b1.1, y_b1.2.1, fun _ => y_b1.2.2⟩, (List.forall_mem_cons.mpr ⟨⟨y_b2.1, y_b2.2.1, fun _ => y_b2.2.2⟩, (List.forall_mem_cons.mpr ⟨⟨y_b3.1, y_b3.2.1, fun _ => y_b3.2.2⟩, (List.forall_mem_cons.mpr ⟨⟨o_b4.1, o_b4.2, fun z => absurd rfl z⟩, (List.forall_mem_cons.mpr ⟨⟨o_b5.1, o_b5.2, fun z => absurd rfl z⟩, (List.forall_mem_cons.mpr ⟨⟨o_b6.1, o_b6.2, fun z => absurd rfl z⟩, (List.forall_mem_cons.mpr ⟨⟨o_b7.1, o_b7.2, fun z => absurd rfl z⟩, (List.forall_mem_cons.mpr ⟨⟨y_b8.1, y_b8.2.1, fun _ => y_b8.2.2⟩, (List.forall_mem_cons.mpr ⟨⟨o_b9.1, o_b9.2, fun z => absurd rfl z⟩, (List.forall_mem_cons.mpr ⟨⟨y_b10.1, y_b10.2.1, fun _ => y_b10.2.2⟩, (List.forall_mem_cons.mpr ⟨⟨y_b11.1, y_b11.2.1, fun _ => y_b11.2.2⟩, (List.forall_mem_cons.mpr ⟨⟨o_b12.1, o_b12.2, fun z => absurd rfl z⟩, (List.forall_mem_cons.mpr ⟨⟨o_b13.1, o_b13.2, fun z => absurd rfl z⟩, (fun _ h => absurd h List.not_mem_nil)⟩)⟩)⟩)⟩)⟩)⟩)⟩)⟩)⟩)⟩)⟩)⟩)⟩) (fun M g r hg yy hcT hV e1 e3 => ?_)
  replace f_b1 := f_b1.gr hg
  replace f_b2 := f_b2.gr hg
  replace f_b12 := f_b12.gr hg
  replace f_ua := f_ua.gr hg
  replace f_b13 := f_b13.gr hg
  replace f_b10 := f_b10.gr hg
  exact wc_end (mc := 267) (ms := 9348) (ex := fun u => cc_f u.1 u.2.2 a0 14 ∧ cc_f u.1 u.2.2 (u.2.2.2.2.1 a0 0) 1 ∧ cc_d u.1 u.2.1 (u.2.2.2.2.1 a0 9) ∧ cc_ua u.1 u.2.2 (u.2.2.2.2.1 a0 11) (u.2.2.2.2.1 a0 12) ∧ cc_f u.1 u.2.2 (u.2.2.2.2.1 a0 11) 6 ∧ cc_f u.1 u.2.2 (u.2.2.2.2.1 a0 1) 1) ret dX11_init_226 hcT hV ⟨yy.1, yy.2.1⟩ ⟨⟨yy.1, e1 14⟩, (by show cc_f M r (r.2.2.1 a0 0) 1; rw [e3 0]; exact f_b1), (by show cc_d M g (r.2.2.1 a0 9); rw [e3 9]; exact f_b10), (by show cc_ua M r (r.2.2.1 a0 11) (r.2.2.1 a0 12); rw [e3 11, e3 12]; exact f_ua), (by show cc_f M r (r.2.2.1 a0 11) 6; rw [e3 11]; exact f_b12), (by show cc_f M r (r.2.2.1 a0 1) 1; rw [e3 1]; exact f_b2)⟩ (Nat.le_of_ble_eq_true rfl) (Nat.le_of_ble_eq_true rfl)
