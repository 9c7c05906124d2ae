theorem iq_X9_init_X9 : ∀ w ∈ wsX90, w ∈ wsX9_init := fun _ h => List.mem_cons_of_mem _ (List.mem_append_right _ h)
set_option maxHeartbeats 4000000 in
set_option maxRecDepth 100000 in
theorem cc_X9 (l : Launch) (dC : Nat → ClassId) (dI : Nat → Nat → Nat) (cT : Nat → ClassId) (a0 : Nat) : CCI l dC dI cT yX9_init wsX9_init ({ frames := 1, cells := 6, slots := 66, locals := 15 } : Room) 9 [.null, .null, .null, .null, .null, .null, .int 0] [] a0 (fun u => cc_f u.1 u.2.2 a0 6) 6 66 := by
  refine cc_v (cc := cX9_init) (own := RX9) (mL := 1) (by decide) rfl rfl rfl (Nat.le_of_ble_eq_true rfl) ?_
  intro sz Z hlt hsz B ret
  have hcT : (cc_h0 cT).2.2.1 = cT := rfl
  have hV : sx_V (cc_h0 cT) [] cc_q0 := cc_V0
  refine wc_aload_n B dX9_init_0 rfl 0 rfl ?_
  refine wc_objInit B (by decide +kernel) (by decide +kernel) (by decide +kernel) (Nat.le_of_ble_eq_true rfl) (Nat.le_of_ble_eq_true rfl) dX9_init_1 ?_
  refine wc_aload_n B dX9_init_4 rfl 0 rfl ?_
  refine wc_iconst B 3 dX9_init_5 (by decide) ?_
  refine wc_nL B 201 3 (by decide) (by decide) hcT hV (by decide +kernel) (by decide) (by decide) (by decide) (Nat.le_of_ble_eq_true rfl) (Nat.le_of_ble_eq_true rfl) dX9_init_6 (fun b1 M g r hg y_b1 z_b1 hcT hV => ?_)
  clear z_b1
  refine wc_putF B (C := RX9) (T := TX9) (N := 7) (X2 := [(a0, .inr (9, [.ref b1, .null, .null, .null, .null, .null, .int 0]))]) iq_X9_init_X9 0 rfl rfl 0 (by decide) (by decide +kernel) rfl (v := .ref b1) (ty := (.array .long)) tyX9 tyX9_ok nmX9 rfl rfl (by decide +kernel) rfl rfl (Nat.le_of_ble_eq_true rfl) rfl dX9_init_8 ?_
  refine wc_aload_n B dX9_init_11 rfl 0 rfl ?_
  refine wc_iconst B 3 dX9_init_12 (by decide) ?_
  refine wc_nI B 101 3 (by decide) (by decide) hcT hV (by decide +kernel) (by decide) (by decide) (by decide) (Nat.le_of_ble_eq_true rfl) (Nat.le_of_ble_eq_true rfl) dX9_init_13 (fun b2 M g r hg y_b2 z_b2 hcT hV => ?_)
  replace y_b1 := y_b1.gr hg
  clear z_b2
  refine wc_putF B (C := RX9) (T := TX9) (N := 7) (X2 := [(a0, .inr (9, [.ref b1, .ref b2, .null, .null, .null, .null, .int 0]))]) iq_X9_init_X9 0 rfl rfl 1 (by decide) (by decide +kernel) rfl (v := .ref b2) (ty := (.array .int)) tyX9 tyX9_ok nmX9 rfl rfl (by decide +kernel) rfl rfl (Nat.le_of_ble_eq_true rfl) rfl dX9_init_15 ?_
  refine wc_aload_n B dX9_init_18 rfl 0 rfl ?_
  refine wc_bipush B 15 dX9_init_19 (by decide) ?_
  refine wc_nL B 202 15 (by decide) (by decide) hcT hV (by decide +kernel) (by decide) (by decide) (by decide) (Nat.le_of_ble_eq_true rfl) (Nat.le_of_ble_eq_true rfl) dX9_init_21 (fun b3 M g r hg y_b3 z_b3 hcT hV => ?_)
  replace y_b1 := y_b1.gr hg
  replace y_b2 := y_b2.gr hg
  clear z_b3
  refine wc_putF B (C := RX9) (T := TX9) (N := 7) (X2 := [(a0, .inr (9, [.ref b1, .ref b2, .ref b3, .null, .null, .null, .int 0]))]) iq_X9_init_X9 0 rfl rfl 2 (by decide) (by decide +kernel) rfl (v := .ref b3) (ty := (.array .long)) tyX9 tyX9_ok nmX9 rfl rfl (by decide +kernel) rfl rfl (Nat.le_of_ble_eq_true rfl) rfl dX9_init_23 ?_
  refine wc_aload_n B dX9_init_26 rfl 0 rfl ?_
  refine wc_bipush B 15 dX9_init_27 (by decide) ?_
  refine wc_nI B 102 15 (by decide) (by decide) hcT hV (by decide +kernel) (by decide) (by decide) (by decide) (Nat.le_of_ble_eq_true rfl) (Nat.le_of_ble_eq_true rfl) dX9_init_29 (fun b4 M g r hg y_b4 z_b4 hcT hV => ?_)
  replace y_b1 := y_b1.gr hg
  replace y_b2 := y_b2.gr hg
  replace y_b3 := y_b3.gr hg
  clear z_b4
  refine wc_putF B (C := RX9) (T := TX9) (N := 7) (X2 := [(a0, .inr (9, [.ref b1, .ref b2, .ref b3, .ref b4, .null, .null, .int 0]))]) iq_X9_init_X9 0 rfl rfl 3 (by decide) (by decide +kernel) rfl (v := .ref b4) (ty := (.array .int)) tyX9 tyX9_ok nmX9 rfl rfl (by decide +kernel) rfl rfl (Nat.le_of_ble_eq_true rfl) rfl dX9_init_31 ?_
  refine wc_aload_n B dX9_init_34 rfl 0 rfl ?_
  refine wc_bipush B 15 dX9_init_35 (by decide) ?_
  refine wc_nI B 103 15 (by decide) (by decide) hcT hV (by decide +kernel) (by decide) (by decide) (by decide) (Nat.le_of_ble_eq_true rfl) (Nat.le_of_ble_eq_true rfl) dX9_init_37 (fun b5 M g r hg y_b5 z_b5 hcT hV => ?_)
  replace y_b1 := y_b1.gr hg
  replace y_b2 := y_b2.gr hg
  replace y_b3 := y_b3.gr hg
  replace y_b4 := y_b4.gr hg
  clear z_b5
  refine wc_putF B (C := RX9) (T := TX9) (N := 7) (X2 := [(a0, .inr (9, [.ref b1, .ref b2, .ref b3, .ref b4, .ref b5, .null, .int 0]))]) iq_X9_init_X9 0 rfl rfl 4 (by decide) (by decide +kernel) rfl (v := .ref b5) (ty := (.array .int)) tyX9 tyX9_ok nmX9 rfl rfl (by decide +kernel) rfl rfl (Nat.le_of_ble_eq_true rfl) rfl dX9_init_39 ?_
  refine wc_aload_n B dX9_init_42 rfl 0 rfl ?_
  refine wc_bipush B 15 dX9_init_43 (by decide) ?_
  refine wc_nI B 104 15 (by decide) (by decide) hcT hV (by decide +kernel) (by decide) (by decide) (by decide) (Nat.le_of_ble_eq_true rfl) (Nat.le_of_ble_eq_true rfl) dX9_init_45 (fun b6 M g r hg y_b6 z_b6 hcT hV => ?_)
  replace y_b1 := y_b1.gr hg
  replace y_b2 := y_b2.gr hg
  replace y_b3 := y_b3.gr hg
  replace y_b4 := y_b4.gr hg
  replace y_b5 := y_b5.gr hg
  clear z_b6
  refine wc_putF B (C := RX9) (T := TX9) (N := 7) (X2 := [(a0, .inr (9, [.ref b1, .ref b2, .ref b3, .ref b4, .ref b5, .ref b6, .int 0]))]) iq_X9_init_X9 0 rfl rfl 5 (by decide) (by decide +kernel) rfl (v := .ref b6) (ty := (.array .int)) tyX9 tyX9_ok nmX9 rfl rfl (by decide +kernel) rfl rfl (Nat.le_of_ble_eq_true rfl) rfl dX9_init_47 ?_
  refine wc_layO (X2 := []) 0 rfl rfl (by decide) 0 (fun k => ([b1, b2, b3, b4, b5, b6, 0] : List Nat).getD k 0) rfl hcT hV (by decide) [0, 1, 2, 3, 4, 5] (by decide +kernel) (List.forall_mem_cons.mpr ⟨⟨y_b1.1, y_b1.2.1, fun _ => y_b1.2.2⟩, (List.forall_mem_cons.mpr ⟨⟨y_b2.1, y_b2.2.1, fun _ => y_b2.2.2⟩, (List.forall_mem_cons.mpr ⟨⟨y_b3.1, y_b3.2.1, fun _ => y_b3.2.2⟩, (List.forall_mem_cons.mpr ⟨⟨y_b4.1, y_b4.2.1, fun _ => y_b4.2.2⟩, (List.forall_mem_cons.mpr ⟨⟨y_b5.1, y_b5.2.1, fun _ => y_b5.2.2⟩, (List.forall_mem_cons.mpr ⟨⟨y_b6.1, y_b6.2.1, fun _ => y_b6.2.2⟩, (fun _ h => absurd h List.not_mem_nil)⟩)⟩)⟩)⟩)⟩)⟩) (fun M g r hg yy hcT hV e1 e3 => ?_)
  exact wc_end (mc := 6) (ms := 66) (ex := fun u => cc_f u.1 u.2.2 a0 6) ret dX9_init_50 hcT hV ⟨yy.1, yy.2.1⟩ ⟨yy.1, e1 6⟩ (Nat.le_of_ble_eq_true rfl) (Nat.le_of_ble_eq_true rfl)
