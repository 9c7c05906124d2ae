theorem iq_X4_init_X4 : ∀ w ∈ wsX40, w ∈ wsX4_init := fun _ h => List.mem_cons_of_mem _ (List.mem_append_right _ h)
set_option maxHeartbeats 4000000 in
set_option maxRecDepth 100000 in
theorem cc_X4 (l : Launch) (dC : Nat → ClassId) (dI : Nat → Nat → Nat) (cT : Nat → ClassId) (a0 : Nat) : CCI l dC dI cT yX4_init wsX4_init ({ frames := 1, cells := 24, slots := 251, locals := 15 } : Room) 4 [.int 0, .null, .null, .null, .null, .null, .int 0] [] a0 (fun _ => True) 24 251 := by
  refine cc_v (cc := cX4_init) (own := RX4) (mL := 1) (by decide) rfl rfl rfl (Nat.le_of_ble_eq_true rfl) ?_
  intro sz Z hlt hsz B ret
  have hcT : (cc_h0 cT).2.2.1 = cT := rfl
  have hV : sx_V (cc_h0 cT) [] cc_q0 := cc_V0
  refine wc_aload_n B dX4_init_0 rfl 0 rfl ?_
  refine wc_objInit B (by decide +kernel) (by decide +kernel) (by decide +kernel) (Nat.le_of_ble_eq_true rfl) (Nat.le_of_ble_eq_true rfl) dX4_init_1 ?_
  refine wc_aload_n B dX4_init_4 rfl 0 rfl ?_
  refine wc_iconst B 5 dX4_init_5 (by decide) ?_
  refine wc_bipush B 12 dX4_init_6 (by decide) ?_
  refine wc_mna B 5 hcT hV (by decide +kernel) (by decide +kernel) (by decide) (by decide) (by decide) (by decide) (by decide) (Nat.le_of_ble_eq_true rfl) (Nat.le_of_ble_eq_true rfl) dX4_init_8 (fun b1 M g r hg y_b1 hcT hV => ?_)
  refine wc_putF B (C := RX4) (T := TX4) (N := 7) (X2 := [(a0, .inr (4, [.int 0, .ref b1, .null, .null, .null, .null, .int 0]))]) iq_X4_init_X4 0 rfl rfl 1 (by decide) (by decide +kernel) rfl (v := .ref b1) (ty := (.array (.array .long))) tyX4 tyX4_ok nmX4 rfl rfl (by decide +kernel) rfl rfl (Nat.le_of_ble_eq_true rfl) rfl dX4_init_12 ?_
  refine wc_aload_n B dX4_init_15 rfl 0 rfl ?_
  refine wc_iconst B 4 dX4_init_16 (by decide) ?_
  refine wc_bipush B 12 dX4_init_17 (by decide) ?_
  refine wc_mna B 4 hcT hV (by decide +kernel) (by decide +kernel) (by decide) (by decide) (by decide) (by decide) (by decide) (Nat.le_of_ble_eq_true rfl) (Nat.le_of_ble_eq_true rfl) dX4_init_19 (fun b2 M g r hg y_b2 hcT hV => ?_)
  replace y_b1 := y_b1.gr hg
  refine wc_putF B (C := RX4) (T := TX4) (N := 7) (X2 := [(a0, .inr (4, [.int 0, .ref b1, .ref b2, .null, .null, .null, .int 0]))]) iq_X4_init_X4 0 rfl rfl 2 (by decide) (by decide +kernel) rfl (v := .ref b2) (ty := (.array (.array .long))) tyX4 tyX4_ok nmX4 rfl rfl (by decide +kernel) rfl rfl (Nat.le_of_ble_eq_true rfl) rfl dX4_init_23 ?_
  refine wc_aload_n B dX4_init_26 rfl 0 rfl ?_
  refine wc_iconst B 5 dX4_init_27 (by decide) ?_
  refine wc_bipush B 12 dX4_init_28 (by decide) ?_
  refine wc_mna B 5 hcT hV (by decide +kernel) (by decide +kernel) (by decide) (by decide) (by decide) (by decide) (by decide) (Nat.le_of_ble_eq_true rfl) (Nat.le_of_ble_eq_true rfl) dX4_init_30 (fun b3 M g r hg y_b3 hcT hV => ?_)
  replace y_b1 := y_b1.gr hg
  replace y_b2 := y_b2.gr hg
  refine wc_putF B (C := RX4) (T := TX4) (N := 7) (X2 := [(a0, .inr (4, [.int 0, .ref b1, .ref b2, .ref b3, .null, .null, .int 0]))]) iq_X4_init_X4 0 rfl rfl 3 (by decide) (by decide +kernel) rfl (v := .ref b3) (ty := (.array (.array .long))) tyX4 tyX4_ok nmX4 rfl rfl (by decide +kernel) rfl rfl (Nat.le_of_ble_eq_true rfl) rfl dX4_init_34 ?_
  refine wc_aload_n B dX4_init_37 rfl 0 rfl ?_
  refine wc_iconst B 5 dX4_init_38 (by decide) ?_
  refine wc_bipush B 12 dX4_init_39 (by decide) ?_
  refine wc_mna B 5 hcT hV (by decide +kernel) (by decide +kernel) (by decide) (by decide) (by decide) (by decide) (by decide) (Nat.le_of_ble_eq_true rfl) (Nat.le_of_ble_eq_true rfl) dX4_init_41 (fun b4 M g r hg y_b4 hcT hV => ?_)
  replace y_b1 := y_b1.gr hg
  replace y_b2 := y_b2.gr hg
  replace y_b3 := y_b3.gr hg
  refine wc_putF B (C := RX4) (T := TX4) (N := 7) (X2 := [(a0, .inr (4, [.int 0, .ref b1, .ref b2, .ref b3, .ref b4, .null, .int 0]))]) iq_X4_init_X4 0 rfl rfl 4 (by decide) (by decide +kernel) rfl (v := .ref b4) (ty := (.array (.array .long))) tyX4 tyX4_ok nmX4 rfl rfl (by decide +kernel) rfl rfl (Nat.le_of_ble_eq_true rfl) rfl dX4_init_45 ?_
  refine wc_aload_n B dX4_init_48 rfl 0 rfl ?_
  refine wc_iconst B 4 dX4_init_49 (by decide) ?_
  refine wc_nI B 100 4 (by decide) (by decide) hcT hV (by decide +kernel) (by decide) (by decide) (by decide) (Nat.le_of_ble_eq_true rfl) (Nat.le_of_ble_eq_true rfl) dX4_init_50 (fun b5 M g r hg y_b5 z_b5 hcT hV => ?_)
  replace y_b1 := y_b1.gr hg
  replace y_b2 := y_b2.gr hg
  replace y_b3 := y_b3.gr hg
  replace y_b4 := y_b4.gr hg
  clear z_b5
  refine wc_putF B (C := RX4) (T := TX4) (N := 7) (X2 := [(a0, .inr (4, [.int 0, .ref b1, .ref b2, .ref b3, .ref b4, .ref b5, .int 0]))]) iq_X4_init_X4 0 rfl rfl 5 (by decide) (by decide +kernel) rfl (v := .ref b5) (ty := (.array .int)) tyX4 tyX4_ok nmX4 rfl rfl (by decide +kernel) rfl rfl (Nat.le_of_ble_eq_true rfl) rfl dX4_init_52 ?_
  refine wc_layO (X2 := []) 0 rfl rfl (by decide) 0 (fun k => ([0, b1, b2, b3, b4, b5, 0] : List Nat).getD k 0) rfl hcT hV (by decide) [1, 2, 3, 4, 5] (by decide +kernel) (List.forall_mem_cons.mpr ⟨⟨y_b1.1, y_b1.2.1, fun _ => y_b1.2.2⟩, (List.forall_mem_cons.mpr ⟨⟨y_b2.1, y_b2.2.1, fun _ => y_b2.2.2⟩, (List.forall_mem_cons.mpr ⟨⟨y_b3.1, y_b3.2.1, fun _ => y_b3.2.2⟩, (List.forall_mem_cons.mpr ⟨⟨y_b4.1, y_b4.2.1, fun _ => y_b4.2.2⟩, (List.forall_mem_cons.mpr ⟨⟨y_b5.1, y_b5.2.1, fun _ => y_b5.2.2⟩, (fun _ h => absurd h List.not_mem_nil)⟩)⟩)⟩)⟩)⟩) (fun M g r hg yy hcT hV e1 e3 => ?_)
  exact wc_end (mc := 24) (ms := 251) (ex := fun _ => True) ret dX4_init_55 hcT hV ⟨yy.1, yy.2.1⟩ trivial (Nat.le_of_ble_eq_true rfl) (Nat.le_of_ble_eq_true rfl)
