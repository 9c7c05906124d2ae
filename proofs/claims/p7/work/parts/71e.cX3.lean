theorem iq_X3_init_X3 : ∀ w ∈ wsX30, w ∈ wsX3_init := fun _ h => List.mem_cons_of_mem _ (List.mem_append_right _ h)
set_option maxHeartbeats 4000000 in
set_option maxRecDepth 100000 in
theorem cc_X3 (l : Launch) (dC : Nat → ClassId) (dI : Nat → Nat → Nat) (cT : Nat → ClassId) (a0 : Nat) : CCI l dC dI cT yX3_init wsX3_init ({ frames := 1, cells := 3, slots := 4252, locals := 23 } : Room) 3 [.null, .int 0, .int 0, .null, .null] [] a0 (fun _ => True) 3 4252 := by
  refine cc_v (cc := cX3_init) (own := RX3) (mL := 1) (by decide) rfl rfl rfl (Nat.le_of_ble_eq_true rfl) ?_
  intro sz Z hlt hsz B ret
  have hcT : (cc_h0 cT).2.2.1 = cT := rfl
  have hV : sx_V (cc_h0 cT) [] cc_q0 := cc_V0
  refine wc_aload_n B dX3_init_0 rfl 0 rfl ?_
  refine wc_objInit B (by decide +kernel) (by decide +kernel) (by decide +kernel) (Nat.le_of_ble_eq_true rfl) (Nat.le_of_ble_eq_true rfl) dX3_init_1 ?_
  refine wc_aload_n B dX3_init_4 rfl 0 rfl ?_
  refine wc_bipush B 12 dX3_init_5 (by decide) ?_
  refine wc_nI B 100 12 (by decide) (by decide) hcT hV (by decide +kernel) (by decide) (by decide) (by decide) (Nat.le_of_ble_eq_true rfl) (Nat.le_of_ble_eq_true rfl) dX3_init_7 (fun b1 M g r hg y_b1 z_b1 hcT hV => ?_)
  clear z_b1
  refine wc_putF B (C := RX3) (T := TX3) (N := 5) (X2 := [(a0, .inr (3, [.ref b1, .int 0, .int 0, .null, .null]))]) iq_X3_init_X3 0 rfl rfl 0 (by decide) (by decide +kernel) rfl (v := .ref b1) (ty := (.array .int)) tyX3 tyX3_ok nmX3 rfl rfl (by decide +kernel) rfl rfl (Nat.le_of_ble_eq_true rfl) rfl dX3_init_9 ?_
  refine wc_aload_n B dX3_init_12 rfl 0 rfl ?_
  refine wc_sipush B 144 dX3_init_13 (by decide) ?_
  refine wc_nI B 100 144 (by decide) (by decide) hcT hV (by decide +kernel) (by decide) (by decide) (by decide) (Nat.le_of_ble_eq_true rfl) (Nat.le_of_ble_eq_true rfl) dX3_init_16 (fun b2 M g r hg y_b2 z_b2 hcT hV => ?_)
  replace y_b1 := y_b1.gr hg
  clear z_b2
  refine wc_putF B (C := RX3) (T := TX3) (N := 5) (X2 := [(a0, .inr (3, [.ref b1, .int 0, .int 0, .ref b2, .null]))]) iq_X3_init_X3 0 rfl rfl 3 (by decide) (by decide +kernel) rfl (v := .ref b2) (ty := (.array .int)) tyX3 tyX3_ok nmX3 rfl rfl (by decide +kernel) rfl rfl (Nat.le_of_ble_eq_true rfl) rfl dX3_init_18 ?_
  refine wc_aload_n B dX3_init_21 rfl 0 rfl ?_
  refine wc_sipush B 4096 dX3_init_22 (by decide) ?_
  refine wc_nI B 100 4096 (by decide) (by decide) hcT hV (by decide +kernel) (by decide) (by decide) (by decide) (Nat.le_of_ble_eq_true rfl) (Nat.le_of_ble_eq_true rfl) dX3_init_25 (fun b3 M g r hg y_b3 z_b3 hcT hV => ?_)
  replace y_b1 := y_b1.gr hg
  replace y_b2 := y_b2.gr hg
  clear z_b3
  refine wc_putF B (C := RX3) (T := TX3) (N := 5) (X2 := [(a0, .inr (3, [.ref b1, .int 0, .int 0, .ref b2, .ref b3]))]) iq_X3_init_X3 0 rfl rfl 4 (by decide) (by decide +kernel) rfl (v := .ref b3) (ty := (.array .int)) tyX3 tyX3_ok nmX3 rfl rfl (by decide +kernel) rfl rfl (Nat.le_of_ble_eq_true rfl) rfl dX3_init_27 ?_
  refine wc_aload_n B dX3_init_30 rfl 0 rfl ?_
  refine wc_get B (C := RX3) (T := TX3) (N := 5) iq_X3_init_X3 0 rfl rfl 0 (by decide) (by decide +kernel) rfl (v := .ref b1) rfl dX3_init_31 ?_
  refine wc_iconst B (-1) dX3_init_34 (by decide) ?_
  refine wc_fill B y_b1 (va_cwS 2 B.1.2.2.2.2 gX3_init_J7_fill_53178 rfl rfl rfl (by decide +kernel) ⟨(Nat.le_of_ble_eq_true rfl), (Nat.le_of_ble_eq_true rfl)⟩) hcT hV (Nat.le_of_ble_eq_true rfl) (Nat.le_of_ble_eq_true rfl) (Nat.le_of_ble_eq_true rfl) dX3_init_35 (fun r hV he9 => ?_)
  refine wc_layO (X2 := []) 0 rfl rfl (by decide) 0 (fun k => ([b1, 0, 0, b2, b3] : List Nat).getD k 0) rfl hcT hV (by decide) [0, 3, 4] (by decide +kernel) (List.forall_mem_cons.mpr ⟨⟨y_b1.1, y_b1.2.1, fun _ => y_b1.2.2⟩, (List.forall_mem_cons.mpr ⟨⟨y_b2.1, y_b2.2.1, fun _ => y_b2.2.2⟩, (List.forall_mem_cons.mpr ⟨⟨y_b3.1, y_b3.2.1, fun _ => y_b3.2.2⟩, (fun _ h => absurd h List.not_mem_nil)⟩)⟩)⟩) (fun M g r hg yy hcT hV e1 e3 => ?_)
  exact wc_end (mc := 3) (ms := 4252) (ex := fun _ => True) ret dX3_init_38 hcT hV ⟨yy.1, yy.2.1⟩ trivial (Nat.le_of_ble_eq_true rfl) (Nat.le_of_ble_eq_true rfl)
