theorem iq_X0_init_X0 : ∀ w ∈ wsX00, w ∈ wsX0_init := fun _ h => List.mem_cons_of_mem _ (List.mem_append_right _ h)
theorem iq_X0_init_X7 : ∀ w ∈ wsX70, w ∈ wsX0_init := fun _ h => List.mem_cons_of_mem _ (List.mem_append_left _ (List.mem_append_right _ h))
set_option maxHeartbeats 4000000 in
set_option maxRecDepth 100000 in
theorem cc_X0 (l : Launch) (dC : Nat → ClassId) (dI : Nat → Nat → Nat) (cT : Nat → ClassId) (a0 : Nat) : CCI l dC dI cT yX0_init wsX0_init ({ frames := 2, cells := 2, slots := 202, locals := 39 } : Room) 0 [.null, .int 0, .int 0, .int 0] [] a0 (fun _ => True) 2 202 := by
  refine cc_v (cc := cX0_init) (own := RX0) (mL := 1) (by decide) rfl rfl rfl (Nat.le_of_ble_eq_true rfl) ?_
  intro sz Z hlt hsz B ret
  have hcT : (cc_h0 cT).2.2.1 = cT := rfl
  have hV : sx_V (cc_h0 cT) [] cc_q0 := cc_V0
  refine wc_aload_n B dX0_init_0 rfl 0 rfl ?_
  refine wc_objInit B (by decide +kernel) (by decide +kernel) (by decide +kernel) (Nat.le_of_ble_eq_true rfl) (Nat.le_of_ble_eq_true rfl) dX0_init_1 ?_
  refine wc_aload_n B dX0_init_4 rfl 0 rfl ?_
  refine wc_nw B (C := RX7) (T := TX7) (N := 2) (ci := 7) (fs := [.null, .int 0]) iq_X0_init_X7 tyX7 tyX7_ok (by decide +kernel) (by decide +kernel) (by decide +kernel) rfl (fun j hj => zz_defX7 j hj) (Nat.le_of_ble_eq_true rfl) (Nat.le_of_ble_eq_true rfl) dX0_init_5 (fun b1 => ?_)
  refine wc_dup B dX0_init_8 rfl ?_
  refine wc_sipush B 200 dX0_init_9 (by decide) ?_
  refine wc_init B (As := [.int 200]) (rest := [.ref b1, .ref a0]) (X2 := [(a0, .inr (0, [.null, .int 0, .int 0, .int 0]))]) 1 rfl rfl (cc_X7 l dC dI cT b1 4 200 200 rfl (by decide) (by decide) (by decide)) (cwI 1 B.1.2.2.2.2 gX0_init_X7_init rfl rfl rfl (B.1.2.2.2.2 (.initialized RX7) (by decide +kernel)) (B.1.2.2.2.2 (.methodLink RX0 11 yX7_init) (by decide +kernel)) (B.1.2.2.2.2 (.instanceMethod yX7_init) (by decide +kernel)) rfl (by decide +kernel) ⟨(Nat.le_of_ble_eq_true rfl), (Nat.le_of_ble_eq_true rfl)⟩) hcT hV rfl rfl (Nat.le_of_ble_eq_true rfl) (Nat.le_of_ble_eq_true rfl) (Nat.le_of_ble_eq_true rfl) dX0_init_12 (fun M g r M0 g0 r0 hg hg0 hx hb9 hk9 hcT hV => ?_)
  have y_b1 := hx.1.gr hg0
  clear hx hb9 hk9 hg hg0
  refine wc_putF B (C := RX0) (T := TX0) (N := 4) (X2 := [(a0, .inr (0, [.ref b1, .int 0, .int 0, .int 0]))]) iq_X0_init_X0 0 rfl rfl 0 (by decide) (by decide +kernel) rfl (v := .ref b1) (ty := (.object "ClayAccounts$Text")) tyX0 tyX0_ok nmX0 rfl rfl (by decide +kernel) rfl rfl (Nat.le_of_ble_eq_true rfl) rfl dX0_init_15 ?_
  refine wc_layO (X2 := []) 0 rfl rfl (by decide) 0 (fun k => ([b1, 0, 0, 0] : List Nat).getD k 0) rfl hcT hV (by decide) [0] (by decide +kernel) (List.forall_mem_cons.mpr ⟨⟨y_b1.1, y_b1.2.1, fun _ => y_b1.2.2⟩, (fun _ h => absurd h List.not_mem_nil)⟩) (fun M g r hg yy hcT hV e1 e3 => ?_)
  exact wc_end (mc := 2) (ms := 202) (ex := fun _ => True) ret dX0_init_18 hcT hV ⟨yy.1, yy.2.1⟩ trivial (Nat.le_of_ble_eq_true rfl) (Nat.le_of_ble_eq_true rfl)
