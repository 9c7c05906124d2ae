theorem iq_X8_init_X7 : ∀ w ∈ wsX70, w ∈ wsX8_init := fun _ h => List.mem_cons_of_mem _ (List.mem_append_left _ (List.mem_append_right _ h))
theorem iq_X8_init_X8 : ∀ w ∈ wsX80, w ∈ wsX8_init := fun _ h => List.mem_cons_of_mem _ (List.mem_append_right _ h)
set_option maxHeartbeats 4000000 in
set_option maxRecDepth 100000 in
theorem cc_X8 (l : Launch) (dC : Nat → ClassId) (dI : Nat → Nat → Nat) (cT : Nat → ClassId) (a0 : Nat) : CCI l dC dI cT yX8_init wsX8_init ({ frames := 2, cells := 2, slots := 2, locals := 39 } : Room) 8 [.int 0, .int 0, .long 0, .int 0, .int 0, .int 0, .int 0, .null, .int 0, .int 0, .int 0] [] a0 (fun _ => True) 2 2 := by
  refine cc_v (cc := cX8_init) (own := RX8) (mL := 1) (by decide) rfl rfl rfl (Nat.le_of_ble_eq_true rfl) ?_
  intro sz Z hlt hsz B ret
  have hcT : (cc_h0 cT).2.2.1 = cT := rfl
  have hV : sx_V (cc_h0 cT) [] cc_q0 := cc_V0
  refine wc_aload_n B dX8_init_0 rfl 0 rfl ?_
  refine wc_objInit B (by decide +kernel) (by decide +kernel) (by decide +kernel) (Nat.le_of_ble_eq_true rfl) (Nat.le_of_ble_eq_true rfl) dX8_init_1 ?_
  refine wc_aload_n B dX8_init_4 rfl 0 rfl ?_
  refine wc_nw B (C := RX7) (T := TX7) (N := 2) (ci := 7) (fs := [.null, .int 0]) iq_X8_init_X7 tyX7 tyX7_ok (by decide +kernel) (by decide +kernel) (by decide +kernel) rfl (fun j hj => zz_defX7 j hj) (Nat.le_of_ble_eq_true rfl) (Nat.le_of_ble_eq_true rfl) dX8_init_5 (fun b1 => ?_)
  refine wc_dup B dX8_init_8 rfl ?_
  refine wc_iconst B 0 dX8_init_9 (by decide) ?_
  refine wc_init B (As := [.int 0]) (rest := [.ref b1, .ref a0]) (X2 := [(a0, .inr (8, [.int 0, .int 0, .long 0, .int 0, .int 0, .int 0, .int 0, .null, .int 0, .int 0, .int 0]))]) 1 rfl rfl (cc_X7 l dC dI cT b1 0 0 0 rfl (by decide) (by decide) (by decide)) (cwI 1 B.1.2.2.2.2 gX8_init_X7_init rfl rfl rfl (B.1.2.2.2.2 (.initialized RX7) (by decide +kernel)) (B.1.2.2.2.2 (.methodLink RX8 11 yX7_init) (by decide +kernel)) (B.1.2.2.2.2 (.instanceMethod yX7_init) (by decide +kernel)) rfl (by decide +kernel) ⟨(Nat.le_of_ble_eq_true rfl), (Nat.le_of_ble_eq_true rfl)⟩) hcT hV rfl rfl (Nat.le_of_ble_eq_true rfl) (Nat.le_of_ble_eq_true rfl) (Nat.le_of_ble_eq_true rfl) dX8_init_10 (fun M g r M0 g0 r0 hg hg0 hx hb9 hk9 hcT hV => ?_)
  have y_b1 := hx.1.gr hg0
  clear hx hb9 hk9 hg hg0
  refine wc_put B (C := RX8) (T := TX8) (N := 11) (X2 := [(a0, .inr (8, [.int 0, .int 0, .long 0, .int 0, .int 0, .int 0, .int 0, .ref b1, .int 0, .int 0, .int 0]))]) iq_X8_init_X8 0 rfl rfl 7 (by decide) (by decide +kernel) rfl (v := .ref b1) (ty := (.object "ClayAccounts$Text")) tyX8 tyX8_ok nmX8 rfl (by decide +kernel) rfl rfl (Nat.le_of_ble_eq_true rfl) rfl dX8_init_13 ?_
  refine wc_layO (X2 := []) 0 rfl rfl (by decide) 0 (fun k => ([0, 0, 0, 0, 0, 0, 0, b1, 0, 0, 0] : List Nat).getD k 0) rfl hcT hV (by decide) [7] (by decide +kernel) (List.forall_mem_cons.mpr ⟨⟨y_b1.1, y_b1.2.1, fun z => absurd rfl z⟩, (fun _ h => absurd h List.not_mem_nil)⟩) (fun M g r hg yy hcT hV e1 e3 => ?_)
  exact wc_end (mc := 2) (ms := 2) (ex := fun _ => True) ret dX8_init_16 hcT hV ⟨yy.1, yy.2.1⟩ trivial (Nat.le_of_ble_eq_true rfl) (Nat.le_of_ble_eq_true rfl)
