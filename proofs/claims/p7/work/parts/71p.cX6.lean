theorem iq_X6_init_X6 : ∀ w ∈ wsX60, w ∈ wsX6_init := fun _ h => List.mem_cons_of_mem _ (List.mem_append_left _ (List.mem_append_right _ h))
theorem iq_X6_init_X8 : ∀ w ∈ wsX80, w ∈ wsX6_init := fun _ h => List.mem_cons_of_mem _ (List.mem_append_left _ (List.mem_append_left _ (List.mem_append_right _ h)))
set_option maxHeartbeats 4000000 in
set_option maxRecDepth 100000 in
theorem cc_X6 (l : Launch) (dC : Nat → ClassId) (dI : Nat → Nat → Nat) (cT : Nat → ClassId) (a0 : Nat) : CCI l dC dI cT yX6_init wsX6_init ({ frames := 3, cells := 3, slots := 13, locals := 59 } : Room) 6 [.null, .int 0, .int 0, .int 0, .int 0, .int 0, .int 0, .int 0] [] a0 (fun _ => True) 3 13 := by
  refine cc_v (cc := cX6_init) (own := RX6) (mL := 1) (by decide) rfl rfl rfl (Nat.le_of_ble_eq_true rfl) ?_
  intro sz Z hlt hsz B ret
  have hcT : (cc_h0 cT).2.2.1 = cT := rfl
  have hV : sx_V (cc_h0 cT) [] cc_q0 := cc_V0
  refine wc_aload_n B dX6_init_0 rfl 0 rfl ?_
  refine wc_objInit B (by decide +kernel) (by decide +kernel) (by decide +kernel) (Nat.le_of_ble_eq_true rfl) (Nat.le_of_ble_eq_true rfl) dX6_init_1 ?_
  refine wc_aload_n B dX6_init_4 rfl 0 rfl ?_
  refine wc_nw B (C := RX8) (T := TX8) (N := 11) (ci := 8) (fs := [.int 0, .int 0, .long 0, .int 0, .int 0, .int 0, .int 0, .null, .int 0, .int 0, .int 0]) iq_X6_init_X8 tyX8 tyX8_ok (by decide +kernel) (by decide +kernel) (by decide +kernel) rfl (fun j hj => zz_defX8 j hj) (Nat.le_of_ble_eq_true rfl) (Nat.le_of_ble_eq_true rfl) dX6_init_5 (fun b1 => ?_)
  refine wc_dup B dX6_init_8 rfl ?_
  refine wc_initN B (As := []) (rest := [.ref b1, .ref a0]) (X2 := [(a0, .inr (6, [.null, .int 0, .int 0, .int 0, .int 0, .int 0, .int 0, .int 0]))]) 1 rfl rfl (cc_X8 l dC dI cT b1) ⟨va_cnB 0 B.1.2.2.2.2 gX6_init_X8_init_n11 rfl rfl rfl B.2.2.2.1.n_RX6_11 (B.1.2.2.2.2 (.initialized RX8) (by decide +kernel)) (by decide +kernel) ⟨(Nat.le_of_ble_eq_true rfl), (Nat.le_of_ble_eq_true rfl)⟩, rfl, B.1.2.2.2.2 (.instanceMethod yX8_init) (by decide +kernel)⟩ hcT hV rfl rfl (Nat.le_of_ble_eq_true rfl) (Nat.le_of_ble_eq_true rfl) (Nat.le_of_ble_eq_true rfl) dX6_init_9 (fun M g r M0 g0 r0 hg hg0 hx hb9 hk9 hcT hV => ?_)
  have o_b1 : cc_o M g b1 8 := ⟨hb9, hk9⟩
  clear hx hb9 hk9 hg hg0
  refine wc_putF B (C := RX6) (T := TX6) (N := 8) (X2 := [(a0, .inr (6, [.ref b1, .int 0, .int 0, .int 0, .int 0, .int 0, .int 0, .int 0]))]) iq_X6_init_X6 0 rfl rfl 0 (by decide) (by decide +kernel) rfl (v := .ref b1) (ty := (.object "ClayAccounts$Tokens")) tyX6 tyX6_ok nmX6 rfl rfl (by decide +kernel) rfl rfl (Nat.le_of_ble_eq_true rfl) rfl dX6_init_12 ?_
  refine wc_layO (X2 := []) 0 rfl rfl (by decide) 0 (fun k => ([b1, 0, 0, 0, 0, 0, 0, 0] : List Nat).getD k 0) rfl hcT hV (by decide) [0] (by decide +kernel) (List.forall_mem_cons.mpr ⟨⟨o_b1.1, o_b1.2, fun z => absurd rfl z⟩, (fun _ h => absurd h List.not_mem_nil)⟩) (fun M g r hg yy hcT hV e1 e3 => ?_)
  exact wc_end (mc := 3) (ms := 13) (ex := fun _ => True) ret dX6_init_15 hcT hV ⟨yy.1, yy.2.1⟩ trivial (Nat.le_of_ble_eq_true rfl) (Nat.le_of_ble_eq_true rfl)
