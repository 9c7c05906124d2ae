theorem iq_X5_init_X1 : ∀ w ∈ wsX10, w ∈ wsX5_init := fun _ h => List.mem_cons_of_mem _ (List.mem_append_right _ h)
theorem iq_X5_init_X2 : ∀ w ∈ wsX20, w ∈ wsX5_init := fun _ h => List.mem_cons_of_mem _ (List.mem_append_left _ (List.mem_append_right _ h))
theorem iq_X5_init_X5 : ∀ w ∈ wsX50, w ∈ wsX5_init := fun _ h => List.mem_cons_of_mem _ (List.mem_append_left _ (List.mem_append_left _ (List.mem_append_right _ h)))
set_option maxHeartbeats 4000000 in
set_option maxRecDepth 100000 in
theorem cc_X5 (l : Launch) (dC : Nat → ClassId) (dI : Nat → Nat → Nat) (cT : Nat → ClassId) (a0 : Nat) : CCI l dC dI cT yX5_init wsX5_init ({ frames := 2, cells := 18, slots := 116, locals := 35 } : Room) 5 [.null, .null, .int 0, .int 0, .int 0, .int 0, .int 0] [] a0 (fun _ => True) 18 116 := by
  refine cc_v (cc := cX5_init) (own := RX5) (mL := 2) (by decide) rfl rfl rfl (Nat.le_of_ble_eq_true rfl) ?_
  intro sz Z hlt hsz B ret
  have hcT : (cc_h0 cT).2.2.1 = cT := rfl
  have hV : sx_V (cc_h0 cT) [] cc_q0 := cc_V0
  refine wc_aload_n B dX5_init_0 rfl 0 rfl ?_
  refine wc_objInit B (by decide +kernel) (by decide +kernel) (by decide +kernel) (Nat.le_of_ble_eq_true rfl) (Nat.le_of_ble_eq_true rfl) dX5_init_1 ?_
  refine wc_aload_n B dX5_init_4 rfl 0 rfl ?_
  refine wc_bipush B 12 dX5_init_5 (by decide) ?_
  refine wc_nq B 401 4 12 rfl B.2.2.2.1.ao_X2 (by decide +kernel) (by decide) (by decide) (by decide) (Nat.le_of_ble_eq_true rfl) (Nat.le_of_ble_eq_true rfl) dX5_init_7 (fun b1 => ?_)
  have l_b1 : cc_l _ _ [] 2 := cc_l.nil (L := []) (h := (cc_h0 cT))
  refine wc_putF B (C := RX5) (T := TX5) (N := 7) (X2 := [(a0, .inr (5, [.ref b1, .null, .int 0, .int 0, .int 0, .int 0, .int 0])), (b1, .inl (cT 401, 12, .inr (.inr (.inr (.inr (fun j => ([] : List Nat)[j]?))))))]) iq_X5_init_X5 0 rfl rfl 0 (by decide) (by decide +kernel) rfl (v := .ref b1) (ty := (.array (.object "ClayAccounts$Line"))) tyX5 tyX5_ok nmX5 rfl rfl (by decide +kernel) rfl rfl (Nat.le_of_ble_eq_true rfl) rfl dX5_init_10 ?_
  refine wc_aload_n B dX5_init_13 rfl 0 rfl ?_
  refine wc_iconst B 4 dX5_init_14 (by decide) ?_
  refine wc_nq B 402 5 4 rfl B.2.2.2.1.ao_X1 (by decide +kernel) (by decide) (by decide) (by decide) (Nat.le_of_ble_eq_true rfl) (Nat.le_of_ble_eq_true rfl) dX5_init_15 (fun b2 => ?_)
  have l_b2 : cc_l _ _ [] 1 := cc_l.nil (L := []) (h := (cc_h0 cT))
  refine wc_putF B (C := RX5) (T := TX5) (N := 7) (X2 := [(a0, .inr (5, [.ref b1, .ref b2, .int 0, .int 0, .int 0, .int 0, .int 0])), (b1, .inl (cT 401, 12, .inr (.inr (.inr (.inr (fun j => ([] : List Nat)[j]?)))))), (b2, .inl (cT 402, 4, .inr (.inr (.inr (.inr (fun j => ([] : List Nat)[j]?))))))]) iq_X5_init_X5 0 rfl rfl 1 (by decide) (by decide +kernel) rfl (v := .ref b2) (ty := (.array (.object "ClayAccounts$Hole"))) tyX5 tyX5_ok nmX5 rfl rfl (by decide +kernel) rfl rfl (Nat.le_of_ble_eq_true rfl) rfl dX5_init_18 ?_
  refine wc_iconst B 0 dX5_init_21 (by decide) ?_
  refine wc_istore_n B [(1, .int 0), (0, .ref a0)] dX5_init_22 rfl (by decide) rfl ?_
  refine wc_iload_n B dX5_init_23 rfl 0 rfl ?_
  refine wc_bipush B 12 dX5_init_24 (by decide) ?_
  refine wc_ge B 48 dX5_init_26 (by decide) (fun c9 => absurd c9 (by decide)) (fun c9 => ?_)
  refine wc_aload_n B dX5_init_29 rfl 1 rfl ?_
  refine wc_get B (C := RX5) (T := TX5) (N := 7) iq_X5_init_X5 0 rfl rfl 0 (by decide) (by decide +kernel) rfl (v := .ref b1) rfl dX5_init_30 ?_
  refine wc_iload_n B dX5_init_33 rfl 0 rfl ?_
  refine wc_nw B (C := RX2) (T := TX2) (N := 6) (ci := 2) (fs := [.int 0, .int 0, .int 0, .int 0, .int 0, .int 0]) iq_X5_init_X2 tyX2 tyX2_ok (by decide +kernel) (by decide +kernel) (by decide +kernel) rfl (fun j hj => zz_defX2 j hj) (Nat.le_of_ble_eq_true rfl) (Nat.le_of_ble_eq_true rfl) dX5_init_34 (fun b3 => ?_)
  refine wc_dup B dX5_init_37 rfl ?_
  refine wc_initN B (As := []) (rest := [.ref b3, .int 0, .ref b1]) (X2 := [(a0, .inr (5, [.ref b1, .ref b2, .int 0, .int 0, .int 0, .int 0, .int 0])), (b1, .inl (cT 401, 12, .inr (.inr (.inr (.inr (fun j => ([] : List Nat)[j]?)))))), (b2, .inl (cT 402, 4, .inr (.inr (.inr (.inr (fun j => ([] : List Nat)[j]?))))))]) 3 rfl rfl (cc_X2 l dC dI cT b3) ⟨va_cnB 0 B.1.2.2.2.2 gX5_init_X2_init_n23 rfl rfl rfl B.2.2.2.1.n_RX5_23 (B.1.2.2.2.2 (.initialized RX2) (by decide +kernel)) (by decide +kernel) ⟨(Nat.le_of_ble_eq_true rfl), (Nat.le_of_ble_eq_true rfl)⟩, rfl, B.1.2.2.2.2 (.instanceMethod yX2_init) (by decide +kernel)⟩ hcT hV rfl rfl (Nat.le_of_ble_eq_true rfl) (Nat.le_of_ble_eq_true rfl) (Nat.le_of_ble_eq_true rfl) dX5_init_38 (fun M g r M0 g0 r0 hg hg0 hx hb9 hk9 hcT hV => ?_)
  replace l_b1 := l_b1.gr hg
  replace l_b2 := l_b2.gr hg
  have o_b3 : cc_o M g b3 2 := ⟨hb9, hk9⟩
  clear hx hb9 hk9 hg hg0
  refine wc_as B (r := (RX2, TX2, 6)) (ci := 2) (xs := []) (X2 := [(a0, .inr (5, [.ref b1, .ref b2, .int 0, .int 0, .int 0, .int 0, .int 0])), (b1, .inl (cT 401, 12, .inr (.inr (.inr (.inr (fun j => ([b3] : List Nat)[j]?)))))), (b2, .inl (cT 402, 4, .inr (.inr (.inr (.inr (fun j => ([] : List Nat)[j]?))))))]) 1 4 401 [b3] rfl rfl o_b3 (by decide) rfl (show ¬ ((0 : Int32) < 0 ∨ 12 ≤ (0 : Int32).toNatClampNeg) by decide) rfl rfl rfl dX5_init_41 ?_
  replace l_b1 := l_b1.snoc o_b3
  clear o_b3
  refine wc_iinc B [(1, .int 1), (0, .ref a0)] 1 dX5_init_42 0 rfl (by decide) (by decide) rfl ?_
  refine wc_goto B 23 dX5_init_45 (by decide) ?_
  refine wc_iload_n B dX5_init_23 rfl 0 rfl ?_
  refine wc_bipush B 12 dX5_init_24 (by decide) ?_
  refine wc_ge B 48 dX5_init_26 (by decide) (fun c9 => absurd c9 (by decide)) (fun c9 => ?_)
  refine wc_aload_n B dX5_init_29 rfl 1 rfl ?_
  refine wc_get B (C := RX5) (T := TX5) (N := 7) iq_X5_init_X5 0 rfl rfl 0 (by decide) (by decide +kernel) rfl (v := .ref b1) rfl dX5_init_30 ?_
  refine wc_iload_n B dX5_init_33 rfl 0 rfl ?_
  refine wc_nw B (C := RX2) (T := TX2) (N := 6) (ci := 2) (fs := [.int 0, .int 0, .int 0, .int 0, .int 0, .int 0]) iq_X5_init_X2 tyX2 tyX2_ok (by decide +kernel) (by decide +kernel) (by decide +kernel) rfl (fun j hj => zz_defX2 j hj) (Nat.le_of_ble_eq_true rfl) (Nat.le_of_ble_eq_true rfl) dX5_init_34 (fun b4 => ?_)
  refine wc_dup B dX5_init_37 rfl ?_
  refine wc_initN B (As := []) (rest := [.ref b4, .int 1, .ref b1]) (X2 := [(a0, .inr (5, [.ref b1, .ref b2, .int 0, .int 0, .int 0, .int 0, .int 0])), (b1, .inl (cT 401, 12, .inr (.inr (.inr (.inr (fun j => ([b3] : List Nat)[j]?)))))), (b2, .inl (cT 402, 4, .inr (.inr (.inr (.inr (fun j => ([] : List Nat)[j]?))))))]) 3 rfl rfl (cc_X2 l dC dI cT b4) ⟨va_cnB 0 B.1.2.2.2.2 gX5_init_X2_init_n23 rfl rfl rfl B.2.2.2.1.n_RX5_23 (B.1.2.2.2.2 (.initialized RX2) (by decide +kernel)) (by decide +kernel) ⟨(Nat.le_of_ble_eq_true rfl), (Nat.le_of_ble_eq_true rfl)⟩, rfl, B.1.2.2.2.2 (.instanceMethod yX2_init) (by decide +kernel)⟩ hcT hV rfl rfl (Nat.le_of_ble_eq_true rfl) (Nat.le_of_ble_eq_true rfl) (Nat.le_of_ble_eq_true rfl) dX5_init_38 (fun M g r M0 g0 r0 hg hg0 hx hb9 hk9 hcT hV => ?_)
  replace l_b1 := l_b1.gr hg
  replace l_b2 := l_b2.gr hg
  have o_b4 : cc_o M g b4 2 := ⟨hb9, hk9⟩
  clear hx hb9 hk9 hg hg0
  refine wc_as B (r := (RX2, TX2, 6)) (ci := 2) (xs := [b3]) (X2 := [(a0, .inr (5, [.ref b1, .ref b2, .int 0, .int 0, .int 0, .int 0, .int 0])), (b1, .inl (cT 401, 12, .inr (.inr (.inr (.inr (fun j => ([b3, b4] : List Nat)[j]?)))))), (b2, .inl (cT 402, 4, .inr (.inr (.inr (.inr (fun j => ([] : List Nat)[j]?))))))]) 1 4 401 [b3, b4] rfl rfl o_b4 (by decide) rfl (show ¬ ((1 : Int32) < 0 ∨ 12 ≤ (1 : Int32).toNatClampNeg) by decide) rfl rfl rfl dX5_init_41 ?_
  replace l_b1 := l_b1.snoc o_b4
  clear o_b4
  refine wc_iinc B [(1, .int 2), (0, .ref a0)] 2 dX5_init_42 0 rfl (by decide) (by decide) rfl ?_
  refine wc_goto B 23 dX5_init_45 (by decide) ?_
  refine wc_iload_n B dX5_init_23 rfl 0 rfl ?_
  refine wc_bipush B 12 dX5_init_24 (by decide) ?_
  refine wc_ge B 48 dX5_init_26 (by decide) (fun c9 => absurd c9 (by decide)) (fun c9 => ?_)
  refine wc_aload_n B dX5_init_29 rfl 1 rfl ?_
  refine wc_get B (C := RX5) (T := TX5) (N := 7) iq_X5_init_X5 0 rfl rfl 0 (by decide) (by decide +kernel) rfl (v := .ref b1) rfl dX5_init_30 ?_
  refine wc_iload_n B dX5_init_33 rfl 0 rfl ?_
  refine wc_nw B (C := RX2) (T := TX2) (N := 6) (ci := 2) (fs := [.int 0, .int 0, .int 0, .int 0, .int 0, .int 0]) iq_X5_init_X2 tyX2 tyX2_ok (by decide +kernel) (by decide +kernel) (by decide +kernel) rfl (fun j hj => zz_defX2 j hj) (Nat.le_of_ble_eq_true rfl) (Nat.le_of_ble_eq_true rfl) dX5_init_34 (fun b5 => ?_)
  refine wc_dup B dX5_init_37 rfl ?_
  refine wc_initN B (As := []) (rest := [.ref b5, .int 2, .ref b1]) (X2 := [(a0, .inr (5, [.ref b1, .ref b2, .int 0, .int 0, .int 0, .int 0, .int 0])), (b1, .inl (cT 401, 12, .inr (.inr (.inr (.inr (fun j => ([b3, b4] : List Nat)[j]?)))))), (b2, .inl (cT 402, 4, .inr (.inr (.inr (.inr (fun j => ([] : List Nat)[j]?))))))]) 3 rfl rfl (cc_X2 l dC dI cT b5) ⟨va_cnB 0 B.1.2.2.2.2 gX5_init_X2_init_n23 rfl rfl rfl B.2.2.2.1.n_RX5_23 (B.1.2.2.2.2 (.initialized RX2) (by decide +kernel)) (by decide +kernel) ⟨(Nat.le_of_ble_eq_true rfl), (Nat.le_of_ble_eq_true rfl)⟩, rfl, B.1.2.2.2.2 (.instanceMethod yX2_init) (by decide +kernel)⟩ hcT hV rfl rfl (Nat.le_of_ble_eq_true rfl) (Nat.le_of_ble_eq_true rfl) (Nat.le_of_ble_eq_true rfl) dX5_init_38 (fun M g r M0 g0 r0 hg hg0 hx hb9 hk9 hcT hV => ?_)
  replace l_b1 := l_b1.gr hg
  replace l_b2 := l_b2.gr hg
  have o_b5 : cc_o M g b5 2 := ⟨hb9, hk9⟩
  clear hx hb9 hk9 hg hg0
  refine wc_as B (r := (RX2, TX2, 6)) (ci := 2) (xs := [b3, b4]) (X2 := [(a0, .inr (5, [.ref b1, .ref b2, .int 0, .int 0, .int 0, .int 0, .int 0])), (b1, .inl (cT 401, 12, .inr (.inr (.inr (.inr (fun j => ([b3, b4, b5] : List Nat)[j]?)))))), (b2, .inl (cT 402, 4, .inr (.inr (.inr (.inr (fun j => ([] : List Nat)[j]?))))))]) 1 4 401 [b3, b4, b5] rfl rfl o_b5 (by decide) rfl (show ¬ ((2 : Int32) < 0 ∨ 12 ≤ (2 : Int32).toNatClampNeg) by decide) rfl rfl rfl dX5_init_41 ?_
  replace l_b1 := l_b1.snoc o_b5
  clear o_b5
  refine wc_iinc B [(1, .int 3), (0, .ref a0)] 3 dX5_init_42 0 rfl (by decide) (by decide) rfl ?_
  refine wc_goto B 23 dX5_init_45 (by decide) ?_
  refine wc_iload_n B dX5_init_23 rfl 0 rfl ?_
  refine wc_bipush B 12 dX5_init_24 (by decide) ?_
  refine wc_ge B 48 dX5_init_26 (by decide) (fun c9 => absurd c9 (by decide)) (fun c9 => ?_)
  refine wc_aload_n B dX5_init_29 rfl 1 rfl ?_
  refine wc_get B (C := RX5) (T := TX5) (N := 7) iq_X5_init_X5 0 rfl rfl 0 (by decide) (by decide +kernel) rfl (v := .ref b1) rfl dX5_init_30 ?_
  refine wc_iload_n B dX5_init_33 rfl 0 rfl ?_
  refine wc_nw B (C := RX2) (T := TX2) (N := 6) (ci := 2) (fs := [.int 0, .int 0, .int 0, .int 0, .int 0, .int 0]) iq_X5_init_X2 tyX2 tyX2_ok (by decide +kernel) (by decide +kernel) (by decide +kernel) rfl (fun j hj => zz_defX2 j hj) (Nat.le_of_ble_eq_true rfl) (Nat.le_of_ble_eq_true rfl) dX5_init_34 (fun b6 => ?_)
  refine wc_dup B dX5_init_37 rfl ?_
  refine wc_initN B (As := []) (rest := [.ref b6, .int 3, .ref b1]) (X2 := [(a0, .inr (5, [.ref b1, .ref b2, .int 0, .int 0, .int 0, .int 0, .int 0])), (b1, .inl (cT 401, 12, .inr (.inr (.inr (.inr (fun j => ([b3, b4, b5] : List Nat)[j]?)))))), (b2, .inl (cT 402, 4, .inr (.inr (.inr (.inr (fun j => ([] : List Nat)[j]?))))))]) 3 rfl rfl (cc_X2 l dC dI cT b6) ⟨va_cnB 0 B.1.2.2.2.2 gX5_init_X2_init_n23 rfl rfl rfl B.2.2.2.1.n_RX5_23 (B.1.2.2.2.2 (.initialized RX2) (by decide +kernel)) (by decide +kernel) ⟨(Nat.le_of_ble_eq_true rfl), (Nat.le_of_ble_eq_true rfl)⟩, rfl, B.1.2.2.2.2 (.instanceMethod yX2_init) (by decide +kernel)⟩ hcT hV rfl rfl (Nat.le_of_ble_eq_true rfl) (Nat.le_of_ble_eq_true rfl) (Nat.le_of_ble_eq_true rfl) dX5_init_38 (fun M g r M0 g0 r0 hg hg0 hx hb9 hk9 hcT hV => ?_)
  replace l_b1 := l_b1.gr hg
  replace l_b2 := l_b2.gr hg
  have o_b6 : cc_o M g b6 2 := ⟨hb9, hk9⟩
  clear hx hb9 hk9 hg hg0
  refine wc_as B (r := (RX2, TX2, 6)) (ci := 2) (xs := [b3, b4, b5]) (X2 := [(a0, .inr (5, [.ref b1, .ref b2, .int 0, .int 0, .int 0, .int 0, .int 0])), (b1, .inl (cT 401, 12, .inr (.inr (.inr (.inr (fun j => ([b3, b4, b5, b6] : List Nat)[j]?)))))), (b2, .inl (cT 402, 4, .inr (.inr (.inr (.inr (fun j => ([] : List Nat)[j]?))))))]) 1 4 401 [b3, b4, b5, b6] rfl rfl o_b6 (by decide) rfl (show ¬ ((3 : Int32) < 0 ∨ 12 ≤ (3 : Int32).toNatClampNeg) by decide) rfl rfl rfl dX5_init_41 ?_
  replace l_b1 := l_b1.snoc o_b6
  clear o_b6
  refine wc_iinc B [(1, .int 4), (0, .ref a0)] 4 dX5_init_42 0 rfl (by decide) (by decide) rfl ?_
  refine wc_goto B 23 dX5_init_45 (by decide) ?_
  refine wc_iload_n B dX5_init_23 rfl 0 rfl ?_
  refine wc_bipush B 12 dX5_init_24 (by decide) ?_
  refine wc_ge B 48 dX5_init_26 (by decide) (fun c9 => absurd c9 (by decide)) (fun c9 => ?_)
  refine wc_aload_n B dX5_init_29 rfl 1 rfl ?_
  refine wc_get B (C := RX5) (T := TX5) (N := 7) iq_X5_init_X5 0 rfl rfl 0 (by decide) (by decide +kernel) rfl (v := .ref b1) rfl dX5_init_30 ?_
  refine wc_iload_n B dX5_init_33 rfl 0 rfl ?_
  refine wc_nw B (C := RX2) (T := TX2) (N := 6) (ci := 2) (fs := [.int 0, .int 0, .int 0, .int 0, .int 0, .int 0]) iq_X5_init_X2 tyX2 tyX2_ok (by decide +kernel) (by decide +kernel) (by decide +kernel) rfl (fun j hj => zz_defX2 j hj) (Nat.le_of_ble_eq_true rfl) (Nat.le_of_ble_eq_true rfl) dX5_init_34 (fun b7 => ?_)
  refine wc_dup B dX5_init_37 rfl ?_
  refine wc_initN B (As := []) (rest := [.ref b7, .int 4, .ref b1]) (X2 := [(a0, .inr (5, [.ref b1, .ref b2, .int 0, .int 0, .int 0, .int 0, .int 0])), (b1, .inl (cT 401, 12, .inr (.inr (.inr (.inr (fun j => ([b3, b4, b5, b6] : List Nat)[j]?)))))), (b2, .inl (cT 402, 4, .inr (.inr (.inr (.inr (fun j => ([] : List Nat)[j]?))))))]) 3 rfl rfl (cc_X2 l dC dI cT b7) ⟨va_cnB 0 B.1.2.2.2.2 gX5_init_X2_init_n23 rfl rfl rfl B.2.2.2.1.n_RX5_23 (B.1.2.2.2.2 (.initialized RX2) (by decide +kernel)) (by decide +kernel) ⟨(Nat.le_of_ble_eq_true rfl), (Nat.le_of_ble_eq_true rfl)⟩, rfl, B.1.2.2.2.2 (.instanceMethod yX2_init) (by decide +kernel)⟩ hcT hV rfl rfl (Nat.le_of_ble_eq_true rfl) (Nat.le_of_ble_eq_true rfl) (Nat.le_of_ble_eq_true rfl) dX5_init_38 (fun M g r M0 g0 r0 hg hg0 hx hb9 hk9 hcT hV => ?_)
  replace l_b1 := l_b1.gr hg
  replace l_b2 := l_b2.gr hg
  have o_b7 : cc_o M g b7 2 := ⟨hb9, hk9⟩
  clear hx hb9 hk9 hg hg0
  refine wc_as B (r := (RX2, TX2, 6)) (ci := 2) (xs := [b3, b4, b5, b6]) (X2 := [(a0, .inr (5, [.ref b1, .ref b2, .int 0, .int 0, .int 0, .int 0, .int 0])), (b1, .inl (cT 401, 12, .inr (.inr (.inr (.inr (fun j => ([b3, b4, b5, b6, b7] : List Nat)[j]?)))))), (b2, .inl (cT 402, 4, .inr (.inr (.inr (.inr (fun j => ([] : List Nat)[j]?))))))]) 1 4 401 [b3, b4, b5, b6, b7] rfl rfl o_b7 (by decide) rfl (show ¬ ((4 : Int32) < 0 ∨ 12 ≤ (4 : Int32).toNatClampNeg) by decide) rfl rfl rfl dX5_init_41 ?_
  replace l_b1 := l_b1.snoc o_b7
  clear o_b7
  refine wc_iinc B [(1, .int 5), (0, .ref a0)] 5 dX5_init_42 0 rfl (by decide) (by decide) rfl ?_
  refine wc_goto B 23 dX5_init_45 (by decide) ?_
  refine wc_iload_n B dX5_init_23 rfl 0 rfl ?_
  refine wc_bipush B 12 dX5_init_24 (by decide) ?_
  refine wc_ge B 48 dX5_init_26 (by decide) (fun c9 => absurd c9 (by decide)) (fun c9 => ?_)
  refine wc_aload_n B dX5_init_29 rfl 1 rfl ?_
  refine wc_get B (C := RX5) (T := TX5) (N := 7) iq_X5_init_X5 0 rfl rfl 0 (by decide) (by decide +kernel) rfl (v := .ref b1) rfl dX5_init_30 ?_
  refine wc_iload_n B dX5_init_33 rfl 0 rfl ?_
  refine wc_nw B (C := RX2) (T := TX2) (N := 6) (ci := 2) (fs := [.int 0, .int 0, .int 0, .int 0, .int 0, .int 0]) iq_X5_init_X2 tyX2 tyX2_ok (by decide +kernel) (by decide +kernel) (by decide +kernel) rfl (fun j hj => zz_defX2 j hj) (Nat.le_of_ble_eq_true rfl) (Nat.le_of_ble_eq_true rfl) dX5_init_34 (fun b8 => ?_)
  refine wc_dup B dX5_init_37 rfl ?_
  refine wc_initN B (As := []) (rest := [.ref b8, .int 5, .ref b1]) (X2 := [(a0, .inr (5, [.ref b1, .ref b2, .int 0, .int 0, .int 0, .int 0, .int 0])), (b1, .inl (cT 401, 12, .inr (.inr (.inr (.inr (fun j => ([b3, b4, b5, b6, b7] : List Nat)[j]?)))))), (b2, .inl (cT 402, 4, .inr (.inr (.inr (.inr (fun j => ([] : List Nat)[j]?))))))]) 3 rfl rfl (cc_X2 l dC dI cT b8) ⟨va_cnB 0 B.1.2.2.2.2 gX5_init_X2_init_n23 rfl rfl rfl B.2.2.2.1.n_RX5_23 (B.1.2.2.2.2 (.initialized RX2) (by decide +kernel)) (by decide +kernel) ⟨(Nat.le_of_ble_eq_true rfl), (Nat.le_of_ble_eq_true rfl)⟩, rfl, B.1.2.2.2.2 (.instanceMethod yX2_init) (by decide +kernel)⟩ hcT hV rfl rfl (Nat.le_of_ble_eq_true rfl) (Nat.le_of_ble_eq_true rfl) (Nat.le_of_ble_eq_true rfl) dX5_init_38 (fun M g r M0 g0 r0 hg hg0 hx hb9 hk9 hcT hV => ?_)
  replace l_b1 := l_b1.gr hg
  replace l_b2 := l_b2.gr hg
  have o_b8 : cc_o M g b8 2 := ⟨hb9, hk9⟩
  clear hx hb9 hk9 hg hg0
  refine wc_as B (r := (RX2, TX2, 6)) (ci := 2) (xs := [b3, b4, b5, b6, b7]) (X2 := [(a0, .inr (5, [.ref b1, .ref b2, .int 0, .int 0, .int 0, .int 0, .int 0])), (b1, .inl (cT 401, 12, .inr (.inr (.inr (.inr (fun j => ([b3, b4, b5, b6, b7, b8] : List Nat)[j]?)))))), (b2, .inl (cT 402, 4, .inr (.inr (.inr (.inr (fun j => ([] : List Nat)[j]?))))))]) 1 4 401 [b3, b4, b5, b6, b7, b8] rfl rfl o_b8 (by decide) rfl (show ¬ ((5 : Int32) < 0 ∨ 12 ≤ (5 : Int32).toNatClampNeg) by decide) rfl rfl rfl dX5_init_41 ?_
  replace l_b1 := l_b1.snoc o_b8
  clear o_b8
  refine wc_iinc B [(1, .int 6), (0, .ref a0)] 6 dX5_init_42 0 rfl (by decide) (by decide) rfl ?_
  refine wc_goto B 23 dX5_init_45 (by decide) ?_
  refine wc_iload_n B dX5_init_23 rfl 0 rfl ?_
  refine wc_bipush B 12 dX5_init_24 (by decide) ?_
  refine wc_ge B 48 dX5_init_26 (by decide) (fun c9 => absurd c9 (by decide)) (fun c9 => ?_)
  refine wc_aload_n B dX5_init_29 rfl 1 rfl ?_
  refine wc_get B (C := RX5) (T := TX5) (N := 7) iq_X5_init_X5 0 rfl rfl 0 (by decide) (by decide +kernel) rfl (v := .ref b1) rfl dX5_init_30 ?_
  refine wc_iload_n B dX5_init_33 rfl 0 rfl ?_
  refine wc_nw B (C := RX2) (T := TX2) (N := 6) (ci := 2) (fs := [.int 0, .int 0, .int 0, .int 0, .int 0, .int 0]) iq_X5_init_X2 tyX2 tyX2_ok (by decide +kernel) (by decide +kernel) (by decide +kernel) rfl (fun j hj => zz_defX2 j hj) (Nat.le_of_ble_eq_true rfl) (Nat.le_of_ble_eq_true rfl) dX5_init_34 (fun b9 => ?_)
  refine wc_dup B dX5_init_37 rfl ?_
  refine wc_initN B (As := []) (rest := [.ref b9, .int 6, .ref b1]) (X2 := [(a0, .inr (5, [.ref b1, .ref b2, .int 0, .int 0, .int 0, .int 0, .int 0])), (b1, .inl (cT 401, 12, .inr (.inr (.inr (.inr (fun j => ([b3, b4, b5, b6, b7, b8] : List Nat)[j]?)))))), (b2, .inl (cT 402, 4, .inr (.inr (.inr (.inr (fun j => ([] : List Nat)[j]?))))))]) 3 rfl rfl (cc_X2 l dC dI cT b9) ⟨va_cnB 0 B.1.2.2.2.2 gX5_init_X2_init_n23 rfl rfl rfl B.2.2.2.1.n_RX5_23 (B.1.2.2.2.2 (.initialized RX2) (by decide +kernel)) (by decide +kernel) ⟨(Nat.le_of_ble_eq_true rfl), (Nat.le_of_ble_eq_true rfl)⟩, rfl, B.1.2.2.2.2 (.instanceMethod yX2_init) (by decide +kernel)⟩ hcT hV rfl rfl (Nat.le_of_ble_eq_true rfl) (Nat.le_of_ble_eq_true rfl) (Nat.le_of_ble_eq_true rfl) dX5_init_38 (fun M g r M0 g0 r0 hg hg0 hx hb9 hk9 hcT hV => ?_)
  replace l_b1 := l_b1.gr hg
  replace l_b2 := l_b2.gr hg
  have o_b9 : cc_o M g b9 2 := ⟨hb9, hk9⟩
  clear hx hb9 hk9 hg hg0
  refine wc_as B (r := (RX2, TX2, 6)) (ci := 2) (xs := [b3, b4, b5, b6, b7, b8]) (X2 := [(a0, .inr (5, [.ref b1, .ref b2, .int 0, .int 0, .int 0, .int 0, .int 0])), (b1, .inl (cT 401, 12, .inr (.inr (.inr (.inr (fun j => ([b3, b4, b5, b6, b7, b8, b9] : List Nat)[j]?)))))), (b2, .inl (cT 402, 4, .inr (.inr (.inr (.inr (fun j => ([] : List Nat)[j]?))))))]) 1 4 401 [b3, b4, b5, b6, b7, b8, b9] rfl rfl o_b9 (by decide) rfl (show ¬ ((6 : Int32) < 0 ∨ 12 ≤ (6 : Int32).toNatClampNeg) by decide) rfl rfl rfl dX5_init_41 ?_
  replace l_b1 := l_b1.snoc o_b9
  clear o_b9
  refine wc_iinc B [(1, .int 7), (0, .ref a0)] 7 dX5_init_42 0 rfl (by decide) (by decide) rfl ?_
  refine wc_goto B 23 dX5_init_45 (by decide) ?_
  refine wc_iload_n B dX5_init_23 rfl 0 rfl ?_
  refine wc_bipush B 12 dX5_init_24 (by decide) ?_
  refine wc_ge B 48 dX5_init_26 (by decide) (fun c9 => absurd c9 (by decide)) (fun c9 => ?_)
  refine wc_aload_n B dX5_init_29 rfl 1 rfl ?_
  refine wc_get B (C := RX5) (T := TX5) (N := 7) iq_X5_init_X5 0 rfl rfl 0 (by decide) (by decide +kernel) rfl (v := .ref b1) rfl dX5_init_30 ?_
  refine wc_iload_n B dX5_init_33 rfl 0 rfl ?_
  refine wc_nw B (C := RX2) (T := TX2) (N := 6) (ci := 2) (fs := [.int 0, .int 0, .int 0, .int 0, .int 0, .int 0]) iq_X5_init_X2 tyX2 tyX2_ok (by decide +kernel) (by decide +kernel) (by decide +kernel) rfl (fun j hj => zz_defX2 j hj) (Nat.le_of_ble_eq_true rfl) (Nat.le_of_ble_eq_true rfl) dX5_init_34 (fun b10 => ?_)
  refine wc_dup B dX5_init_37 rfl ?_
  refine wc_initN B (As := []) (rest := [.ref b10, .int 7, .ref b1]) (X2 := [(a0, .inr (5, [.ref b1, .ref b2, .int 0, .int 0, .int 0, .int 0, .int 0])), (b1, .inl (cT 401, 12, .inr (.inr (.inr (.inr (fun j => ([b3, b4, b5, b6, b7, b8, b9] : List Nat)[j]?)))))), (b2, .inl (cT 402, 4, .inr (.inr (.inr (.inr (fun j => ([] : List Nat)[j]?))))))]) 3 rfl rfl (cc_X2 l dC dI cT b10) ⟨va_cnB 0 B.1.2.2.2.2 gX5_init_X2_init_n23 rfl rfl rfl B.2.2.2.1.n_RX5_23 (B.1.2.2.2.2 (.initialized RX2) (by decide +kernel)) (by decide +kernel) ⟨(Nat.le_of_ble_eq_true rfl), (Nat.le_of_ble_eq_true rfl)⟩, rfl, B.1.2.2.2.2 (.instanceMethod yX2_init) (by decide +kernel)⟩ hcT hV rfl rfl (Nat.le_of_ble_eq_true rfl) (Nat.le_of_ble_eq_true rfl) (Nat.le_of_ble_eq_true rfl) dX5_init_38 (fun M g r M0 g0 r0 hg hg0 hx hb9 hk9 hcT hV => ?_)
  replace l_b1 := l_b1.gr hg
  replace l_b2 := l_b2.gr hg
  have o_b10 : cc_o M g b10 2 := ⟨hb9, hk9⟩
  clear hx hb9 hk9 hg hg0
  refine wc_as B (r := (RX2, TX2, 6)) (ci := 2) (xs := [b3, b4, b5, b6, b7, b8, b9]) (X2 := [(a0, .inr (5, [.ref b1, .ref b2, .int 0, .int 0, .int 0, .int 0, .int 0])), (b1, .inl (cT 401, 12, .inr (.inr (.inr (.inr (fun j => ([b3, b4, b5, b6, b7, b8, b9, b10] : List Nat)[j]?)))))), (b2, .inl (cT 402, 4, .inr (.inr (.inr (.inr (fun j => ([] : List Nat)[j]?))))))]) 1 4 401 [b3, b4, b5, b6, b7, b8, b9, b10] rfl rfl o_b10 (by decide) rfl (show ¬ ((7 : Int32) < 0 ∨ 12 ≤ (7 : Int32).toNatClampNeg) by decide) rfl rfl rfl dX5_init_41 ?_
  replace l_b1 := l_b1.snoc o_b10
  clear o_b10
  refine wc_iinc B [(1, .int 8), (0, .ref a0)] 8 dX5_init_42 0 rfl (by decide) (by decide) rfl ?_
  refine wc_goto B 23 dX5_init_45 (by decide) ?_
  refine wc_iload_n B dX5_init_23 rfl 0 rfl ?_
  refine wc_bipush B 12 dX5_init_24 (by decide) ?_
  refine wc_ge B 48 dX5_init_26 (by decide) (fun c9 => absurd c9 (by decide)) (fun c9 => ?_)
  refine wc_aload_n B dX5_init_29 rfl 1 rfl ?_
  refine wc_get B (C := RX5) (T := TX5) (N := 7) iq_X5_init_X5 0 rfl rfl 0 (by decide) (by decide +kernel) rfl (v := .ref b1) rfl dX5_init_30 ?_
  refine wc_iload_n B dX5_init_33 rfl 0 rfl ?_
  refine wc_nw B (C := RX2) (T := TX2) (N := 6) (ci := 2) (fs := [.int 0, .int 0, .int 0, .int 0, .int 0, .int 0]) iq_X5_init_X2 tyX2 tyX2_ok (by decide +kernel) (by decide +kernel) (by decide +kernel) rfl (fun j hj => zz_defX2 j hj) (Nat.le_of_ble_eq_true rfl) (Nat.le_of_ble_eq_true rfl) dX5_init_34 (fun b11 => ?_)
  refine wc_dup B dX5_init_37 rfl ?_
  refine wc_initN B (As := []) (rest := [.ref b11, .int 8, .ref b1]) (X2 := [(a0, .inr (5, [.ref b1, .ref b2, .int 0, .int 0, .int 0, .int 0, .int 0])), (b1, .inl (cT 401, 12, .inr (.inr (.inr (.inr (fun j => ([b3, b4, b5, b6, b7, b8, b9, b10] : List Nat)[j]?)))))), (b2, .inl (cT 402, 4, .inr (.inr (.inr (.inr (fun j => ([] : List Nat)[j]?))))))]) 3 rfl rfl (cc_X2 l dC dI cT b11) ⟨va_cnB 0 B.1.2.2.2.2 gX5_init_X2_init_n23 rfl rfl rfl B.2.2.2.1.n_RX5_23 (B.1.2.2.2.2 (.initialized RX2) (by decide +kernel)) (by decide +kernel) ⟨(Nat.le_of_ble_eq_true rfl), (Nat.le_of_ble_eq_true rfl)⟩, rfl, B.1.2.2.2.2 (.instanceMethod yX2_init) (by decide +kernel)⟩ hcT hV rfl rfl (Nat.le_of_ble_eq_true rfl) (Nat.le_of_ble_eq_true rfl) (Nat.le_of_ble_eq_true rfl) dX5_init_38 (fun M g r M0 g0 r0 hg hg0 hx hb9 hk9 hcT hV => ?_)
  replace l_b1 := l_b1.gr hg
  replace l_b2 := l_b2.gr hg
  have o_b11 : cc_o M g b11 2 := ⟨hb9, hk9⟩
  clear hx hb9 hk9 hg hg0
  refine wc_as B (r := (RX2, TX2, 6)) (ci := 2) (xs := [b3, b4, b5, b6, b7, b8, b9, b10]) (X2 := [(a0, .inr (5, [.ref b1, .ref b2, .int 0, .int 0, .int 0, .int 0, .int 0])), (b1, .inl (cT 401, 12, .inr (.inr (.inr (.inr (fun j => ([b3, b4, b5, b6, b7, b8, b9, b10, b11] : List Nat)[j]?)))))), (b2, .inl (cT 402, 4, .inr (.inr (.inr (.inr (fun j => ([] : List Nat)[j]?))))))]) 1 4 401 [b3, b4, b5, b6, b7, b8, b9, b10, b11] rfl rfl o_b11 (by decide) rfl (show ¬ ((8 : Int32) < 0 ∨ 12 ≤ (8 : Int32).toNatClampNeg) by decide) rfl rfl rfl dX5_init_41 ?_
  replace l_b1 := l_b1.snoc o_b11
  clear o_b11
  refine wc_iinc B [(1, .int 9), (0, .ref a0)] 9 dX5_init_42 0 rfl (by decide) (by decide) rfl ?_
  refine wc_goto B 23 dX5_init_45 (by decide) ?_
  refine wc_iload_n B dX5_init_23 rfl 0 rfl ?_
  refine wc_bipush B 12 dX5_init_24 (by decide) ?_
  refine wc_ge B 48 dX5_init_26 (by decide) (fun c9 => absurd c9 (by decide)) (fun c9 => ?_)
  refine wc_aload_n B dX5_init_29 rfl 1 rfl ?_
  refine wc_get B (C := RX5) (T := TX5) (N := 7) iq_X5_init_X5 0 rfl rfl 0 (by decide) (by decide +kernel) rfl (v := .ref b1) rfl dX5_init_30 ?_
  refine wc_iload_n B dX5_init_33 rfl 0 rfl ?_
  refine wc_nw B (C := RX2) (T := TX2) (N := 6) (ci := 2) (fs := [.int 0, .int 0, .int 0, .int 0, .int 0, .int 0]) iq_X5_init_X2 tyX2 tyX2_ok (by decide +kernel) (by decide +kernel) (by decide +kernel) rfl (fun j hj => zz_defX2 j hj) (Nat.le_of_ble_eq_true rfl) (Nat.le_of_ble_eq_true rfl) dX5_init_34 (fun b12 => ?_)
  refine wc_dup B dX5_init_37 rfl ?_
  refine wc_initN B (As := []) (rest := [.ref b12, .int 9, .ref b1]) (X2 := [(a0, .inr (5, [.ref b1, .ref b2, .int 0, .int 0, .int 0, .int 0, .int 0])), (b1, .inl (cT 401, 12, .inr (.inr (.inr (.inr (fun j => ([b3, b4, b5, b6, b7, b8, b9, b10, b11] : List Nat)[j]?)))))), (b2, .inl (cT 402, 4, .inr (.inr (.inr (.inr (fun j => ([] : List Nat)[j]?))))))]) 3 rfl rfl (cc_X2 l dC dI cT b12) ⟨va_cnB 0 B.1.2.2.2.2 gX5_init_X2_init_n23 rfl rfl rfl B.2.2.2.1.n_RX5_23 (B.1.2.2.2.2 (.initialized RX2) (by decide +kernel)) (by decide +kernel) ⟨(Nat.le_of_ble_eq_true rfl), (Nat.le_of_ble_eq_true rfl)⟩, rfl, B.1.2.2.2.2 (.instanceMethod yX2_init) (by decide +kernel)⟩ hcT hV rfl rfl (Nat.le_of_ble_eq_true rfl) (Nat.le_of_ble_eq_true rfl) (Nat.le_of_ble_eq_true rfl) dX5_init_38 (fun M g r M0 g0 r0 hg hg0 hx hb9 hk9 hcT hV => ?_)
  replace l_b1 := l_b1.gr hg
  replace l_b2 := l_b2.gr hg
  have o_b12 : cc_o M g b12 2 := ⟨hb9, hk9⟩
  clear hx hb9 hk9 hg hg0
  refine wc_as B (r := (RX2, TX2, 6)) (ci := 2) (xs := [b3, b4, b5, b6, b7, b8, b9, b10, b11]) (X2 := [(a0, .inr (5, [.ref b1, .ref b2, .int 0, .int 0, .int 0, .int 0, .int 0])), (b1, .inl (cT 401, 12, .inr (.inr (.inr (.inr (fun j => ([b3, b4, b5, b6, b7, b8, b9, b10, b11, b12] : List Nat)[j]?)))))), (b2, .inl (cT 402, 4, .inr (.inr (.inr (.inr (fun j => ([] : List Nat)[j]?))))))]) 1 4 401 [b3, b4, b5, b6, b7, b8, b9, b10, b11, b12] rfl rfl o_b12 (by decide) rfl (show ¬ ((9 : Int32) < 0 ∨ 12 ≤ (9 : Int32).toNatClampNeg) by decide) rfl rfl rfl dX5_init_41 ?_
  replace l_b1 := l_b1.snoc o_b12
  clear o_b12
  refine wc_iinc B [(1, .int 10), (0, .ref a0)] 10 dX5_init_42 0 rfl (by decide) (by decide) rfl ?_
  refine wc_goto B 23 dX5_init_45 (by decide) ?_
  refine wc_iload_n B dX5_init_23 rfl 0 rfl ?_
  refine wc_bipush B 12 dX5_init_24 (by decide) ?_
  refine wc_ge B 48 dX5_init_26 (by decide) (fun c9 => absurd c9 (by decide)) (fun c9 => ?_)
  refine wc_aload_n B dX5_init_29 rfl 1 rfl ?_
  refine wc_get B (C := RX5) (T := TX5) (N := 7) iq_X5_init_X5 0 rfl rfl 0 (by decide) (by decide +kernel) rfl (v := .ref b1) rfl dX5_init_30 ?_
  refine wc_iload_n B dX5_init_33 rfl 0 rfl ?_
  refine wc_nw B (C := RX2) (T := TX2) (N := 6) (ci := 2) (fs := [.int 0, .int 0, .int 0, .int 0, .int 0, .int 0]) iq_X5_init_X2 tyX2 tyX2_ok (by decide +kernel) (by decide +kernel) (by decide +kernel) rfl (fun j hj => zz_defX2 j hj) (Nat.le_of_ble_eq_true rfl) (Nat.le_of_ble_eq_true rfl) dX5_init_34 (fun b13 => ?_)
  refine wc_dup B dX5_init_37 rfl ?_
  refine wc_initN B (As := []) (rest := [.ref b13, .int 10, .ref b1]) (X2 := [(a0, .inr (5, [.ref b1, .ref b2, .int 0, .int 0, .int 0, .int 0, .int 0])), (b1, .inl (cT 401, 12, .inr (.inr (.inr (.inr (fun j => ([b3, b4, b5, b6, b7, b8, b9, b10, b11, b12] : List Nat)[j]?)))))), (b2, .inl (cT 402, 4, .inr (.inr (.inr (.inr (fun j => ([] : List Nat)[j]?))))))]) 3 rfl rfl (cc_X2 l dC dI cT b13) ⟨va_cnB 0 B.1.2.2.2.2 gX5_init_X2_init_n23 rfl rfl rfl B.2.2.2.1.n_RX5_23 (B.1.2.2.2.2 (.initialized RX2) (by decide +kernel)) (by decide +kernel) ⟨(Nat.le_of_ble_eq_true rfl), (Nat.le_of_ble_eq_true rfl)⟩, rfl, B.1.2.2.2.2 (.instanceMethod yX2_init) (by decide +kernel)⟩ hcT hV rfl rfl (Nat.le_of_ble_eq_true rfl) (Nat.le_of_ble_eq_true rfl) (Nat.le_of_ble_eq_true rfl) dX5_init_38 (fun M g r M0 g0 r0 hg hg0 hx hb9 hk9 hcT hV => ?_)
  replace l_b1 := l_b1.gr hg
  replace l_b2 := l_b2.gr hg
  have o_b13 : cc_o M g b13 2 := ⟨hb9, hk9⟩
  clear hx hb9 hk9 hg hg0
  refine wc_as B (r := (RX2, TX2, 6)) (ci := 2) (xs := [b3, b4, b5, b6, b7, b8, b9, b10, b11, b12]) (X2 := [(a0, .inr (5, [.ref b1, .ref b2, .int 0, .int 0, .int 0, .int 0, .int 0])), (b1, .inl (cT 401, 12, .inr (.inr (.inr (.inr (fun j => ([b3, b4, b5, b6, b7, b8, b9, b10, b11, b12, b13] : List Nat)[j]?)))))), (b2, .inl (cT 402, 4, .inr (.inr (.inr (.inr (fun j => ([] : List Nat)[j]?))))))]) 1 4 401 [b3, b4, b5, b6, b7, b8, b9, b10, b11, b12, b13] rfl rfl o_b13 (by decide) rfl (show ¬ ((10 : Int32) < 0 ∨ 12 ≤ (10 : Int32).toNatClampNeg) by decide) rfl rfl rfl dX5_init_41 ?_
  replace l_b1 := l_b1.snoc o_b13
  clear o_b13
  refine wc_iinc B [(1, .int 11), (0, .ref a0)] 11 dX5_init_42 0 rfl (by decide) (by decide) rfl ?_
  refine wc_goto B 23 dX5_init_45 (by decide) ?_
  refine wc_iload_n B dX5_init_23 rfl 0 rfl ?_
  refine wc_bipush B 12 dX5_init_24 (by decide) ?_
  refine wc_ge B 48 dX5_init_26 (by decide) (fun c9 => absurd c9 (by decide)) (fun c9 => ?_)
  refine wc_aload_n B dX5_init_29 rfl 1 rfl ?_
  refine wc_get B (C := RX5) (T := TX5) (N := 7) iq_X5_init_X5 0 rfl rfl 0 (by decide) (by decide +kernel) rfl (v := .ref b1) rfl dX5_init_30 ?_
  refine wc_iload_n B dX5_init_33 rfl 0 rfl ?_
  refine wc_nw B (C := RX2) (T := TX2) (N := 6) (ci := 2) (fs := [.int 0, .int 0, .int 0, .int 0, .int 0, .int 0]) iq_X5_init_X2 tyX2 tyX2_ok (by decide +kernel) (by decide +kernel) (by decide +kernel) rfl (fun j hj => zz_defX2 j hj) (Nat.le_of_ble_eq_true rfl) (Nat.le_of_ble_eq_true rfl) dX5_init_34 (fun b14 => ?_)
  refine wc_dup B dX5_init_37 rfl ?_
  refine wc_initN B (As := []) (rest := [.ref b14, .int 11, .ref b1]) (X2 := [(a0, .inr (5, [.ref b1, .ref b2, .int 0, .int 0, .int 0, .int 0, .int 0])), (b1, .inl (cT 401, 12, .inr (.inr (.inr (.inr (fun j => ([b3, b4, b5, b6, b7, b8, b9, b10, b11, b12, b13] : List Nat)[j]?)))))), (b2, .inl (cT 402, 4, .inr (.inr (.inr (.inr (fun j => ([] : List Nat)[j]?))))))]) 3 rfl rfl (cc_X2 l dC dI cT b14) ⟨va_cnB 0 B.1.2.2.2.2 gX5_init_X2_init_n23 rfl rfl rfl B.2.2.2.1.n_RX5_23 (B.1.2.2.2.2 (.initialized RX2) (by decide +kernel)) (by decide +kernel) ⟨(Nat.le_of_ble_eq_true rfl), (Nat.le_of_ble_eq_true rfl)⟩, rfl, B.1.2.2.2.2 (.instanceMethod yX2_init) (by decide +kernel)⟩ hcT hV rfl rfl (Nat.le_of_ble_eq_true rfl) (Nat.le_of_ble_eq_true rfl) (Nat.le_of_ble_eq_true rfl) dX5_init_38 (fun M g r M0 g0 r0 hg hg0 hx hb9 hk9 hcT hV => ?_)
  replace l_b1 := l_b1.gr hg
  replace l_b2 := l_b2.gr hg
  have o_b14 : cc_o M g b14 2 := ⟨hb9, hk9⟩
  clear hx hb9 hk9 hg hg0
  refine wc_as B (r := (RX2, TX2, 6)) (ci := 2) (xs := [b3, b4, b5, b6, b7, b8, b9, b10, b11, b12, b13]) (X2 := [(a0, .inr (5, [.ref b1, .ref b2, .int 0, .int 0, .int 0, .int 0, .int 0])), (b1, .inl (cT 401, 12, .inr (.inr (.inr (.inr (fun j => ([b3, b4, b5, b6, b7, b8, b9, b10, b11, b12, b13, b14] : List Nat)[j]?)))))), (b2, .inl (cT 402, 4, .inr (.inr (.inr (.inr (fun j => ([] : List Nat)[j]?))))))]) 1 4 401 [b3, b4, b5, b6, b7, b8, b9, b10, b11, b12, b13, b14] rfl rfl o_b14 (by decide) rfl (show ¬ ((11 : Int32) < 0 ∨ 12 ≤ (11 : Int32).toNatClampNeg) by decide) rfl rfl rfl dX5_init_41 ?_
  replace l_b1 := l_b1.snoc o_b14
  clear o_b14
  refine wc_iinc B [(1, .int 12), (0, .ref a0)] 12 dX5_init_42 0 rfl (by decide) (by decide) rfl ?_
  refine wc_goto B 23 dX5_init_45 (by decide) ?_
  refine wc_iload_n B dX5_init_23 rfl 0 rfl ?_
  refine wc_bipush B 12 dX5_init_24 (by decide) ?_
  refine wc_ge B 48 dX5_init_26 (by decide) (fun c9 => ?_) (fun c9 => absurd (by decide) c9)
  refine wc_iconst B 0 dX5_init_48 (by decide) ?_
  refine wc_istore_n B [(1, .int 0), (0, .ref a0)] dX5_init_49 rfl (by decide) rfl ?_
  refine wc_iload_n B dX5_init_50 rfl 0 rfl ?_
  refine wc_iconst B 4 dX5_init_51 (by decide) ?_
  refine wc_ge B 74 dX5_init_52 (by decide) (fun c9 => absurd c9 (by decide)) (fun c9 => ?_)
  refine wc_aload_n B dX5_init_55 rfl 1 rfl ?_
  refine wc_get B (C := RX5) (T := TX5) (N := 7) iq_X5_init_X5 0 rfl rfl 1 (by decide) (by decide +kernel) rfl (v := .ref b2) rfl dX5_init_56 ?_
  refine wc_iload_n B dX5_init_59 rfl 0 rfl ?_
  refine wc_nw B (C := RX1) (T := TX1) (N := 7) (ci := 1) (fs := [.int 0, .int 0, .int 0, .int 0, .int 0, .int 0, .int 0]) iq_X5_init_X1 tyX1 tyX1_ok (by decide +kernel) (by decide +kernel) (by decide +kernel) rfl (fun j hj => zz_defX1 j hj) (Nat.le_of_ble_eq_true rfl) (Nat.le_of_ble_eq_true rfl) dX5_init_60 (fun b15 => ?_)
  refine wc_dup B dX5_init_63 rfl ?_
  refine wc_initN B (As := []) (rest := [.ref b15, .int 0, .ref b2]) (X2 := [(a0, .inr (5, [.ref b1, .ref b2, .int 0, .int 0, .int 0, .int 0, .int 0])), (b1, .inl (cT 401, 12, .inr (.inr (.inr (.inr (fun j => ([b3, b4, b5, b6, b7, b8, b9, b10, b11, b12, b13, b14] : List Nat)[j]?)))))), (b2, .inl (cT 402, 4, .inr (.inr (.inr (.inr (fun j => ([] : List Nat)[j]?))))))]) 3 rfl rfl (cc_X1 l dC dI cT b15) ⟨va_cnB 0 B.1.2.2.2.2 gX5_init_X1_init_n24 rfl rfl rfl B.2.2.2.1.n_RX5_24 (B.1.2.2.2.2 (.initialized RX1) (by decide +kernel)) (by decide +kernel) ⟨(Nat.le_of_ble_eq_true rfl), (Nat.le_of_ble_eq_true rfl)⟩, rfl, B.1.2.2.2.2 (.instanceMethod yX1_init) (by decide +kernel)⟩ hcT hV rfl rfl (Nat.le_of_ble_eq_true rfl) (Nat.le_of_ble_eq_true rfl) (Nat.le_of_ble_eq_true rfl) dX5_init_64 (fun M g r M0 g0 r0 hg hg0 hx hb9 hk9 hcT hV => ?_)
  replace l_b1 := l_b1.gr hg
  replace l_b2 := l_b2.gr hg
  have o_b15 : cc_o M g b15 1 := ⟨hb9, hk9⟩
  clear hx hb9 hk9 hg hg0
  refine wc_as B (r := (RX1, TX1, 7)) (ci := 1) (xs := []) (X2 := [(a0, .inr (5, [.ref b1, .ref b2, .int 0, .int 0, .int 0, .int 0, .int 0])), (b1, .inl (cT 401, 12, .inr (.inr (.inr (.inr (fun j => ([b3, b4, b5, b6, b7, b8, b9, b10, b11, b12, b13, b14] : List Nat)[j]?)))))), (b2, .inl (cT 402, 4, .inr (.inr (.inr (.inr (fun j => ([b15] : List Nat)[j]?))))))]) 2 5 402 [b15] rfl rfl o_b15 (by decide) rfl (show ¬ ((0 : Int32) < 0 ∨ 4 ≤ (0 : Int32).toNatClampNeg) by decide) rfl rfl rfl dX5_init_67 ?_
  replace l_b2 := l_b2.snoc o_b15
  clear o_b15
  refine wc_iinc B [(1, .int 1), (0, .ref a0)] 1 dX5_init_68 0 rfl (by decide) (by decide) rfl ?_
  refine wc_goto B 50 dX5_init_71 (by decide) ?_
  refine wc_iload_n B dX5_init_50 rfl 0 rfl ?_
  refine wc_iconst B 4 dX5_init_51 (by decide) ?_
  refine wc_ge B 74 dX5_init_52 (by decide) (fun c9 => absurd c9 (by decide)) (fun c9 => ?_)
  refine wc_aload_n B dX5_init_55 rfl 1 rfl ?_
  refine wc_get B (C := RX5) (T := TX5) (N := 7) iq_X5_init_X5 0 rfl rfl 1 (by decide) (by decide +kernel) rfl (v := .ref b2) rfl dX5_init_56 ?_
  refine wc_iload_n B dX5_init_59 rfl 0 rfl ?_
  refine wc_nw B (C := RX1) (T := TX1) (N := 7) (ci := 1) (fs := [.int 0, .int 0, .int 0, .int 0, .int 0, .int 0, .int 0]) iq_X5_init_X1 tyX1 tyX1_ok (by decide +kernel) (by decide +kernel) (by decide +kernel) rfl (fun j hj => zz_defX1 j hj) (Nat.le_of_ble_eq_true rfl) (Nat.le_of_ble_eq_true rfl) dX5_init_60 (fun b16 => ?_)
  refine wc_dup B dX5_init_63 rfl ?_
  refine wc_initN B (As := []) (rest := [.ref b16, .int 1, .ref b2]) (X2 := [(a0, .inr (5, [.ref b1, .ref b2, .int 0, .int 0, .int 0, .int 0, .int 0])), (b1, .inl (cT 401, 12, .inr (.inr (.inr (.inr (fun j => ([b3, b4, b5, b6, b7, b8, b9, b10, b11, b12, b13, b14] : List Nat)[j]?)))))), (b2, .inl (cT 402, 4, .inr (.inr (.inr (.inr (fun j => ([b15] : List Nat)[j]?))))))]) 3 rfl rfl (cc_X1 l dC dI cT b16) ⟨va_cnB 0 B.1.2.2.2.2 gX5_init_X1_init_n24 rfl rfl rfl B.2.2.2.1.n_RX5_24 (B.1.2.2.2.2 (.initialized RX1) (by decide +kernel)) (by decide +kernel) ⟨(Nat.le_of_ble_eq_true rfl), (Nat.le_of_ble_eq_true rfl)⟩, rfl, B.1.2.2.2.2 (.instanceMethod yX1_init) (by decide +kernel)⟩ hcT hV rfl rfl (Nat.le_of_ble_eq_true rfl) (Nat.le_of_ble_eq_true rfl) (Nat.le_of_ble_eq_true rfl) dX5_init_64 (fun M g r M0 g0 r0 hg hg0 hx hb9 hk9 hcT hV => ?_)
  replace l_b1 := l_b1.gr hg
  replace l_b2 := l_b2.gr hg
  have o_b16 : cc_o M g b16 1 := ⟨hb9, hk9⟩
  clear hx hb9 hk9 hg hg0
  refine wc_as B (r := (RX1, TX1, 7)) (ci := 1) (xs := [b15]) (X2 := [(a0, .inr (5, [.ref b1, .ref b2, .int 0, .int 0, .int 0, .int 0, .int 0])), (b1, .inl (cT 401, 12, .inr (.inr (.inr (.inr (fun j => ([b3, b4, b5, b6, b7, b8, b9, b10, b11, b12, b13, b14] : List Nat)[j]?)))))), (b2, .inl (cT 402, 4, .inr (.inr (.inr (.inr (fun j => ([b15, b16] : List Nat)[j]?))))))]) 2 5 402 [b15, b16] rfl rfl o_b16 (by decide) rfl (show ¬ ((1 : Int32) < 0 ∨ 4 ≤ (1 : Int32).toNatClampNeg) by decide) rfl rfl rfl dX5_init_67 ?_
  replace l_b2 := l_b2.snoc o_b16
  clear o_b16
  refine wc_iinc B [(1, .int 2), (0, .ref a0)] 2 dX5_init_68 0 rfl (by decide) (by decide) rfl ?_
  refine wc_goto B 50 dX5_init_71 (by decide) ?_
  refine wc_iload_n B dX5_init_50 rfl 0 rfl ?_
  refine wc_iconst B 4 dX5_init_51 (by decide) ?_
  refine wc_ge B 74 dX5_init_52 (by decide) (fun c9 => absurd c9 (by decide)) (fun c9 => ?_)
  refine wc_aload_n B dX5_init_55 rfl 1 rfl ?_
  refine wc_get B (C := RX5) (T := TX5) (N := 7) iq_X5_init_X5 0 rfl rfl 1 (by decide) (by decide +kernel) rfl (v := .ref b2) rfl dX5_init_56 ?_
  refine wc_iload_n B dX5_init_59 rfl 0 rfl ?_
  refine wc_nw B (C := RX1) (T := TX1) (N := 7) (ci := 1) (fs := [.int 0, .int 0, .int 0, .int 0, .int 0, .int 0, .int 0]) iq_X5_init_X1 tyX1 tyX1_ok (by decide +kernel) (by decide +kernel) (by decide +kernel) rfl (fun j hj => zz_defX1 j hj) (Nat.le_of_ble_eq_true rfl) (Nat.le_of_ble_eq_true rfl) dX5_init_60 (fun b17 => ?_)
  refine wc_dup B dX5_init_63 rfl ?_
  refine wc_initN B (As := []) (rest := [.ref b17, .int 2, .ref b2]) (X2 := [(a0, .inr (5, [.ref b1, .ref b2, .int 0, .int 0, .int 0, .int 0, .int 0])), (b1, .inl (cT 401, 12, .inr (.inr (.inr (.inr (fun j => ([b3, b4, b5, b6, b7, b8, b9, b10, b11, b12, b13, b14] : List Nat)[j]?)))))), (b2, .inl (cT 402, 4, .inr (.inr (.inr (.inr (fun j => ([b15, b16] : List Nat)[j]?))))))]) 3 rfl rfl (cc_X1 l dC dI cT b17) ⟨va_cnB 0 B.1.2.2.2.2 gX5_init_X1_init_n24 rfl rfl rfl B.2.2.2.1.n_RX5_24 (B.1.2.2.2.2 (.initialized RX1) (by decide +kernel)) (by decide +kernel) ⟨(Nat.le_of_ble_eq_true rfl), (Nat.le_of_ble_eq_true rfl)⟩, rfl, B.1.2.2.2.2 (.instanceMethod yX1_init) (by decide +kernel)⟩ hcT hV rfl rfl (Nat.le_of_ble_eq_true rfl) (Nat.le_of_ble_eq_true rfl) (Nat.le_of_ble_eq_true rfl) dX5_init_64 (fun M g r M0 g0 r0 hg hg0 hx hb9 hk9 hcT hV => ?_)
  replace l_b1 := l_b1.gr hg
  replace l_b2 := l_b2.gr hg
  have o_b17 : cc_o M g b17 1 := ⟨hb9, hk9⟩
  clear hx hb9 hk9 hg hg0
  refine wc_as B (r := (RX1, TX1, 7)) (ci := 1) (xs := [b15, b16]) (X2 := [(a0, .inr (5, [.ref b1, .ref b2, .int 0, .int 0, .int 0, .int 0, .int 0])), (b1, .inl (cT 401, 12, .inr (.inr (.inr (.inr (fun j => ([b3, b4, b5, b6, b7, b8, b9, b10, b11, b12, b13, b14] : List Nat)[j]?)))))), (b2, .inl (cT 402, 4, .inr (.inr (.inr (.inr (fun j => ([b15, b16, b17] : List Nat)[j]?))))))]) 2 5 402 [b15, b16, b17] rfl rfl o_b17 (by decide) rfl (show ¬ ((2 : Int32) < 0 ∨ 4 ≤ (2 : Int32).toNatClampNeg) by decide) rfl rfl rfl dX5_init_67 ?_
  replace l_b2 := l_b2.snoc o_b17
  clear o_b17
  refine wc_iinc B [(1, .int 3), (0, .ref a0)] 3 dX5_init_68 0 rfl (by decide) (by decide) rfl ?_
  refine wc_goto B 50 dX5_init_71 (by decide) ?_
  refine wc_iload_n B dX5_init_50 rfl 0 rfl ?_
  refine wc_iconst B 4 dX5_init_51 (by decide) ?_
  refine wc_ge B 74 dX5_init_52 (by decide) (fun c9 => absurd c9 (by decide)) (fun c9 => ?_)
  refine wc_aload_n B dX5_init_55 rfl 1 rfl ?_
  refine wc_get B (C := RX5) (T := TX5) (N := 7) iq_X5_init_X5 0 rfl rfl 1 (by decide) (by decide +kernel) rfl (v := .ref b2) rfl dX5_init_56 ?_
  refine wc_iload_n B dX5_init_59 rfl 0 rfl ?_
  refine wc_nw B (C := RX1) (T := TX1) (N := 7) (ci := 1) (fs := [.int 0, .int 0, .int 0, .int 0, .int 0, .int 0, .int 0]) iq_X5_init_X1 tyX1 tyX1_ok (by decide +kernel) (by decide +kernel) (by decide +kernel) rfl (fun j hj => zz_defX1 j hj) (Nat.le_of_ble_eq_true rfl) (Nat.le_of_ble_eq_true rfl) dX5_init_60 (fun b18 => ?_)
  refine wc_dup B dX5_init_63 rfl ?_
  refine wc_initN B (As := []) (rest := [.ref b18, .int 3, .ref b2]) (X2 := [(a0, .inr (5, [.ref b1, .ref b2, .int 0, .int 0, .int 0, .int 0, .int 0])), (b1, .inl (cT 401, 12, .inr (.inr (.inr (.inr (fun j => ([b3, b4, b5, b6, b7, b8, b9, b10, b11, b12, b13, b14] : List Nat)[j]?)))))), (b2, .inl (cT 402, 4, .inr (.inr (.inr (.inr (fun j => ([b15, b16, b17] : List Nat)[j]?))))))]) 3 rfl rfl (cc_X1 l dC dI cT b18) ⟨va_cnB 0 B.1.2.2.2.2 gX5_init_X1_init_n24 rfl rfl rfl B.2.2.2.1.n_RX5_24 (B.1.2.2.2.2 (.initialized RX1) (by decide +kernel)) (by decide +kernel) ⟨(Nat.le_of_ble_eq_true rfl), (Nat.le_of_ble_eq_true rfl)⟩, rfl, B.1.2.2.2.2 (.instanceMethod yX1_init) (by decide +kernel)⟩ hcT hV rfl rfl (Nat.le_of_ble_eq_true rfl) (Nat.le_of_ble_eq_true rfl) (Nat.le_of_ble_eq_true rfl) dX5_init_64 (fun M g r M0 g0 r0 hg hg0 hx hb9 hk9 hcT hV => ?_)
  replace l_b1 := l_b1.gr hg
  replace l_b2 := l_b2.gr hg
  have o_b18 : cc_o M g b18 1 := ⟨hb9, hk9⟩
  clear hx hb9 hk9 hg hg0
  refine wc_as B (r := (RX1, TX1, 7)) (ci := 1) (xs := [b15, b16, b17]) (X2 := [(a0, .inr (5, [.ref b1, .ref b2, .int 0, .int 0, .int 0, .int 0, .int 0])), (b1, .inl (cT 401, 12, .inr (.inr (.inr (.inr (fun j => ([b3, b4, b5, b6, b7, b8, b9, b10, b11, b12, b13, b14] : List Nat)[j]?)))))), (b2, .inl (cT 402, 4, .inr (.inr (.inr (.inr (fun j => ([b15, b16, b17, b18] : List Nat)[j]?))))))]) 2 5 402 [b15, b16, b17, b18] rfl rfl o_b18 (by decide) rfl (show ¬ ((3 : Int32) < 0 ∨ 4 ≤ (3 : Int32).toNatClampNeg) by decide) rfl rfl rfl dX5_init_67 ?_
  replace l_b2 := l_b2.snoc o_b18
  clear o_b18
  refine wc_iinc B [(1, .int 4), (0, .ref a0)] 4 dX5_init_68 0 rfl (by decide) (by decide) rfl ?_
  refine wc_goto B 50 dX5_init_71 (by decide) ?_
  refine wc_iload_n B dX5_init_50 rfl 0 rfl ?_
  refine wc_iconst B 4 dX5_init_51 (by decide) ?_
  refine wc_ge B 74 dX5_init_52 (by decide) (fun c9 => ?_) (fun c9 => absurd (by decide) c9)
  refine wc_layL (X2 := [(a0, .inr (5, [.ref b1, .ref b2, .int 0, .int 0, .int 0, .int 0, .int 0])), (b2, .inl (cT 402, 4, .inr (.inr (.inr (.inr (fun j => ([b15, b16, b17, b18] : List Nat)[j]?))))))]) 1 (xs := [b3, b4, b5, b6, b7, b8, b9, b10, b11, b12, b13, b14]) rfl rfl (by decide) (by decide) hcT hV rfl (by decide) (K2 := 2) rfl l_b1 (fun M g r hg y_b1 hcT hV => ?_)
  replace l_b2 := l_b2.gr hg
  clear hg
  refine wc_layL (X2 := [(a0, .inr (5, [.ref b1, .ref b2, .int 0, .int 0, .int 0, .int 0, .int 0]))]) 1 (xs := [b15, b16, b17, b18]) rfl rfl (by decide) (by decide) hcT hV rfl (by decide) (K2 := 1) rfl l_b2 (fun M g r hg y_b2 hcT hV => ?_)
  replace y_b1 := y_b1.gr hg
  clear hg
  refine wc_layO (X2 := []) 0 rfl rfl (by decide) 0 (fun k => ([b1, b2, 0, 0, 0, 0, 0] : List Nat).getD k 0) rfl hcT hV (by decide) [0, 1] (by decide +kernel) (List.forall_mem_cons.mpr ⟨⟨y_b1.1, y_b1.2.1, fun _ => y_b1.2.2⟩, (List.forall_mem_cons.mpr ⟨⟨y_b2.1, y_b2.2.1, fun _ => y_b2.2.2⟩, (fun _ h => absurd h List.not_mem_nil)⟩)⟩) (fun M g r hg yy hcT hV e1 e3 => ?_)
  exact wc_end (mc := 18) (ms := 116) (ex := fun _ => True) ret dX5_init_74 hcT hV ⟨yy.1, yy.2.1⟩ trivial (Nat.le_of_ble_eq_true rfl) (Nat.le_of_ble_eq_true rfl)
