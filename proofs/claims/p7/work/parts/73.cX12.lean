theorem iq_X12_init_X12 : ∀ w ∈ wsX120, w ∈ wsX12_init := fun _ h => List.mem_cons_of_mem _ (List.mem_append_right _ h)
set_option maxHeartbeats 4000000 in
set_option maxRecDepth 100000 in
theorem cc_X12 (l : Launch) (dC : Nat → ClassId) (dI : Nat → Nat → Nat) (cT : Nat → ClassId) (a0 : Nat) : CCI l dC dI cT yX12_init wsX12_init ({ frames := 1, cells := 25, slots := 9770, locals := 15 } : Room) 12 [.int 0, .null, .int 0, .null, .int 0, .int 0, .int 0, .int 0, .int 0, .int 0, .int 0, .long 0, .int 0, .int 0, .int 0, .int 0, .null, .null, .null, .null, .int 0, .null, .int 0, .null, .null, .null, .null, .null, .null, .null, .null, .int 0, .int 0, .int 0, .null, .null, .int 0, .int 0, .long 0, .long 0, .null, .null, .null, .null, .null, .int 0, .null, .null, .null, .int 0, .int 0] [] a0 (fun u => a0 ∈ u.1 ∧ (∀ k, u.2.2.1 a0 k = 0) ∧ cc_z u.1 u.2.2 (u.2.2.2.2.1 a0 17) ∧ cc_z u.1 u.2.2 (u.2.2.2.2.1 a0 18) ∧ cc_z u.1 u.2.2 (u.2.2.2.2.1 a0 23)) 25 9770 := by
  refine cc_v (cc := cX12_init) (own := RX12) (mL := 1) (by decide) rfl rfl rfl (Nat.le_of_ble_eq_true rfl) ?_
  intro sz Z hlt hsz B ret
  have hcT : (cc_h0 cT).2.2.1 = cT := rfl
  have hV : sx_V (cc_h0 cT) [] cc_q0 := cc_V0
  refine wc_aload_n B dX12_init_0 rfl 0 rfl ?_
  refine wc_objInit B (by decide +kernel) (by decide +kernel) (by decide +kernel) (Nat.le_of_ble_eq_true rfl) (Nat.le_of_ble_eq_true rfl) dX12_init_1 ?_
  refine wc_aload_n B dX12_init_4 rfl 0 rfl ?_
  refine wc_sipush B 440 dX12_init_5 (by decide) ?_
  refine wc_nI B 111 440 (by decide) (by decide) hcT hV (by decide +kernel) (by decide) (by decide) (by decide) (Nat.le_of_ble_eq_true rfl) (Nat.le_of_ble_eq_true rfl) dX12_init_8 (fun b1 M g r hg y_b1 z_b1 hcT hV => ?_)
  clear z_b1
  refine wc_putF B (C := RX12) (T := TX12) (N := 51) (X2 := [(a0, .inr (12, [.int 0, .ref b1, .int 0, .null, .int 0, .int 0, .int 0, .int 0, .int 0, .int 0, .int 0, .long 0, .int 0, .int 0, .int 0, .int 0, .null, .null, .null, .null, .int 0, .null, .int 0, .null, .null, .null, .null, .null, .null, .null, .null, .int 0, .int 0, .int 0, .null, .null, .int 0, .int 0, .long 0, .long 0, .null, .null, .null, .null, .null, .int 0, .null, .null, .null, .int 0, .int 0]))]) iq_X12_init_X12 0 rfl rfl 1 (by decide) (by decide +kernel) rfl (v := .ref b1) (ty := (.array .int)) tyX12 tyX12_ok nmX12 rfl rfl (by decide +kernel) rfl rfl (Nat.le_of_ble_eq_true rfl) rfl dX12_init_10 ?_
  refine wc_aload_n B dX12_init_13 rfl 0 rfl ?_
  refine wc_sipush B 500 dX12_init_14 (by decide) ?_
  refine wc_nI B 113 500 (by decide) (by decide) hcT hV (by decide +kernel) (by decide) (by decide) (by decide) (Nat.le_of_ble_eq_true rfl) (Nat.le_of_ble_eq_true rfl) dX12_init_17 (fun b2 M g r hg y_b2 z_b2 hcT hV => ?_)
  replace y_b1 := y_b1.gr hg
  clear z_b2
  refine wc_putF B (C := RX12) (T := TX12) (N := 51) (X2 := [(a0, .inr (12, [.int 0, .ref b1, .int 0, .ref b2, .int 0, .int 0, .int 0, .int 0, .int 0, .int 0, .int 0, .long 0, .int 0, .int 0, .int 0, .int 0, .null, .null, .null, .null, .int 0, .null, .int 0, .null, .null, .null, .null, .null, .null, .null, .null, .int 0, .int 0, .int 0, .null, .null, .int 0, .int 0, .long 0, .long 0, .null, .null, .null, .null, .null, .int 0, .null, .null, .null, .int 0, .int 0]))]) iq_X12_init_X12 0 rfl rfl 3 (by decide) (by decide +kernel) rfl (v := .ref b2) (ty := (.array .int)) tyX12 tyX12_ok nmX12 rfl rfl (by decide +kernel) rfl rfl (Nat.le_of_ble_eq_true rfl) rfl dX12_init_19 ?_
  refine wc_aload_n B dX12_init_22 rfl 0 rfl ?_
  refine wc_bipush B 6 dX12_init_23 (by decide) ?_
  refine wc_nL B 226 6 (by decide) (by decide) hcT hV (by decide +kernel) (by decide) (by decide) (by decide) (Nat.le_of_ble_eq_true rfl) (Nat.le_of_ble_eq_true rfl) dX12_init_25 (fun b3 M g r hg y_b3 z_b3 hcT hV => ?_)
  replace y_b1 := y_b1.gr hg
  replace y_b2 := y_b2.gr hg
  clear z_b3
  refine wc_putF B (C := RX12) (T := TX12) (N := 51) (X2 := [(a0, .inr (12, [.int 0, .ref b1, .int 0, .ref b2, .int 0, .int 0, .int 0, .int 0, .int 0, .int 0, .int 0, .long 0, .int 0, .int 0, .int 0, .int 0, .ref b3, .null, .null, .null, .int 0, .null, .int 0, .null, .null, .null, .null, .null, .null, .null, .null, .int 0, .int 0, .int 0, .null, .null, .int 0, .int 0, .long 0, .long 0, .null, .null, .null, .null, .null, .int 0, .null, .null, .null, .int 0, .int 0]))]) iq_X12_init_X12 0 rfl rfl 16 (by decide) (by decide +kernel) rfl (v := .ref b3) (ty := (.array .long)) tyX12 tyX12_ok nmX12 rfl rfl (by decide +kernel) rfl rfl (Nat.le_of_ble_eq_true rfl) rfl dX12_init_27 ?_
  refine wc_aload_n B dX12_init_30 rfl 0 rfl ?_
  refine wc_bipush B 30 dX12_init_31 (by decide) ?_
  refine wc_nL B 227 30 (by decide) (by decide) hcT hV (by decide +kernel) (by decide) (by decide) (by decide) (Nat.le_of_ble_eq_true rfl) (Nat.le_of_ble_eq_true rfl) dX12_init_33 (fun b4 M g r hg y_b4 z_b4 hcT hV => ?_)
  replace y_b1 := y_b1.gr hg
  replace y_b2 := y_b2.gr hg
  replace y_b3 := y_b3.gr hg
  refine wc_putF B (C := RX12) (T := TX12) (N := 51) (X2 := [(a0, .inr (12, [.int 0, .ref b1, .int 0, .ref b2, .int 0, .int 0, .int 0, .int 0, .int 0, .int 0, .int 0, .long 0, .int 0, .int 0, .int 0, .int 0, .ref b3, .ref b4, .null, .null, .int 0, .null, .int 0, .null, .null, .null, .null, .null, .null, .null, .null, .int 0, .int 0, .int 0, .null, .null, .int 0, .int 0, .long 0, .long 0, .null, .null, .null, .null, .null, .int 0, .null, .null, .null, .int 0, .int 0]))]) iq_X12_init_X12 0 rfl rfl 17 (by decide) (by decide +kernel) rfl (v := .ref b4) (ty := (.array .long)) tyX12 tyX12_ok nmX12 rfl rfl (by decide +kernel) rfl rfl (Nat.le_of_ble_eq_true rfl) rfl dX12_init_35 ?_
  refine wc_aload_n B dX12_init_38 rfl 0 rfl ?_
  refine wc_bipush B 6 dX12_init_39 (by decide) ?_
  refine wc_nI B 128 6 (by decide) (by decide) hcT hV (by decide +kernel) (by decide) (by decide) (by decide) (Nat.le_of_ble_eq_true rfl) (Nat.le_of_ble_eq_true rfl) dX12_init_41 (fun b5 M g r hg y_b5 z_b5 hcT hV => ?_)
  replace y_b1 := y_b1.gr hg
  replace y_b2 := y_b2.gr hg
  replace y_b3 := y_b3.gr hg
  replace y_b4 := y_b4.gr hg
  replace z_b4 := z_b4.gr hg
  refine wc_putF B (C := RX12) (T := TX12) (N := 51) (X2 := [(a0, .inr (12, [.int 0, .ref b1, .int 0, .ref b2, .int 0, .int 0, .int 0, .int 0, .int 0, .int 0, .int 0, .long 0, .int 0, .int 0, .int 0, .int 0, .ref b3, .ref b4, .ref b5, .null, .int 0, .null, .int 0, .null, .null, .null, .null, .null, .null, .null, .null, .int 0, .int 0, .int 0, .null, .null, .int 0, .int 0, .long 0, .long 0, .null, .null, .null, .null, .null, .int 0, .null, .null, .null, .int 0, .int 0]))]) iq_X12_init_X12 0 rfl rfl 18 (by decide) (by decide +kernel) rfl (v := .ref b5) (ty := (.array .int)) tyX12 tyX12_ok nmX12 rfl rfl (by decide +kernel) rfl rfl (Nat.le_of_ble_eq_true rfl) rfl dX12_init_43 ?_
  refine wc_aload_n B dX12_init_46 rfl 0 rfl ?_
  refine wc_bipush B 30 dX12_init_47 (by decide) ?_
  refine wc_nI B 129 30 (by decide) (by decide) hcT hV (by decide +kernel) (by decide) (by decide) (by decide) (Nat.le_of_ble_eq_true rfl) (Nat.le_of_ble_eq_true rfl) dX12_init_49 (fun b6 M g r hg y_b6 z_b6 hcT hV => ?_)
  replace y_b1 := y_b1.gr hg
  replace y_b2 := y_b2.gr hg
  replace y_b3 := y_b3.gr hg
  replace y_b4 := y_b4.gr hg
  replace z_b4 := z_b4.gr hg
  replace y_b5 := y_b5.gr hg
  replace z_b5 := z_b5.gr hg
  clear z_b6
  refine wc_putF B (C := RX12) (T := TX12) (N := 51) (X2 := [(a0, .inr (12, [.int 0, .ref b1, .int 0, .ref b2, .int 0, .int 0, .int 0, .int 0, .int 0, .int 0, .int 0, .long 0, .int 0, .int 0, .int 0, .int 0, .ref b3, .ref b4, .ref b5, .ref b6, .int 0, .null, .int 0, .null, .null, .null, .null, .null, .null, .null, .null, .int 0, .int 0, .int 0, .null, .null, .int 0, .int 0, .long 0, .long 0, .null, .null, .null, .null, .null, .int 0, .null, .null, .null, .int 0, .int 0]))]) iq_X12_init_X12 0 rfl rfl 19 (by decide) (by decide +kernel) rfl (v := .ref b6) (ty := (.array .int)) tyX12 tyX12_ok nmX12 rfl rfl (by decide +kernel) rfl rfl (Nat.le_of_ble_eq_true rfl) rfl dX12_init_51 ?_
  refine wc_aload_n B dX12_init_54 rfl 0 rfl ?_
  refine wc_bipush B 80 dX12_init_55 (by decide) ?_
  refine wc_nI B 131 80 (by decide) (by decide) hcT hV (by decide +kernel) (by decide) (by decide) (by decide) (Nat.le_of_ble_eq_true rfl) (Nat.le_of_ble_eq_true rfl) dX12_init_57 (fun b7 M g r hg y_b7 z_b7 hcT hV => ?_)
  replace y_b1 := y_b1.gr hg
  replace y_b2 := y_b2.gr hg
  replace y_b3 := y_b3.gr hg
  replace y_b4 := y_b4.gr hg
  replace z_b4 := z_b4.gr hg
  replace y_b5 := y_b5.gr hg
  replace z_b5 := z_b5.gr hg
  replace y_b6 := y_b6.gr hg
  clear z_b7
  refine wc_putF B (C := RX12) (T := TX12) (N := 51) (X2 := [(a0, .inr (12, [.int 0, .ref b1, .int 0, .ref b2, .int 0, .int 0, .int 0, .int 0, .int 0, .int 0, .int 0, .long 0, .int 0, .int 0, .int 0, .int 0, .ref b3, .ref b4, .ref b5, .ref b6, .int 0, .ref b7, .int 0, .null, .null, .null, .null, .null, .null, .null, .null, .int 0, .int 0, .int 0, .null, .null, .int 0, .int 0, .long 0, .long 0, .null, .null, .null, .null, .null, .int 0, .null, .null, .null, .int 0, .int 0]))]) iq_X12_init_X12 0 rfl rfl 21 (by decide) (by decide +kernel) rfl (v := .ref b7) (ty := (.array .int)) tyX12 tyX12_ok nmX12 rfl rfl (by decide +kernel) rfl rfl (Nat.le_of_ble_eq_true rfl) rfl dX12_init_59 ?_
  refine wc_aload_n B dX12_init_62 rfl 0 rfl ?_
  refine wc_bipush B 9 dX12_init_63 (by decide) ?_
  refine wc_nI B 133 9 (by decide) (by decide) hcT hV (by decide +kernel) (by decide) (by decide) (by decide) (Nat.le_of_ble_eq_true rfl) (Nat.le_of_ble_eq_true rfl) dX12_init_65 (fun b8 M g r hg y_b8 z_b8 hcT hV => ?_)
  replace y_b1 := y_b1.gr hg
  replace y_b2 := y_b2.gr hg
  replace y_b3 := y_b3.gr hg
  replace y_b4 := y_b4.gr hg
  replace z_b4 := z_b4.gr hg
  replace y_b5 := y_b5.gr hg
  replace z_b5 := z_b5.gr hg
  replace y_b6 := y_b6.gr hg
  replace y_b7 := y_b7.gr hg
  refine wc_putF B (C := RX12) (T := TX12) (N := 51) (X2 := [(a0, .inr (12, [.int 0, .ref b1, .int 0, .ref b2, .int 0, .int 0, .int 0, .int 0, .int 0, .int 0, .int 0, .long 0, .int 0, .int 0, .int 0, .int 0, .ref b3, .ref b4, .ref b5, .ref b6, .int 0, .ref b7, .int 0, .ref b8, .null, .null, .null, .null, .null, .null, .null, .int 0, .int 0, .int 0, .null, .null, .int 0, .int 0, .long 0, .long 0, .null, .null, .null, .null, .null, .int 0, .null, .null, .null, .int 0, .int 0]))]) iq_X12_init_X12 0 rfl rfl 23 (by decide) (by decide +kernel) rfl (v := .ref b8) (ty := (.array .int)) tyX12 tyX12_ok nmX12 rfl rfl (by decide +kernel) rfl rfl (Nat.le_of_ble_eq_true rfl) rfl dX12_init_67 ?_
  refine wc_aload_n B dX12_init_70 rfl 0 rfl ?_
  refine wc_bipush B 108 dX12_init_71 (by decide) ?_
  refine wc_nI B 134 108 (by decide) (by decide) hcT hV (by decide +kernel) (by decide) (by decide) (by decide) (Nat.le_of_ble_eq_true rfl) (Nat.le_of_ble_eq_true rfl) dX12_init_73 (fun b9 M g r hg y_b9 z_b9 hcT hV => ?_)
  replace y_b1 := y_b1.gr hg
  replace y_b2 := y_b2.gr hg
  replace y_b3 := y_b3.gr hg
  replace y_b4 := y_b4.gr hg
  replace z_b4 := z_b4.gr hg
  replace y_b5 := y_b5.gr hg
  replace z_b5 := z_b5.gr hg
  replace y_b6 := y_b6.gr hg
  replace y_b7 := y_b7.gr hg
  replace y_b8 := y_b8.gr hg
  replace z_b8 := z_b8.gr hg
  clear z_b9
  refine wc_putF B (C := RX12) (T := TX12) (N := 51) (X2 := [(a0, .inr (12, [.int 0, .ref b1, .int 0, .ref b2, .int 0, .int 0, .int 0, .int 0, .int 0, .int 0, .int 0, .long 0, .int 0, .int 0, .int 0, .int 0, .ref b3, .ref b4, .ref b5, .ref b6, .int 0, .ref b7, .int 0, .ref b8, .ref b9, .null, .null, .null, .null, .null, .null, .int 0, .int 0, .int 0, .null, .null, .int 0, .int 0, .long 0, .long 0, .null, .null, .null, .null, .null, .int 0, .null, .null, .null, .int 0, .int 0]))]) iq_X12_init_X12 0 rfl rfl 24 (by decide) (by decide +kernel) rfl (v := .ref b9) (ty := (.array .int)) tyX12 tyX12_ok nmX12 rfl rfl (by decide +kernel) rfl rfl (Nat.le_of_ble_eq_true rfl) rfl dX12_init_75 ?_
  refine wc_aload_n B dX12_init_78 rfl 0 rfl ?_
  refine wc_bipush B 108 dX12_init_79 (by decide) ?_
  refine wc_nI B 135 108 (by decide) (by decide) hcT hV (by decide +kernel) (by decide) (by decide) (by decide) (Nat.le_of_ble_eq_true rfl) (Nat.le_of_ble_eq_true rfl) dX12_init_81 (fun b10 M g r hg y_b10 z_b10 hcT hV => ?_)
  replace y_b1 := y_b1.gr hg
  replace y_b2 := y_b2.gr hg
  replace y_b3 := y_b3.gr hg
  replace y_b4 := y_b4.gr hg
  replace z_b4 := z_b4.gr hg
  replace y_b5 := y_b5.gr hg
  replace z_b5 := z_b5.gr hg
  replace y_b6 := y_b6.gr hg
  replace y_b7 := y_b7.gr hg
  replace y_b8 := y_b8.gr hg
  replace z_b8 := z_b8.gr hg
  replace y_b9 := y_b9.gr hg
  clear z_b10
  refine wc_putF B (C := RX12) (T := TX12) (N := 51) (X2 := [(a0, .inr (12, [.int 0, .ref b1, .int 0, .ref b2, .int 0, .int 0, .int 0, .int 0, .int 0, .int 0, .int 0, .long 0, .int 0, .int 0, .int 0, .int 0, .ref b3, .ref b4, .ref b5, .ref b6, .int 0, .ref b7, .int 0, .ref b8, .ref b9, .ref b10, .null, .null, .null, .null, .null, .int 0, .int 0, .int 0, .null, .null, .int 0, .int 0, .long 0, .long 0, .null, .null, .null, .null, .null, .int 0, .null, .null, .null, .int 0, .int 0]))]) iq_X12_init_X12 0 rfl rfl 25 (by decide) (by decide +kernel) rfl (v := .ref b10) (ty := (.array .int)) tyX12 tyX12_ok nmX12 rfl rfl (by decide +kernel) rfl rfl (Nat.le_of_ble_eq_true rfl) rfl dX12_init_83 ?_
  refine wc_aload_n B dX12_init_86 rfl 0 rfl ?_
  refine wc_bipush B 108 dX12_init_87 (by decide) ?_
  refine wc_nI B 136 108 (by decide) (by decide) hcT hV (by decide +kernel) (by decide) (by decide) (by decide) (Nat.le_of_ble_eq_true rfl) (Nat.le_of_ble_eq_true rfl) dX12_init_89 (fun b11 M g r hg y_b11 z_b11 hcT hV => ?_)
  replace y_b1 := y_b1.gr hg
  replace y_b2 := y_b2.gr hg
  replace y_b3 := y_b3.gr hg
  replace y_b4 := y_b4.gr hg
  replace z_b4 := z_b4.gr hg
  replace y_b5 := y_b5.gr hg
  replace z_b5 := z_b5.gr hg
  replace y_b6 := y_b6.gr hg
  replace y_b7 := y_b7.gr hg
  replace y_b8 := y_b8.gr hg
  replace z_b8 := z_b8.gr hg
  replace y_b9 := y_b9.gr hg
  replace y_b10 := y_b10.gr hg
  clear z_b11
  refine wc_putF B (C := RX12) (T := TX12) (N := 51) (X2 := [(a0, .inr (12, [.int 0, .ref b1, .int 0, .ref b2, .int 0, .int 0, .int 0, .int 0, .int 0, .int 0, .int 0, .long 0, .int 0, .int 0, .int 0, .int 0, .ref b3, .ref b4, .ref b5, .ref b6, .int 0, .ref b7, .int 0, .ref b8, .ref b9, .ref b10, .ref b11, .null, .null, .null, .null, .int 0, .int 0, .int 0, .null, .null, .int 0, .int 0, .long 0, .long 0, .null, .null, .null, .null, .null, .int 0, .null, .null, .null, .int 0, .int 0]))]) iq_X12_init_X12 0 rfl rfl 26 (by decide) (by decide +kernel) rfl (v := .ref b11) (ty := (.array .int)) tyX12 tyX12_ok nmX12 rfl rfl (by decide +kernel) rfl rfl (Nat.le_of_ble_eq_true rfl) rfl dX12_init_91 ?_
  refine wc_aload_n B dX12_init_94 rfl 0 rfl ?_
  refine wc_bipush B 9 dX12_init_95 (by decide) ?_
  refine wc_nI B 137 9 (by decide) (by decide) hcT hV (by decide +kernel) (by decide) (by decide) (by decide) (Nat.le_of_ble_eq_true rfl) (Nat.le_of_ble_eq_true rfl) dX12_init_97 (fun b12 M g r hg y_b12 z_b12 hcT hV => ?_)
  replace y_b1 := y_b1.gr hg
  replace y_b2 := y_b2.gr hg
  replace y_b3 := y_b3.gr hg
  replace y_b4 := y_b4.gr hg
  replace z_b4 := z_b4.gr hg
  replace y_b5 := y_b5.gr hg
  replace z_b5 := z_b5.gr hg
  replace y_b6 := y_b6.gr hg
  replace y_b7 := y_b7.gr hg
  replace y_b8 := y_b8.gr hg
  replace z_b8 := z_b8.gr hg
  replace y_b9 := y_b9.gr hg
  replace y_b10 := y_b10.gr hg
  replace y_b11 := y_b11.gr hg
  clear z_b12
  refine wc_putF B (C := RX12) (T := TX12) (N := 51) (X2 := [(a0, .inr (12, [.int 0, .ref b1, .int 0, .ref b2, .int 0, .int 0, .int 0, .int 0, .int 0, .int 0, .int 0, .long 0, .int 0, .int 0, .int 0, .int 0, .ref b3, .ref b4, .ref b5, .ref b6, .int 0, .ref b7, .int 0, .ref b8, .ref b9, .ref b10, .ref b11, .ref b12, .null, .null, .null, .int 0, .int 0, .int 0, .null, .null, .int 0, .int 0, .long 0, .long 0, .null, .null, .null, .null, .null, .int 0, .null, .null, .null, .int 0, .int 0]))]) iq_X12_init_X12 0 rfl rfl 27 (by decide) (by decide +kernel) rfl (v := .ref b12) (ty := (.array .int)) tyX12 tyX12_ok nmX12 rfl rfl (by decide +kernel) rfl rfl (Nat.le_of_ble_eq_true rfl) rfl dX12_init_99 ?_
  refine wc_aload_n B dX12_init_102 rfl 0 rfl ?_
  refine wc_sipush B 540 dX12_init_103 (by decide) ?_
  refine wc_nI B 138 540 (by decide) (by decide) hcT hV (by decide +kernel) (by decide) (by decide) (by decide) (Nat.le_of_ble_eq_true rfl) (Nat.le_of_ble_eq_true rfl) dX12_init_106 (fun b13 M g r hg y_b13 z_b13 hcT hV => ?_)
  replace y_b1 := y_b1.gr hg
  replace y_b2 := y_b2.gr hg
  replace y_b3 := y_b3.gr hg
  replace y_b4 := y_b4.gr hg
  replace z_b4 := z_b4.gr hg
  replace y_b5 := y_b5.gr hg
  replace z_b5 := z_b5.gr hg
  replace y_b6 := y_b6.gr hg
  replace y_b7 := y_b7.gr hg
  replace y_b8 := y_b8.gr hg
  replace z_b8 := z_b8.gr hg
  replace y_b9 := y_b9.gr hg
  replace y_b10 := y_b10.gr hg
  replace y_b11 := y_b11.gr hg
  replace y_b12 := y_b12.gr hg
  clear z_b13
  refine wc_putF B (C := RX12) (T := TX12) (N := 51) (X2 := [(a0, .inr (12, [.int 0, .ref b1, .int 0, .ref b2, .int 0, .int 0, .int 0, .int 0, .int 0, .int 0, .int 0, .long 0, .int 0, .int 0, .int 0, .int 0, .ref b3, .ref b4, .ref b5, .ref b6, .int 0, .ref b7, .int 0, .ref b8, .ref b9, .ref b10, .ref b11, .ref b12, .ref b13, .null, .null, .int 0, .int 0, .int 0, .null, .null, .int 0, .int 0, .long 0, .long 0, .null, .null, .null, .null, .null, .int 0, .null, .null, .null, .int 0, .int 0]))]) iq_X12_init_X12 0 rfl rfl 28 (by decide) (by decide +kernel) rfl (v := .ref b13) (ty := (.array .int)) tyX12 tyX12_ok nmX12 rfl rfl (by decide +kernel) rfl rfl (Nat.le_of_ble_eq_true rfl) rfl dX12_init_108 ?_
  refine wc_aload_n B dX12_init_111 rfl 0 rfl ?_
  refine wc_sipush B 540 dX12_init_112 (by decide) ?_
  refine wc_nI B 139 540 (by decide) (by decide) hcT hV (by decide +kernel) (by decide) (by decide) (by decide) (Nat.le_of_ble_eq_true rfl) (Nat.le_of_ble_eq_true rfl) dX12_init_115 (fun b14 M g r hg y_b14 z_b14 hcT hV => ?_)
  replace y_b1 := y_b1.gr hg
  replace y_b2 := y_b2.gr hg
  replace y_b3 := y_b3.gr hg
  replace y_b4 := y_b4.gr hg
  replace z_b4 := z_b4.gr hg
  replace y_b5 := y_b5.gr hg
  replace z_b5 := z_b5.gr hg
  replace y_b6 := y_b6.gr hg
  replace y_b7 := y_b7.gr hg
  replace y_b8 := y_b8.gr hg
  replace z_b8 := z_b8.gr hg
  replace y_b9 := y_b9.gr hg
  replace y_b10 := y_b10.gr hg
  replace y_b11 := y_b11.gr hg
  replace y_b12 := y_b12.gr hg
  replace y_b13 := y_b13.gr hg
  clear z_b14
  refine wc_putF B (C := RX12) (T := TX12) (N := 51) (X2 := [(a0, .inr (12, [.int 0, .ref b1, .int 0, .ref b2, .int 0, .int 0, .int 0, .int 0, .int 0, .int 0, .int 0, .long 0, .int 0, .int 0, .int 0, .int 0, .ref b3, .ref b4, .ref b5, .ref b6, .int 0, .ref b7, .int 0, .ref b8, .ref b9, .ref b10, .ref b11, .ref b12, .ref b13, .ref b14, .null, .int 0, .int 0, .int 0, .null, .null, .int 0, .int 0, .long 0, .long 0, .null, .null, .null, .null, .null, .int 0, .null, .null, .null, .int 0, .int 0]))]) iq_X12_init_X12 0 rfl rfl 29 (by decide) (by decide +kernel) rfl (v := .ref b14) (ty := (.array .int)) tyX12 tyX12_ok nmX12 rfl rfl (by decide +kernel) rfl rfl (Nat.le_of_ble_eq_true rfl) rfl dX12_init_117 ?_
  refine wc_aload_n B dX12_init_120 rfl 0 rfl ?_
  refine wc_sipush B 540 dX12_init_121 (by decide) ?_
  refine wc_nI B 140 540 (by decide) (by decide) hcT hV (by decide +kernel) (by decide) (by decide) (by decide) (Nat.le_of_ble_eq_true rfl) (Nat.le_of_ble_eq_true rfl) dX12_init_124 (fun b15 M g r hg y_b15 z_b15 hcT hV => ?_)
  replace y_b1 := y_b1.gr hg
  replace y_b2 := y_b2.gr hg
  replace y_b3 := y_b3.gr hg
  replace y_b4 := y_b4.gr hg
  replace z_b4 := z_b4.gr hg
  replace y_b5 := y_b5.gr hg
  replace z_b5 := z_b5.gr hg
  replace y_b6 := y_b6.gr hg
  replace y_b7 := y_b7.gr hg
  replace y_b8 := y_b8.gr hg
  replace z_b8 := z_b8.gr hg
  replace y_b9 := y_b9.gr hg
  replace y_b10 := y_b10.gr hg
  replace y_b11 := y_b11.gr hg
  replace y_b12 := y_b12.gr hg
  replace y_b13 := y_b13.gr hg
  replace y_b14 := y_b14.gr hg
  clear z_b15
  refine wc_putF B (C := RX12) (T := TX12) (N := 51) (X2 := [(a0, .inr (12, [.int 0, .ref b1, .int 0, .ref b2, .int 0, .int 0, .int 0, .int 0, .int 0, .int 0, .int 0, .long 0, .int 0, .int 0, .int 0, .int 0, .ref b3, .ref b4, .ref b5, .ref b6, .int 0, .ref b7, .int 0, .ref b8, .ref b9, .ref b10, .ref b11, .ref b12, .ref b13, .ref b14, .ref b15, .int 0, .int 0, .int 0, .null, .null, .int 0, .int 0, .long 0, .long 0, .null, .null, .null, .null, .null, .int 0, .null, .null, .null, .int 0, .int 0]))]) iq_X12_init_X12 0 rfl rfl 30 (by decide) (by decide +kernel) rfl (v := .ref b15) (ty := (.array .int)) tyX12 tyX12_ok nmX12 rfl rfl (by decide +kernel) rfl rfl (Nat.le_of_ble_eq_true rfl) rfl dX12_init_126 ?_
  refine wc_aload_n B dX12_init_129 rfl 0 rfl ?_
  refine wc_iconst B 4 dX12_init_130 (by decide) ?_
  refine wc_nI B 144 4 (by decide) (by decide) hcT hV (by decide +kernel) (by decide) (by decide) (by decide) (Nat.le_of_ble_eq_true rfl) (Nat.le_of_ble_eq_true rfl) dX12_init_131 (fun b16 M g r hg y_b16 z_b16 hcT hV => ?_)
  replace y_b1 := y_b1.gr hg
  replace y_b2 := y_b2.gr hg
  replace y_b3 := y_b3.gr hg
  replace y_b4 := y_b4.gr hg
  replace z_b4 := z_b4.gr hg
  replace y_b5 := y_b5.gr hg
  replace z_b5 := z_b5.gr hg
  replace y_b6 := y_b6.gr hg
  replace y_b7 := y_b7.gr hg
  replace y_b8 := y_b8.gr hg
  replace z_b8 := z_b8.gr hg
  replace y_b9 := y_b9.gr hg
  replace y_b10 := y_b10.gr hg
  replace y_b11 := y_b11.gr hg
  replace y_b12 := y_b12.gr hg
  replace y_b13 := y_b13.gr hg
  replace y_b14 := y_b14.gr hg
  replace y_b15 := y_b15.gr hg
  clear z_b16
  refine wc_putF B (C := RX12) (T := TX12) (N := 51) (X2 := [(a0, .inr (12, [.int 0, .ref b1, .int 0, .ref b2, .int 0, .int 0, .int 0, .int 0, .int 0, .int 0, .int 0, .long 0, .int 0, .int 0, .int 0, .int 0, .ref b3, .ref b4, .ref b5, .ref b6, .int 0, .ref b7, .int 0, .ref b8, .ref b9, .ref b10, .ref b11, .ref b12, .ref b13, .ref b14, .ref b15, .int 0, .int 0, .int 0, .ref b16, .null, .int 0, .int 0, .long 0, .long 0, .null, .null, .null, .null, .null, .int 0, .null, .null, .null, .int 0, .int 0]))]) iq_X12_init_X12 0 rfl rfl 34 (by decide) (by decide +kernel) rfl (v := .ref b16) (ty := (.array .int)) tyX12 tyX12_ok nmX12 rfl rfl (by decide +kernel) rfl rfl (Nat.le_of_ble_eq_true rfl) rfl dX12_init_133 ?_
  refine wc_aload_n B dX12_init_136 rfl 0 rfl ?_
  refine wc_bipush B 12 dX12_init_137 (by decide) ?_
  refine wc_nL B 245 12 (by decide) (by decide) hcT hV (by decide +kernel) (by decide) (by decide) (by decide) (Nat.le_of_ble_eq_true rfl) (Nat.le_of_ble_eq_true rfl) dX12_init_139 (fun b17 M g r hg y_b17 z_b17 hcT hV => ?_)
  replace y_b1 := y_b1.gr hg
  replace y_b2 := y_b2.gr hg
  replace y_b3 := y_b3.gr hg
  replace y_b4 := y_b4.gr hg
  replace z_b4 := z_b4.gr hg
  replace y_b5 := y_b5.gr hg
  replace z_b5 := z_b5.gr hg
  replace y_b6 := y_b6.gr hg
  replace y_b7 := y_b7.gr hg
  replace y_b8 := y_b8.gr hg
  replace z_b8 := z_b8.gr hg
  replace y_b9 := y_b9.gr hg
  replace y_b10 := y_b10.gr hg
  replace y_b11 := y_b11.gr hg
  replace y_b12 := y_b12.gr hg
  replace y_b13 := y_b13.gr hg
  replace y_b14 := y_b14.gr hg
  replace y_b15 := y_b15.gr hg
  replace y_b16 := y_b16.gr hg
  clear z_b17
  refine wc_putF B (C := RX12) (T := TX12) (N := 51) (X2 := [(a0, .inr (12, [.int 0, .ref b1, .int 0, .ref b2, .int 0, .int 0, .int 0, .int 0, .int 0, .int 0, .int 0, .long 0, .int 0, .int 0, .int 0, .int 0, .ref b3, .ref b4, .ref b5, .ref b6, .int 0, .ref b7, .int 0, .ref b8, .ref b9, .ref b10, .ref b11, .ref b12, .ref b13, .ref b14, .ref b15, .int 0, .int 0, .int 0, .ref b16, .ref b17, .int 0, .int 0, .long 0, .long 0, .null, .null, .null, .null, .null, .int 0, .null, .null, .null, .int 0, .int 0]))]) iq_X12_init_X12 0 rfl rfl 35 (by decide) (by decide +kernel) rfl (v := .ref b17) (ty := (.array .long)) tyX12 tyX12_ok nmX12 rfl rfl (by decide +kernel) rfl rfl (Nat.le_of_ble_eq_true rfl) rfl dX12_init_141 ?_
  refine wc_aload_n B dX12_init_144 rfl 0 rfl ?_
  refine wc_sipush B 2400 dX12_init_145 (by decide) ?_
  refine wc_nI B 150 2400 (by decide) (by decide) hcT hV (by decide +kernel) (by decide) (by decide) (by decide) (Nat.le_of_ble_eq_true rfl) (Nat.le_of_ble_eq_true rfl) dX12_init_148 (fun b18 M g r hg y_b18 z_b18 hcT hV => ?_)
  replace y_b1 := y_b1.gr hg
  replace y_b2 := y_b2.gr hg
  replace y_b3 := y_b3.gr hg
  replace y_b4 := y_b4.gr hg
  replace z_b4 := z_b4.gr hg
  replace y_b5 := y_b5.gr hg
  replace z_b5 := z_b5.gr hg
  replace y_b6 := y_b6.gr hg
  replace y_b7 := y_b7.gr hg
  replace y_b8 := y_b8.gr hg
  replace z_b8 := z_b8.gr hg
  replace y_b9 := y_b9.gr hg
  replace y_b10 := y_b10.gr hg
  replace y_b11 := y_b11.gr hg
  replace y_b12 := y_b12.gr hg
  replace y_b13 := y_b13.gr hg
  replace y_b14 := y_b14.gr hg
  replace y_b15 := y_b15.gr hg
  replace y_b16 := y_b16.gr hg
  replace y_b17 := y_b17.gr hg
  clear z_b18
  refine wc_putF B (C := RX12) (T := TX12) (N := 51) (X2 := [(a0, .inr (12, [.int 0, .ref b1, .int 0, .ref b2, .int 0, .int 0, .int 0, .int 0, .int 0, .int 0, .int 0, .long 0, .int 0, .int 0, .int 0, .int 0, .ref b3, .ref b4, .ref b5, .ref b6, .int 0, .ref b7, .int 0, .ref b8, .ref b9, .ref b10, .ref b11, .ref b12, .ref b13, .ref b14, .ref b15, .int 0, .int 0, .int 0, .ref b16, .ref b17, .int 0, .int 0, .long 0, .long 0, .ref b18, .null, .null, .null, .null, .int 0, .null, .null, .null, .int 0, .int 0]))]) iq_X12_init_X12 0 rfl rfl 40 (by decide) (by decide +kernel) rfl (v := .ref b18) (ty := (.array .int)) tyX12 tyX12_ok nmX12 rfl rfl (by decide +kernel) rfl rfl (Nat.le_of_ble_eq_true rfl) rfl dX12_init_150 ?_
  refine wc_aload_n B dX12_init_153 rfl 0 rfl ?_
  refine wc_bipush B 12 dX12_init_154 (by decide) ?_
  refine wc_nI B 151 12 (by decide) (by decide) hcT hV (by decide +kernel) (by decide) (by decide) (by decide) (Nat.le_of_ble_eq_true rfl) (Nat.le_of_ble_eq_true rfl) dX12_init_156 (fun b19 M g r hg y_b19 z_b19 hcT hV => ?_)
  replace y_b1 := y_b1.gr hg
  replace y_b2 := y_b2.gr hg
  replace y_b3 := y_b3.gr hg
  replace y_b4 := y_b4.gr hg
  replace z_b4 := z_b4.gr hg
  replace y_b5 := y_b5.gr hg
  replace z_b5 := z_b5.gr hg
  replace y_b6 := y_b6.gr hg
  replace y_b7 := y_b7.gr hg
  replace y_b8 := y_b8.gr hg
  replace z_b8 := z_b8.gr hg
  replace y_b9 := y_b9.gr hg
  replace y_b10 := y_b10.gr hg
  replace y_b11 := y_b11.gr hg
  replace y_b12 := y_b12.gr hg
  replace y_b13 := y_b13.gr hg
  replace y_b14 := y_b14.gr hg
  replace y_b15 := y_b15.gr hg
  replace y_b16 := y_b16.gr hg
  replace y_b17 := y_b17.gr hg
  replace y_b18 := y_b18.gr hg
  clear z_b19
  refine wc_putF B (C := RX12) (T := TX12) (N := 51) (X2 := [(a0, .inr (12, [.int 0, .ref b1, .int 0, .ref b2, .int 0, .int 0, .int 0, .int 0, .int 0, .int 0, .int 0, .long 0, .int 0, .int 0, .int 0, .int 0, .ref b3, .ref b4, .ref b5, .ref b6, .int 0, .ref b7, .int 0, .ref b8, .ref b9, .ref b10, .ref b11, .ref b12, .ref b13, .ref b14, .ref b15, .int 0, .int 0, .int 0, .ref b16, .ref b17, .int 0, .int 0, .long 0, .long 0, .ref b18, .ref b19, .null, .null, .null, .int 0, .null, .null, .null, .int 0, .int 0]))]) iq_X12_init_X12 0 rfl rfl 41 (by decide) (by decide +kernel) rfl (v := .ref b19) (ty := (.array .int)) tyX12 tyX12_ok nmX12 rfl rfl (by decide +kernel) rfl rfl (Nat.le_of_ble_eq_true rfl) rfl dX12_init_158 ?_
  refine wc_aload_n B dX12_init_161 rfl 0 rfl ?_
  refine wc_bipush B 12 dX12_init_162 (by decide) ?_
  refine wc_nI B 152 12 (by decide) (by decide) hcT hV (by decide +kernel) (by decide) (by decide) (by decide) (Nat.le_of_ble_eq_true rfl) (Nat.le_of_ble_eq_true rfl) dX12_init_164 (fun b20 M g r hg y_b20 z_b20 hcT hV => ?_)
  replace y_b1 := y_b1.gr hg
  replace y_b2 := y_b2.gr hg
  replace y_b3 := y_b3.gr hg
  replace y_b4 := y_b4.gr hg
  replace z_b4 := z_b4.gr hg
  replace y_b5 := y_b5.gr hg
  replace z_b5 := z_b5.gr hg
  replace y_b6 := y_b6.gr hg
  replace y_b7 := y_b7.gr hg
  replace y_b8 := y_b8.gr hg
  replace z_b8 := z_b8.gr hg
  replace y_b9 := y_b9.gr hg
  replace y_b10 := y_b10.gr hg
  replace y_b11 := y_b11.gr hg
  replace y_b12 := y_b12.gr hg
  replace y_b13 := y_b13.gr hg
  replace y_b14 := y_b14.gr hg
  replace y_b15 := y_b15.gr hg
  replace y_b16 := y_b16.gr hg
  replace y_b17 := y_b17.gr hg
  replace y_b18 := y_b18.gr hg
  replace y_b19 := y_b19.gr hg
  clear z_b20
  refine wc_putF B (C := RX12) (T := TX12) (N := 51) (X2 := [(a0, .inr (12, [.int 0, .ref b1, .int 0, .ref b2, .int 0, .int 0, .int 0, .int 0, .int 0, .int 0, .int 0, .long 0, .int 0, .int 0, .int 0, .int 0, .ref b3, .ref b4, .ref b5, .ref b6, .int 0, .ref b7, .int 0, .ref b8, .ref b9, .ref b10, .ref b11, .ref b12, .ref b13, .ref b14, .ref b15, .int 0, .int 0, .int 0, .ref b16, .ref b17, .int 0, .int 0, .long 0, .long 0, .ref b18, .ref b19, .ref b20, .null, .null, .int 0, .null, .null, .null, .int 0, .int 0]))]) iq_X12_init_X12 0 rfl rfl 42 (by decide) (by decide +kernel) rfl (v := .ref b20) (ty := (.array .int)) tyX12 tyX12_ok nmX12 rfl rfl (by decide +kernel) rfl rfl (Nat.le_of_ble_eq_true rfl) rfl dX12_init_166 ?_
  refine wc_aload_n B dX12_init_169 rfl 0 rfl ?_
  refine wc_bipush B 12 dX12_init_170 (by decide) ?_
  refine wc_nI B 153 12 (by decide) (by decide) hcT hV (by decide +kernel) (by decide) (by decide) (by decide) (Nat.le_of_ble_eq_true rfl) (Nat.le_of_ble_eq_true rfl) dX12_init_172 (fun b21 M g r hg y_b21 z_b21 hcT hV => ?_)
  replace y_b1 := y_b1.gr hg
  replace y_b2 := y_b2.gr hg
  replace y_b3 := y_b3.gr hg
  replace y_b4 := y_b4.gr hg
  replace z_b4 := z_b4.gr hg
  replace y_b5 := y_b5.gr hg
  replace z_b5 := z_b5.gr hg
  replace y_b6 := y_b6.gr hg
  replace y_b7 := y_b7.gr hg
  replace y_b8 := y_b8.gr hg
  replace z_b8 := z_b8.gr hg
  replace y_b9 := y_b9.gr hg
  replace y_b10 := y_b10.gr hg
  replace y_b11 := y_b11.gr hg
  replace y_b12 := y_b12.gr hg
  replace y_b13 := y_b13.gr hg
  replace y_b14 := y_b14.gr hg
  replace y_b15 := y_b15.gr hg
  replace y_b16 := y_b16.gr hg
  replace y_b17 := y_b17.gr hg
  replace y_b18 := y_b18.gr hg
  replace y_b19 := y_b19.gr hg
  replace y_b20 := y_b20.gr hg
  clear z_b21
  refine wc_putF B (C := RX12) (T := TX12) (N := 51) (X2 := [(a0, .inr (12, [.int 0, .ref b1, .int 0, .ref b2, .int 0, .int 0, .int 0, .int 0, .int 0, .int 0, .int 0, .long 0, .int 0, .int 0, .int 0, .int 0, .ref b3, .ref b4, .ref b5, .ref b6, .int 0, .ref b7, .int 0, .ref b8, .ref b9, .ref b10, .ref b11, .ref b12, .ref b13, .ref b14, .ref b15, .int 0, .int 0, .int 0, .ref b16, .ref b17, .int 0, .int 0, .long 0, .long 0, .ref b18, .ref b19, .ref b20, .ref b21, .null, .int 0, .null, .null, .null, .int 0, .int 0]))]) iq_X12_init_X12 0 rfl rfl 43 (by decide) (by decide +kernel) rfl (v := .ref b21) (ty := (.array .int)) tyX12 tyX12_ok nmX12 rfl rfl (by decide +kernel) rfl rfl (Nat.le_of_ble_eq_true rfl) rfl dX12_init_174 ?_
  refine wc_aload_n B dX12_init_177 rfl 0 rfl ?_
  refine wc_bipush B 12 dX12_init_178 (by decide) ?_
  refine wc_nI B 154 12 (by decide) (by decide) hcT hV (by decide +kernel) (by decide) (by decide) (by decide) (Nat.le_of_ble_eq_true rfl) (Nat.le_of_ble_eq_true rfl) dX12_init_180 (fun b22 M g r hg y_b22 z_b22 hcT hV => ?_)
  replace y_b1 := y_b1.gr hg
  replace y_b2 := y_b2.gr hg
  replace y_b3 := y_b3.gr hg
  replace y_b4 := y_b4.gr hg
  replace z_b4 := z_b4.gr hg
  replace y_b5 := y_b5.gr hg
  replace z_b5 := z_b5.gr hg
  replace y_b6 := y_b6.gr hg
  replace y_b7 := y_b7.gr hg
  replace y_b8 := y_b8.gr hg
  replace z_b8 := z_b8.gr hg
  replace y_b9 := y_b9.gr hg
  replace y_b10 := y_b10.gr hg
  replace y_b11 := y_b11.gr hg
  replace y_b12 := y_b12.gr hg
  replace y_b13 := y_b13.gr hg
  replace y_b14 := y_b14.gr hg
  replace y_b15 := y_b15.gr hg
  replace y_b16 := y_b16.gr hg
  replace y_b17 := y_b17.gr hg
  replace y_b18 := y_b18.gr hg
  replace y_b19 := y_b19.gr hg
  replace y_b20 := y_b20.gr hg
  replace y_b21 := y_b21.gr hg
  clear z_b22
  refine wc_putF B (C := RX12) (T := TX12) (N := 51) (X2 := [(a0, .inr (12, [.int 0, .ref b1, .int 0, .ref b2, .int 0, .int 0, .int 0, .int 0, .int 0, .int 0, .int 0, .long 0, .int 0, .int 0, .int 0, .int 0, .ref b3, .ref b4, .ref b5, .ref b6, .int 0, .ref b7, .int 0, .ref b8, .ref b9, .ref b10, .ref b11, .ref b12, .ref b13, .ref b14, .ref b15, .int 0, .int 0, .int 0, .ref b16, .ref b17, .int 0, .int 0, .long 0, .long 0, .ref b18, .ref b19, .ref b20, .ref b21, .ref b22, .int 0, .null, .null, .null, .int 0, .int 0]))]) iq_X12_init_X12 0 rfl rfl 44 (by decide) (by decide +kernel) rfl (v := .ref b22) (ty := (.array .int)) tyX12 tyX12_ok nmX12 rfl rfl (by decide +kernel) rfl rfl (Nat.le_of_ble_eq_true rfl) rfl dX12_init_182 ?_
  refine wc_aload_n B dX12_init_185 rfl 0 rfl ?_
  refine wc_sipush B 144 dX12_init_186 (by decide) ?_
  refine wc_nI B 156 144 (by decide) (by decide) hcT hV (by decide +kernel) (by decide) (by decide) (by decide) (Nat.le_of_ble_eq_true rfl) (Nat.le_of_ble_eq_true rfl) dX12_init_189 (fun b23 M g r hg y_b23 z_b23 hcT hV => ?_)
  replace y_b1 := y_b1.gr hg
  replace y_b2 := y_b2.gr hg
  replace y_b3 := y_b3.gr hg
  replace y_b4 := y_b4.gr hg
  replace z_b4 := z_b4.gr hg
  replace y_b5 := y_b5.gr hg
  replace z_b5 := z_b5.gr hg
  replace y_b6 := y_b6.gr hg
  replace y_b7 := y_b7.gr hg
  replace y_b8 := y_b8.gr hg
  replace z_b8 := z_b8.gr hg
  replace y_b9 := y_b9.gr hg
  replace y_b10 := y_b10.gr hg
  replace y_b11 := y_b11.gr hg
  replace y_b12 := y_b12.gr hg
  replace y_b13 := y_b13.gr hg
  replace y_b14 := y_b14.gr hg
  replace y_b15 := y_b15.gr hg
  replace y_b16 := y_b16.gr hg
  replace y_b17 := y_b17.gr hg
  replace y_b18 := y_b18.gr hg
  replace y_b19 := y_b19.gr hg
  replace y_b20 := y_b20.gr hg
  replace y_b21 := y_b21.gr hg
  replace y_b22 := y_b22.gr hg
  clear z_b23
  refine wc_putF B (C := RX12) (T := TX12) (N := 51) (X2 := [(a0, .inr (12, [.int 0, .ref b1, .int 0, .ref b2, .int 0, .int 0, .int 0, .int 0, .int 0, .int 0, .int 0, .long 0, .int 0, .int 0, .int 0, .int 0, .ref b3, .ref b4, .ref b5, .ref b6, .int 0, .ref b7, .int 0, .ref b8, .ref b9, .ref b10, .ref b11, .ref b12, .ref b13, .ref b14, .ref b15, .int 0, .int 0, .int 0, .ref b16, .ref b17, .int 0, .int 0, .long 0, .long 0, .ref b18, .ref b19, .ref b20, .ref b21, .ref b22, .int 0, .ref b23, .null, .null, .int 0, .int 0]))]) iq_X12_init_X12 0 rfl rfl 46 (by decide) (by decide +kernel) rfl (v := .ref b23) (ty := (.array .int)) tyX12 tyX12_ok nmX12 rfl rfl (by decide +kernel) rfl rfl (Nat.le_of_ble_eq_true rfl) rfl dX12_init_191 ?_
  refine wc_aload_n B dX12_init_194 rfl 0 rfl ?_
  refine wc_sipush B 4096 dX12_init_195 (by decide) ?_
  refine wc_nI B 157 4096 (by decide) (by decide) hcT hV (by decide +kernel) (by decide) (by decide) (by decide) (Nat.le_of_ble_eq_true rfl) (Nat.le_of_ble_eq_true rfl) dX12_init_198 (fun b24 M g r hg y_b24 z_b24 hcT hV => ?_)
  replace y_b1 := y_b1.gr hg
  replace y_b2 := y_b2.gr hg
  replace y_b3 := y_b3.gr hg
  replace y_b4 := y_b4.gr hg
  replace z_b4 := z_b4.gr hg
  replace y_b5 := y_b5.gr hg
  replace z_b5 := z_b5.gr hg
  replace y_b6 := y_b6.gr hg
  replace y_b7 := y_b7.gr hg
  replace y_b8 := y_b8.gr hg
  replace z_b8 := z_b8.gr hg
  replace y_b9 := y_b9.gr hg
  replace y_b10 := y_b10.gr hg
  replace y_b11 := y_b11.gr hg
  replace y_b12 := y_b12.gr hg
  replace y_b13 := y_b13.gr hg
  replace y_b14 := y_b14.gr hg
  replace y_b15 := y_b15.gr hg
  replace y_b16 := y_b16.gr hg
  replace y_b17 := y_b17.gr hg
  replace y_b18 := y_b18.gr hg
  replace y_b19 := y_b19.gr hg
  replace y_b20 := y_b20.gr hg
  replace y_b21 := y_b21.gr hg
  replace y_b22 := y_b22.gr hg
  replace y_b23 := y_b23.gr hg
  clear z_b24
  refine wc_putF B (C := RX12) (T := TX12) (N := 51) (X2 := [(a0, .inr (12, [.int 0, .ref b1, .int 0, .ref b2, .int 0, .int 0, .int 0, .int 0, .int 0, .int 0, .int 0, .long 0, .int 0, .int 0, .int 0, .int 0, .ref b3, .ref b4, .ref b5, .ref b6, .int 0, .ref b7, .int 0, .ref b8, .ref b9, .ref b10, .ref b11, .ref b12, .ref b13, .ref b14, .ref b15, .int 0, .int 0, .int 0, .ref b16, .ref b17, .int 0, .int 0, .long 0, .long 0, .ref b18, .ref b19, .ref b20, .ref b21, .ref b22, .int 0, .ref b23, .ref b24, .null, .int 0, .int 0]))]) iq_X12_init_X12 0 rfl rfl 47 (by decide) (by decide +kernel) rfl (v := .ref b24) (ty := (.array .int)) tyX12 tyX12_ok nmX12 rfl rfl (by decide +kernel) rfl rfl (Nat.le_of_ble_eq_true rfl) rfl dX12_init_200 ?_
  refine wc_aload_n B dX12_init_203 rfl 0 rfl ?_
  refine wc_bipush B 12 dX12_init_204 (by decide) ?_
  refine wc_nI B 158 12 (by decide) (by decide) hcT hV (by decide +kernel) (by decide) (by decide) (by decide) (Nat.le_of_ble_eq_true rfl) (Nat.le_of_ble_eq_true rfl) dX12_init_206 (fun b25 M g r hg y_b25 z_b25 hcT hV => ?_)
  replace y_b1 := y_b1.gr hg
  replace y_b2 := y_b2.gr hg
  replace y_b3 := y_b3.gr hg
  replace y_b4 := y_b4.gr hg
  replace z_b4 := z_b4.gr hg
  replace y_b5 := y_b5.gr hg
  replace z_b5 := z_b5.gr hg
  replace y_b6 := y_b6.gr hg
  replace y_b7 := y_b7.gr hg
  replace y_b8 := y_b8.gr hg
  replace z_b8 := z_b8.gr hg
  replace y_b9 := y_b9.gr hg
  replace y_b10 := y_b10.gr hg
  replace y_b11 := y_b11.gr hg
  replace y_b12 := y_b12.gr hg
  replace y_b13 := y_b13.gr hg
  replace y_b14 := y_b14.gr hg
  replace y_b15 := y_b15.gr hg
  replace y_b16 := y_b16.gr hg
  replace y_b17 := y_b17.gr hg
  replace y_b18 := y_b18.gr hg
  replace y_b19 := y_b19.gr hg
  replace y_b20 := y_b20.gr hg
  replace y_b21 := y_b21.gr hg
  replace y_b22 := y_b22.gr hg
  replace y_b23 := y_b23.gr hg
  replace y_b24 := y_b24.gr hg
  clear z_b25
  refine wc_putF B (C := RX12) (T := TX12) (N := 51) (X2 := [(a0, .inr (12, [.int 0, .ref b1, .int 0, .ref b2, .int 0, .int 0, .int 0, .int 0, .int 0, .int 0, .int 0, .long 0, .int 0, .int 0, .int 0, .int 0, .ref b3, .ref b4, .ref b5, .ref b6, .int 0, .ref b7, .int 0, .ref b8, .ref b9, .ref b10, .ref b11, .ref b12, .ref b13, .ref b14, .ref b15, .int 0, .int 0, .int 0, .ref b16, .ref b17, .int 0, .int 0, .long 0, .long 0, .ref b18, .ref b19, .ref b20, .ref b21, .ref b22, .int 0, .ref b23, .ref b24, .ref b25, .int 0, .int 0]))]) iq_X12_init_X12 0 rfl rfl 48 (by decide) (by decide +kernel) rfl (v := .ref b25) (ty := (.array .int)) tyX12 tyX12_ok nmX12 rfl rfl (by decide +kernel) rfl rfl (Nat.le_of_ble_eq_true rfl) rfl dX12_init_208 ?_
  refine wc_layO (X2 := []) 0 rfl rfl (by decide) 0 (fun k => ([0, b1, 0, b2, 0, 0, 0, 0, 0, 0, 0, 0, 0, 0, 0, 0, b3, b4, b5, b6, 0, b7, 0, b8, b9, b10, b11, b12, b13, b14, b15, 0, 0, 0, b16, b17, 0, 0, 0, 0, b18, b19, b20, b21, b22, 0, b23, b24, b25, 0, 0] : List Nat).getD k 0) rfl hcT hV (by decide) [1, 3, 16, 17, 18, 19, 21, 23, 24, 25, 26, 27, 28, 29, 30, 34, 35, 40, 41, 42, 43, 44, 46, 47, 48] (by decide +kernel) (List.forall_mem_cons.mpr ⟨⟨y_b1.1, y_b1.2.1, fun _ => y_b1.2.2⟩, (List.forall_mem_cons.mpr ⟨⟨y_b2.1, y_b2.2.1, fun _ => y_b2.2.2⟩, (List.forall_mem_cons.mpr ⟨⟨y_b3.1, y_b3.2.1, fun _ => y_b3.2.2⟩, (List.forall_mem_cons.mpr ⟨⟨y_b4.1, y_b4.2.1, fun _ => y_b4.2.2⟩, (List.forall_mem_cons.mpr ⟨⟨y_b5.1, y_b5.2.1, fun _ => y_b5.2.2⟩, (List.forall_mem_cons.mpr ⟨⟨y_b6.1, y_b6.2.1, fun _ => y_b6.2.2⟩, (List.forall_mem_cons.mpr ⟨⟨y_b7.1, y_b7.2.1, fun _ => y_b7.2.2⟩, (List.forall_mem_cons.mpr ⟨⟨y_b8.1, y_b8.2.1, fun _ => y_b8.2.2⟩, (List.forall_mem_cons.mpr ⟨⟨y_b9.1, y_b9.2.1, fun _ => y_b9.2.2⟩, (List.forall_mem_cons.mpr ⟨⟨y_b10.1, y_b10.2.1, fun _ => y_b10.2.2⟩, (List.forall_mem_cons.mpr ⟨⟨y_b11.1, y_b11.2.1, fun _ => y_b11.2.2⟩, (List.forall_mem_cons.mpr ⟨⟨y_b12.1, y_b12.2.1, fun _ => y_b12.2.2⟩, (List.forall_mem_cons.mpr ⟨⟨y_b13.1, y_b13.2.1, fun _ => y_b13.2.2⟩, (List.forall_mem_cons.mpr ⟨⟨y_b14.1, y_b14.2.1, fun _ => y_b14.2.2⟩, (List.forall_mem_cons.mpr ⟨⟨y_b15.1, y_b15.2.1, fun _ => y_b15.2.2⟩, (List.forall_mem_cons.mpr ⟨⟨y_b16.1, y_b16.2.1, fun _ => y_b16.2.2⟩, (List.forall_mem_cons.mpr ⟨⟨y_b17.1, y_b17.2.1, fun _ => y_b17.2.2⟩, (List.forall_mem_cons.mpr ⟨⟨y_b18.1, y_b18.2.1, fun _ => y_b18.2.2⟩, (List.forall_mem_cons.mpr ⟨⟨y_b19.1, y_b19.2.1, fun _ => y_b19.2.2⟩, (List.forall_mem_cons.mpr ⟨⟨y_b20.1, y_b20.2.1, fun _ => y_b20.2.2⟩, (List.forall_mem_cons.mpr ⟨⟨y_b21.1, y_b21.2.1, fun _ => y_b21.2.2⟩, (List.forall_mem_cons.mpr ⟨⟨y_b22.1, y_b22.2.1, fun _ => y_b22.2.2⟩, (List.forall_mem_cons.mpr ⟨⟨y_b23.1, y_b23.2.1, fun _ => y_b23.2.2⟩, (List.forall_mem_cons.mpr ⟨⟨y_b24.1, y_b24.2.1, fun _ => y_b24.2.2⟩, (List.forall_mem_cons.mpr ⟨⟨y_b25.1, y_b25.2.1, fun _ => y_b25.2.2⟩, (fun _ h => absurd h List.not_mem_nil)⟩)⟩)⟩)⟩)⟩)⟩)⟩)⟩)⟩)⟩)⟩)⟩)⟩)⟩)⟩)⟩)⟩)⟩)⟩)⟩)⟩)⟩)⟩)⟩)⟩) (fun M g r hg yy hcT hV e1 e3 => ?_)
  replace z_b4 := z_b4.gr hg
  replace z_b5 := z_b5.gr hg
  replace z_b8 := z_b8.gr hg
  exact wc_end (mc := 25) (ms := 9770) (ex := fun u => a0 ∈ u.1 ∧ (∀ k, u.2.2.1 a0 k = 0) ∧ cc_z u.1 u.2.2 (u.2.2.2.2.1 a0 17) ∧ cc_z u.1 u.2.2 (u.2.2.2.2.1 a0 18) ∧ cc_z u.1 u.2.2 (u.2.2.2.2.1 a0 23)) ret dX12_init_211 hcT hV ⟨yy.1, yy.2.1⟩ ⟨yy.1, e1, (by show cc_z M r (r.2.2.1 a0 17); rw [e3 17]; exact z_b4), (by show cc_z M r (r.2.2.1 a0 18); rw [e3 18]; exact z_b5), (by show cc_z M r (r.2.2.1 a0 23); rw [e3 23]; exact z_b8)⟩ (Nat.le_of_ble_eq_true rfl) (Nat.le_of_ble_eq_true rfl)
