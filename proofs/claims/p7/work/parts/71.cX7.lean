theorem iq_X7_init_X7 : ∀ w ∈ wsX70, w ∈ wsX7_init := fun _ h => List.mem_cons_of_mem _ (List.mem_append_right _ h)
set_option maxHeartbeats 4000000 in
set_option maxRecDepth 100000 in
theorem cc_X7 (l : Launch) (dC : Nat → ClassId) (dI : Nat → Nat → Nat) (cT : Nat → ClassId) (a0 t : Nat) (n : Int32) (N : Nat) (hN : n.toNatClampNeg = N) (h0 : ¬ n < 0) (hmx : (if (0 : Int32) < n then n else 0) = n) (hcap : sx_cap t = N ∧ N ≤ 5000 ∧ t ≤ 5000) : CCI l dC dI cT yX7_init wsX7_init ({ frames := 1, cells := 1, slots := N, locals := 18 } : Room) 7 [.null, .int 0] [.int n] a0 (fun u => cc_y u.1 u.2.1 a0 7 t ∧ cc_f u.1 u.2.2 a0 1) 1 N := by
  refine cc_v (cc := cX7_init) (own := RX7) (mL := 2) (by decide) rfl rfl rfl (Nat.le_of_ble_eq_true rfl) ?_
  intro sz Z hlt hsz B ret
  have hcT : (cc_h0 cT).2.2.1 = cT := rfl
  have hV : sx_V (cc_h0 cT) [] cc_q0 := cc_V0
  refine wc_aload_n B dX7_init_0 rfl 0 rfl ?_
  refine wc_objInit B (by decide +kernel) (by decide +kernel) (by decide +kernel) (Nat.le_of_ble_eq_true rfl) (Nat.le_of_ble_eq_true rfl) dX7_init_1 ?_
  refine wc_aload_n B dX7_init_4 rfl 0 rfl ?_
  refine wc_iconst B 0 dX7_init_5 (by decide) ?_
  refine wc_iload_n B dX7_init_6 rfl 1 rfl ?_
  refine wc_mmax B n (by decide +kernel) (by decide +kernel) (by decide +kernel) (by decide +kernel) (Nat.le_of_ble_eq_true rfl) (Nat.le_of_ble_eq_true rfl) (Nat.zero_le _) (Nat.zero_le _) dX7_init_7 hmx ?_
  refine wc_nB B 300 N (by decide) (by decide) hcT hV (by decide +kernel) h0 hN hcap.2.1 (Nat.le_of_ble_eq_true rfl) (show 0 + N ≤ N by omega) dX7_init_10 (fun b1 M g r hg y_b1 z_b1 hcT hV => ?_)
  refine wc_putF B (C := RX7) (T := TX7) (N := 2) (X2 := [(a0, .inr (7, [.ref b1, .int 0]))]) iq_X7_init_X7 0 rfl rfl 0 (by decide) (by decide +kernel) rfl (v := .ref b1) (ty := (.array .byte)) tyX7 tyX7_ok nmX7 rfl rfl (by decide +kernel) rfl rfl (Nat.le_of_ble_eq_true rfl) rfl dX7_init_12 ?_
  refine wc_aload_n B dX7_init_15 rfl 0 rfl ?_
  refine wc_iconst B 0 dX7_init_16 (by decide) ?_
  refine wc_put B (C := RX7) (T := TX7) (N := 2) (X2 := [(a0, .inr (7, [.ref b1, .int 0]))]) iq_X7_init_X7 0 rfl rfl 1 (by decide) (by decide +kernel) rfl (v := .int 0) (ty := .int) tyX7 tyX7_ok nmX7 rfl (by decide +kernel) rfl rfl (Nat.le_of_ble_eq_true rfl) rfl dX7_init_17 ?_
  refine wc_layO (X2 := []) 0 rfl rfl (by decide) t (fun k => ([b1, 0] : List Nat).getD k 0) rfl hcT hV hcap.2.2 [0] (by decide +kernel) (List.forall_mem_cons.mpr ⟨⟨y_b1.1, y_b1.2.1, fun _ => y_b1.2.2.trans hcap.1.symm⟩, fun _ h => absurd h List.not_mem_nil⟩) (fun M g r hg yy hcT hV e1 e3 => ?_)
  exact wc_end (mc := 1) (ms := N) (ex := fun u => cc_y u.1 u.2.1 a0 7 t ∧ cc_f u.1 u.2.2 a0 1) ret dX7_init_20 hcT hV ⟨yy.1, yy.2.1⟩ ⟨yy, yy.1, e1 1⟩ (Nat.le_of_ble_eq_true rfl) (show 0 + N ≤ N by omega)
