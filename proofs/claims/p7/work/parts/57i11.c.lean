set_option maxHeartbeats 4000000 in
set_option maxRecDepth 100000 in
theorem k_X8_number_c (l : Launch) (dC : Nat → ClassId) (dI : Nat → Nat → Nat) (h : Sh) (L : List Nat) (hN : sx_nd L) (q : Sg) (hV : sx_V h L q) {a0 : Nat} (ha0 : a0 ∈ L) (ka0 : h.1 a0 = 8)   (hy0 : (q.1 a0 3).toInt = -1 ∨ 0 ≤ (q.1 a0 3).toInt ∧ (q.1 a0 3).toInt ≤ 9 ∧ 0 ≤ (q.1 a0 4).toInt ∧ (q.1 a0 4).toInt ≤ 9) : CMi l dC dI h L yX8_number wsX8_number ({ frames := 0, cells := 0, slots := 0, locals := 0 } : Room) q [.ref a0] (fun r q' => q = q' ∧ ((q.1 a0 3).toInt = -1 ∧ r.toInt = (q.1 a0 4).toInt ∨ ¬ (q.1 a0 3).toInt = -1 ∧ r.toInt = 10 * (q.1 a0 3).toInt + (q.1 a0 4).toInt)) := by
  refine cm_i (cc := cX8_number) (mL := 1) (own := RX8) hN (by decide) rfl rfl (Nat.le_of_ble_eq_true rfl) (fun Z B hret => ?_)
  show WA l dC dI h L ({ frames := 0, cells := 0, slots := 0, locals := 0 } : Room) 1 Z q 0 [(0, .ref a0)] []
  refine wa_aload_n B dX8_number_0 rfl 0 rfl ?_
  refine wa_getI B (C := RX8) (T := TX8) (N := 11) iq_X8_number_X8 ha0 ka0 (by decide) rfl 3 (by decide) (by decide) (by decide +kernel) rfl (by decide) (v := (q.1 a0 3)) rfl dX8_number_1 ?_
  refine wa_iconst B (-1) dX8_number_4 (by decide) ?_
  refine wa_icmp_ne B 15 dX8_number_5 (by decide) (fun (t_1 : ¬ (q.1 a0 3).toInt = (-1)) => ?_) (fun (t_1 : (q.1 a0 3).toInt = (-1)) => ?_)
  · refine wa_bipush B 10 dX8_number_15 (by decide) ?_
    refine wa_aload_n B dX8_number_17 rfl 0 rfl ?_
    refine wa_getI B (C := RX8) (T := TX8) (N := 11) iq_X8_number_X8 ha0 ka0 (by decide) rfl 3 (by decide) (by decide) (by decide +kernel) rfl (by decide) (v := (q.1 a0 3)) rfl dX8_number_18 ?_
    refine wa_imul B dX8_number_21 (fun v_2 ev_2 => ?_)
    refine wa_aload_n B dX8_number_22 rfl 0 rfl ?_
    refine wa_getI B (C := RX8) (T := TX8) (N := 11) iq_X8_number_X8 ha0 ka0 (by decide) rfl 4 (by decide) (by decide) (by decide +kernel) rfl (by decide) (v := (q.1 a0 4)) rfl dX8_number_23 ?_
    refine wa_iadd B dX8_number_26 (fun v_3 ev_3 => ?_)
    have tv_2 : v_2.toInt = 10 * (q.1 a0 3).toInt := by have b1 := zx_bd (q.1 a0 3); rw [ev_2]; exact zx_mul (show (-2147483648 : Int) ≤ 10 * (q.1 a0 3).toInt by omega) (show 10 * (q.1 a0 3).toInt < (2147483648 : Int) by omega)
    have tv_3 : v_3.toInt = v_2.toInt + (q.1 a0 4).toInt := by have b0 := zx_bd v_2; have b1 := zx_bd (q.1 a0 4); rw [ev_3]; exact zx_add (show (-2147483648 : Int) ≤ v_2.toInt + (q.1 a0 4).toInt by omega) (show v_2.toInt + (q.1 a0 4).toInt < (2147483648 : Int) by omega)
    exact hret _ _ _ _ dX8_number_27 ⟨rfl, (by first | omega | (refine ⟨?_, ?_⟩ <;> omega) | trivial)⟩
  · refine wa_aload_n B dX8_number_8 rfl 0 rfl ?_
    refine wa_getI B (C := RX8) (T := TX8) (N := 11) iq_X8_number_X8 ha0 ka0 (by decide) rfl 4 (by decide) (by decide) (by decide +kernel) rfl (by decide) (v := (q.1 a0 4)) rfl dX8_number_9 ?_
    refine wa_goto B 27 dX8_number_12 (by decide) ?_
    exact hret _ _ _ _ dX8_number_27 ⟨rfl, (by first | omega | (refine ⟨?_, ?_⟩ <;> omega) | trivial)⟩
