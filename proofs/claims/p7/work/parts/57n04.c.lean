set_option maxHeartbeats 4000000 in
set_option maxRecDepth 100000 in
theorem k_X12_digitOf_c (l : Launch) (dC : Nat → ClassId) (dI : Nat → Nat → Nat) (h : Sh) (L : List Nat) (hN : sx_nd L) (q : Sg) (hV : sx_V h L q) (n1 : Int32)   (hy0 : 0 ≤ n1.toInt) (hy1 : n1.toInt ≤ 255) : CMi l dC dI h L yX12_digitOf wsX12_digitOf ({ frames := 0, cells := 0, slots := 0, locals := 0 } : Room) q [.int n1] (fun r q' => q = q' ∧ ((-48) ≤ r.toInt ∧ r.toInt ≤ 207 ∧ (n1.toInt = 63 ∧ r.toInt = 10 ∨ ¬ n1.toInt = 63 ∧ r.toInt = n1.toInt - 48))) := by
  refine cm_i (cc := cX12_digitOf) (mL := 1) (own := RX12) hN (by decide) rfl rfl (Nat.le_of_ble_eq_true rfl) (fun Z B hret => ?_)
  show WA l dC dI h L ({ frames := 0, cells := 0, slots := 0, locals := 0 } : Room) 1 Z q 0 [(0, .int n1)] []
  refine wa_iload_n B dX12_digitOf_0 rfl 0 rfl ?_
  refine wa_bipush B 63 dX12_digitOf_1 (by decide) ?_
  refine wa_icmp_ne B 11 dX12_digitOf_3 (by decide) (fun (t_1 : ¬ n1.toInt = 63) => ?_) (fun (t_1 : n1.toInt = 63) => ?_)
  · refine wa_iload_n B dX12_digitOf_11 rfl 0 rfl ?_
    refine wa_bipush B 48 dX12_digitOf_12 (by decide) ?_
    refine wa_isub B dX12_digitOf_14 (fun v_2 ev_2 => ?_)
    have tv_2 : v_2.toInt = n1.toInt - 48 := by have b0 := zx_bd n1; rw [ev_2]; exact zx_sub (show (-2147483648 : Int) ≤ n1.toInt - 48 by omega) (show n1.toInt - 48 < (2147483648 : Int) by omega)
    exact hret _ _ _ _ dX12_digitOf_15 ⟨rfl, (by first | omega | (refine ⟨?_, ?_⟩ <;> omega) | trivial)⟩
  · refine wa_bipush B 10 dX12_digitOf_6 (by decide) ?_
    refine wa_goto B 15 dX12_digitOf_8 (by decide) ?_
    exact hret _ _ _ _ dX12_digitOf_15 ⟨rfl, (by have h9 : (10 : Int32).toInt = 10 := rfl; first | omega | (refine ⟨?_, ?_⟩ <;> omega) | trivial)⟩
