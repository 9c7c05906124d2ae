set_option maxHeartbeats 4000000 in
set_option maxRecDepth 100000 in
theorem k_X12_isLetter_c (l : Launch) (dC : Nat → ClassId) (dI : Nat → Nat → Nat) (h : Sh) (L : List Nat) (hN : sx_nd L) (q : Sg) (hV : sx_V h L q) (n1 : Int32)    : CMi l dC dI h L yX12_isLetter wsX12_isLetter ({ frames := 0, cells := 0, slots := 0, locals := 0 } : Room) q [.int n1] (fun r q' => q = q' ∧ (r.toInt = 1 ∧ (97 ≤ n1.toInt ∧ n1.toInt ≤ 122) ∨ r.toInt = 0 ∧ ¬ (97 ≤ n1.toInt ∧ n1.toInt ≤ 122))) := by
  refine cm_z (cc := cX12_isLetter) (mL := 1) (own := RX12) hN (by decide) rfl rfl (Nat.le_of_ble_eq_true rfl) (fun Z B hret => ?_)
  show WA l dC dI h L ({ frames := 0, cells := 0, slots := 0, locals := 0 } : Room) 1 Z q 0 [(0, .int n1)] []
  refine wa_iload_n B dX12_isLetter_0 rfl 0 rfl ?_
  refine wa_bipush B 97 dX12_isLetter_1 (by decide) ?_
  refine wa_icmp_lt B 16 dX12_isLetter_3 (by decide) (fun (t_1 : n1.toInt < 97) => ?_) (fun (t_1 : ¬ n1.toInt < 97) => ?_)
  · refine wa_iconst B 0 dX12_isLetter_16 (by decide) ?_
    exact hret _ _ _ _ dX12_isLetter_17 (Or.inl rfl) ⟨rfl, (by have h9 : (0 : Int32).toInt = 0 := rfl; first | omega | (refine ⟨?_, ?_⟩ <;> omega) | trivial)⟩
  · refine wa_iload_n B dX12_isLetter_6 rfl 0 rfl ?_
    refine wa_bipush B 122 dX12_isLetter_7 (by decide) ?_
    refine wa_icmp_gt B 16 dX12_isLetter_9 (by decide) (fun (t_2 : 122 < n1.toInt) => ?_) (fun (t_2 : ¬ 122 < n1.toInt) => ?_)
    · refine wa_iconst B 0 dX12_isLetter_16 (by decide) ?_
      exact hret _ _ _ _ dX12_isLetter_17 (Or.inl rfl) ⟨rfl, (by have h9 : (0 : Int32).toInt = 0 := rfl; first | omega | (refine ⟨?_, ?_⟩ <;> omega) | trivial)⟩
    · refine wa_iconst B 1 dX12_isLetter_12 (by decide) ?_
      refine wa_goto B 17 dX12_isLetter_13 (by decide) ?_
      exact hret _ _ _ _ dX12_isLetter_17 (Or.inr rfl) ⟨rfl, (by have h9 : (1 : Int32).toInt = 1 := rfl; first | omega | (refine ⟨?_, ?_⟩ <;> omega) | trivial)⟩
