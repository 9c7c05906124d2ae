set_option maxHeartbeats 4000000 in
set_option maxRecDepth 100000 in
theorem k_X12_isCount_c (l : Launch) (dC : Nat → ClassId) (dI : Nat → Nat → Nat) (h : Sh) (L : List Nat) (hN : sx_nd L) (q : Sg) (hV : sx_V h L q) {a0 : Nat} (ha0 : a0 ∈ L) (ka0 : h.1 a0 = 12) (n1 : Int32)   (hy0 : (q.1 a0 10).toInt = 0) : CMi l dC dI h L yX12_isCount wsX12_isCount ({ frames := 1, cells := 0, slots := 0, locals := 20 } : Room) q [.ref a0, .int n1] (fun r q' => q = q' ∧ (r.toInt = 1 ∧ (48 ≤ n1.toInt ∧ n1.toInt ≤ 57) ∨ r.toInt = 0 ∧ ¬ (48 ≤ n1.toInt ∧ n1.toInt ≤ 57))) := by
  refine cm_z (cc := cX12_isCount) (mL := 2) (own := RX12) hN (by decide) rfl rfl (Nat.le_of_ble_eq_true rfl) (fun Z B hret => ?_)
  show WA l dC dI h L ({ frames := 1, cells := 0, slots := 0, locals := 20 } : Room) 2 Z q 0 [(0, .ref a0), (1, .int n1)] []
  refine wa_iload_n B dX12_isCount_0 rfl 1 rfl ?_
  refine wa_callSi B (As := [.int n1]) (rest := []) (k_X12_isDigit_c l dC dI h L hN q hV n1  ) (va_cwS 1 B.1.2.2.2.2 gX12_isCount_X12_isDigit rfl rfl rfl (by decide +kernel) ⟨Nat.le_of_ble_eq_true rfl, Nat.le_of_ble_eq_true rfl⟩) rfl rfl (Nat.le_of_ble_eq_true rfl) dX12_isCount_1 (fun r_2 q_1 w_3 => ?_)
  obtain ⟨ew_3, hw_3⟩ := w_3
  subst ew_3
  refine wa_if_ne B 20 dX12_isCount_4 (by decide) (fun (t_4 : ¬ r_2.toInt = 0) => ?_) (fun (t_4 : r_2.toInt = 0) => ?_)
  · refine wa_iconst B 1 dX12_isCount_20 (by decide) ?_
    refine wa_goto B 25 dX12_isCount_21 (by decide) ?_
    exact hret _ _ _ _ dX12_isCount_25 (Or.inr rfl) ⟨rfl, (by have h9 : (1 : Int32).toInt = 1 := rfl; first | omega | (refine ⟨?_, ?_⟩ <;> omega) | trivial)⟩
  · refine wa_aload_n B dX12_isCount_7 rfl 0 rfl ?_
    refine wa_getI B (C := RX12) (T := TX12) (N := 51) iq_X12_isCount_X12 ha0 ka0 (by decide) rfl 10 (by decide) (by decide) (by decide +kernel) rfl (by decide) (v := (q.1 a0 10)) rfl dX12_isCount_8 ?_
    refine wa_if_eq B 24 dX12_isCount_11 (by decide) (fun (t_5 : (q.1 a0 10).toInt = 0) => ?_) (fun (t_5 : ¬ (q.1 a0 10).toInt = 0) => ?_)
    · refine wa_iconst B 0 dX12_isCount_24 (by decide) ?_
      exact hret _ _ _ _ dX12_isCount_25 (Or.inl rfl) ⟨rfl, (by have h9 : (0 : Int32).toInt = 0 := rfl; first | omega | (refine ⟨?_, ?_⟩ <;> omega) | trivial)⟩
    · refine wa_iload_n B dX12_isCount_14 rfl 1 rfl ?_
      refine wa_bipush B 63 dX12_isCount_15 (by decide) ?_
      refine wa_icmp_ne B 24 dX12_isCount_17 (by decide) (fun (t_6 : ¬ n1.toInt = 63) => ?_) (fun (t_6 : n1.toInt = 63) => ?_)
      · refine wa_iconst B 0 dX12_isCount_24 (by decide) ?_
        exact hret _ _ _ _ dX12_isCount_25 (Or.inl rfl) ⟨rfl, (by have h9 : (0 : Int32).toInt = 0 := rfl; first | omega | (refine ⟨?_, ?_⟩ <;> omega) | trivial)⟩
      · refine wa_iconst B 1 dX12_isCount_20 (by decide) ?_
        refine wa_goto B 25 dX12_isCount_21 (by decide) ?_
        exact hret _ _ _ _ dX12_isCount_25 (Or.inr rfl) ⟨rfl, (by have h9 : (1 : Int32).toInt = 1 := rfl; first | omega | (refine ⟨?_, ?_⟩ <;> omega) | trivial)⟩
