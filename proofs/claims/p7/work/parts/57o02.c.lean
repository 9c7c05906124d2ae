set_option maxHeartbeats 4000000 in
set_option maxRecDepth 100000 in
theorem k_X12_isSign_c (l : Launch) (dC : Nat → ClassId) (dI : Nat → Nat → Nat) (h : Sh) (L : List Nat) (hN : sx_nd L) (q : Sg) (hV : sx_V h L q) {a0 : Nat} (ha0 : a0 ∈ L) (ka0 : h.1 a0 = 12) (n1 : Int32)    : CMi l dC dI h L yX12_isSign wsX12_isSign ({ frames := 0, cells := 0, slots := 0, locals := 0 } : Room) q [.ref a0, .int n1] (fun r q' => q = q' ∧ (r.toInt = 1 ∧ ((q.1 a0 8).toInt = 4 ∧ (q.1 a0 9).toInt = n1.toInt) ∨ r.toInt = 0 ∧ ¬ ((q.1 a0 8).toInt = 4 ∧ (q.1 a0 9).toInt = n1.toInt))) := by
  refine cm_z (cc := cX12_isSign) (mL := 2) (own := RX12) hN (by decide) rfl rfl (Nat.le_of_ble_eq_true rfl) (fun Z B hret => ?_)
  show WA l dC dI h L ({ frames := 0, cells := 0, slots := 0, locals := 0 } : Room) 2 Z q 0 [(0, .ref a0), (1, .int n1)] []
  refine wa_aload_n B dX12_isSign_0 rfl 0 rfl ?_
  refine wa_getI B (C := RX12) (T := TX12) (N := 51) iq_X12_isSign_X12 ha0 ka0 (by decide) rfl 8 (by decide) (by decide) (by decide +kernel) rfl (by decide) (v := (q.1 a0 8)) rfl dX12_isSign_1 ?_
  refine wa_iconst B 4 dX12_isSign_4 (by decide) ?_
  refine wa_icmp_ne B 20 dX12_isSign_5 (by decide) (fun (t_1 : ¬ (q.1 a0 8).toInt = 4) => ?_) (fun (t_1 : (q.1 a0 8).toInt = 4) => ?_)
  · refine wa_iconst B 0 dX12_isSign_20 (by decide) ?_
    exact hret _ _ _ _ dX12_isSign_21 (Or.inl rfl) ⟨rfl, (by have h9 : (0 : Int32).toInt = 0 := rfl; first | omega | (refine ⟨?_, ?_⟩ <;> omega) | trivial)⟩
  · refine wa_aload_n B dX12_isSign_8 rfl 0 rfl ?_
    refine wa_getI B (C := RX12) (T := TX12) (N := 51) iq_X12_isSign_X12 ha0 ka0 (by decide) rfl 9 (by decide) (by decide) (by decide +kernel) rfl (by decide) (v := (q.1 a0 9)) rfl dX12_isSign_9 ?_
    refine wa_iload_n B dX12_isSign_12 rfl 1 rfl ?_
    refine wa_icmp_ne B 20 dX12_isSign_13 (by decide) (fun (t_2 : ¬ (q.1 a0 9).toInt = n1.toInt) => ?_) (fun (t_2 : (q.1 a0 9).toInt = n1.toInt) => ?_)
    · refine wa_iconst B 0 dX12_isSign_20 (by decide) ?_
      exact hret _ _ _ _ dX12_isSign_21 (Or.inl rfl) ⟨rfl, (by have h9 : (0 : Int32).toInt = 0 := rfl; first | omega | (refine ⟨?_, ?_⟩ <;> omega) | trivial)⟩
    · refine wa_iconst B 1 dX12_isSign_16 (by decide) ?_
      refine wa_goto B 21 dX12_isSign_17 (by decide) ?_
      exact hret _ _ _ _ dX12_isSign_21 (Or.inr rfl) ⟨rfl, (by have h9 : (1 : Int32).toInt = 1 := rfl; first | omega | (refine ⟨?_, ?_⟩ <;> omega) | trivial)⟩
