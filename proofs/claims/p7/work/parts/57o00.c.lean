set_option maxHeartbeats 4000000 in
set_option maxRecDepth 100000 in
theorem k_X12_isKey_c (l : Launch) (dC : Nat → ClassId) (dI : Nat → Nat → Nat) (h : Sh) (L : List Nat) (hN : sx_nd L) (q : Sg) (hV : sx_V h L q) {a0 : Nat} (ha0 : a0 ∈ L) (ka0 : h.1 a0 = 12) (n1 : Int64)    : CMi l dC dI h L yX12_isKey wsX12_isKey ({ frames := 0, cells := 0, slots := 0, locals := 0 } : Room) q [.ref a0, .long n1] (fun r q' => q = q' ∧ (r.toInt = 1 ∧ ((q.1 a0 8).toInt = 2 ∧ q.2.1 a0 11 = n1) ∨ r.toInt = 0 ∧ ¬ ((q.1 a0 8).toInt = 2 ∧ q.2.1 a0 11 = n1))) := by
  refine cm_z (cc := cX12_isKey) (mL := 3) (own := RX12) hN (by decide) rfl rfl (Nat.le_of_ble_eq_true rfl) (fun Z B hret => ?_)
  show WA l dC dI h L ({ frames := 0, cells := 0, slots := 0, locals := 0 } : Room) 3 Z q 0 [(0, .ref a0), (1, .long n1)] []
  refine wa_aload_n B dX12_isKey_0 rfl 0 rfl ?_
  refine wa_getI B (C := RX12) (T := TX12) (N := 51) iq_X12_isKey_X12 ha0 ka0 (by decide) rfl 8 (by decide) (by decide) (by decide +kernel) rfl (by decide) (v := (q.1 a0 8)) rfl dX12_isKey_1 ?_
  refine wa_iconst B 2 dX12_isKey_4 (by decide) ?_
  refine wa_icmp_ne B 21 dX12_isKey_5 (by decide) (fun (t_1 : ¬ (q.1 a0 8).toInt = 2) => ?_) (fun (t_1 : (q.1 a0 8).toInt = 2) => ?_)
  · refine wa_iconst B 0 dX12_isKey_21 (by decide) ?_
    exact hret _ _ _ _ dX12_isKey_22 (Or.inl rfl) ⟨rfl, (Or.inr ⟨rfl, fun z => absurd z.1 (by omega)⟩)⟩
  · refine wa_aload_n B dX12_isKey_8 rfl 0 rfl ?_
    refine wa_getJ B (C := RX12) (T := TX12) (N := 51) iq_X12_isKey_X12 ha0 ka0 (by decide) rfl 11 (by decide) (by decide) (by decide +kernel) rfl (by decide) (v := (q.2.1 a0 11)) rfl dX12_isKey_9 ?_
    refine wa_lload_n B dX12_isKey_12 rfl 1 rfl ?_
    refine wa_lcmp B dX12_isKey_13 (fun v_2 ev_2 => ?_)
    refine wa_if_ne B 21 dX12_isKey_14 (by decide) (fun (t_3 : ¬ v_2.toInt = 0) => ?_) (fun (t_3 : v_2.toInt = 0) => ?_)
    · refine wa_iconst B 0 dX12_isKey_21 (by decide) ?_
      exact hret _ _ _ _ dX12_isKey_22 (Or.inl rfl) ⟨rfl, (Or.inr ⟨rfl, fun z => pz_cne ev_2 (by omega) z.2⟩)⟩
    · refine wa_iconst B 1 dX12_isKey_17 (by decide) ?_
      refine wa_goto B 22 dX12_isKey_18 (by decide) ?_
      exact hret _ _ _ _ dX12_isKey_22 (Or.inr rfl) ⟨rfl, (Or.inl ⟨rfl, by omega, pz_ceq ev_2 (by omega)⟩)⟩
