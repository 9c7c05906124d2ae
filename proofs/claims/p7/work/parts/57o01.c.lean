set_option maxHeartbeats 4000000 in
set_option maxRecDepth 100000 in
theorem k_X12_isFree_c (l : Launch) (dC : Nat → ClassId) (dI : Nat → Nat → Nat) (h : Sh) (L : List Nat) (hN : sx_nd L) (q : Sg) (hV : sx_V h L q) {a0 : Nat} (ha0 : a0 ∈ L) (ka0 : h.1 a0 = 12)    : CMi l dC dI h L yX12_isFree wsX12_isFree ({ frames := 0, cells := 0, slots := 0, locals := 0 } : Room) q [.ref a0] (fun r q' => q = q' ∧ (r.toInt = 1 ∧ ((q.1 a0 8).toInt = 2 ∧ ¬ q.2.1 a0 11 = 286303963 ∧ ¬ q.2.1 a0 11 = 10938684 ∧ ¬ q.2.1 a0 11 = 4075492) ∨ r.toInt = 0 ∧ ¬ ((q.1 a0 8).toInt = 2 ∧ ¬ q.2.1 a0 11 = 286303963 ∧ ¬ q.2.1 a0 11 = 10938684 ∧ ¬ q.2.1 a0 11 = 4075492))) := by
  refine cm_z (cc := cX12_isFree) (mL := 1) (own := RX12) hN (by decide) rfl rfl (Nat.le_of_ble_eq_true rfl) (fun Z B hret => ?_)
  show WA l dC dI h L ({ frames := 0, cells := 0, slots := 0, locals := 0 } : Room) 1 Z q 0 [(0, .ref a0)] []
  refine wa_aload_n B dX12_isFree_0 rfl 0 rfl ?_
  refine wa_getI B (C := RX12) (T := TX12) (N := 51) iq_X12_isFree_X12 ha0 ka0 (by decide) rfl 8 (by decide) (by decide) (by decide +kernel) rfl (by decide) (v := (q.1 a0 8)) rfl dX12_isFree_1 ?_
  refine wa_iconst B 2 dX12_isFree_4 (by decide) ?_
  refine wa_icmp_ne B 45 dX12_isFree_5 (by decide) (fun (t_1 : ¬ (q.1 a0 8).toInt = 2) => ?_) (fun (t_1 : (q.1 a0 8).toInt = 2) => ?_)
  · refine wa_iconst B 0 dX12_isFree_45 (by decide) ?_
    exact hret _ _ _ _ dX12_isFree_46 (Or.inl rfl) ⟨rfl, (Or.inr ⟨rfl, fun z => absurd z.1 (by omega)⟩)⟩
  · refine wa_aload_n B dX12_isFree_8 rfl 0 rfl ?_
    refine wa_getJ B (C := RX12) (T := TX12) (N := 51) iq_X12_isFree_X12 ha0 ka0 (by decide) rfl 11 (by decide) (by decide) (by decide +kernel) rfl (by decide) (v := (q.2.1 a0 11)) rfl dX12_isFree_9 ?_
    refine wa_gets0 B (by decide +kernel) dX12_isFree_12 ?_
    refine wa_lcmp B dX12_isFree_15 (fun v_2 ev_2 => ?_)
    refine wa_if_eq B 45 dX12_isFree_16 (by decide) (fun (t_3 : v_2.toInt = 0) => ?_) (fun (t_3 : ¬ v_2.toInt = 0) => ?_)
    · refine wa_iconst B 0 dX12_isFree_45 (by decide) ?_
      exact hret _ _ _ _ dX12_isFree_46 (Or.inl rfl) ⟨rfl, (Or.inr ⟨rfl, fun z => absurd (pz_ceq ev_2 (by omega)) z.2.1⟩)⟩
    · refine wa_aload_n B dX12_isFree_19 rfl 0 rfl ?_
      refine wa_getJ B (C := RX12) (T := TX12) (N := 51) iq_X12_isFree_X12 ha0 ka0 (by decide) rfl 11 (by decide) (by decide) (by decide +kernel) rfl (by decide) (v := (q.2.1 a0 11)) rfl dX12_isFree_20 ?_
      refine wa_gets1 B (by decide +kernel) dX12_isFree_23 ?_
      refine wa_lcmp B dX12_isFree_26 (fun v_4 ev_4 => ?_)
      refine wa_if_eq B 45 dX12_isFree_27 (by decide) (fun (t_5 : v_4.toInt = 0) => ?_) (fun (t_5 : ¬ v_4.toInt = 0) => ?_)
      · refine wa_iconst B 0 dX12_isFree_45 (by decide) ?_
        exact hret _ _ _ _ dX12_isFree_46 (Or.inl rfl) ⟨rfl, (Or.inr ⟨rfl, fun z => absurd (pz_ceq ev_4 (by omega)) z.2.2.1⟩)⟩
      · refine wa_aload_n B dX12_isFree_30 rfl 0 rfl ?_
        refine wa_getJ B (C := RX12) (T := TX12) (N := 51) iq_X12_isFree_X12 ha0 ka0 (by decide) rfl 11 (by decide) (by decide) (by decide +kernel) rfl (by decide) (v := (q.2.1 a0 11)) rfl dX12_isFree_31 ?_
        refine wa_gets2 B (by decide +kernel) dX12_isFree_34 ?_
        refine wa_lcmp B dX12_isFree_37 (fun v_6 ev_6 => ?_)
        refine wa_if_eq B 45 dX12_isFree_38 (by decide) (fun (t_7 : v_6.toInt = 0) => ?_) (fun (t_7 : ¬ v_6.toInt = 0) => ?_)
        · refine wa_iconst B 0 dX12_isFree_45 (by decide) ?_
          exact hret _ _ _ _ dX12_isFree_46 (Or.inl rfl) ⟨rfl, (Or.inr ⟨rfl, fun z => absurd (pz_ceq ev_6 (by omega)) z.2.2.2⟩)⟩
        · refine wa_iconst B 1 dX12_isFree_41 (by decide) ?_
          refine wa_goto B 46 dX12_isFree_42 (by decide) ?_
          exact hret _ _ _ _ dX12_isFree_46 (Or.inr rfl) ⟨rfl, (Or.inl ⟨rfl, by omega, pz_cne ev_2 (by omega), pz_cne ev_4 (by omega), pz_cne ev_6 (by omega)⟩)⟩
