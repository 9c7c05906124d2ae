set_option maxHeartbeats 4000000 in
set_option maxRecDepth 100000 in
theorem k_X12_isFactor_c (l : Launch) (dC : Nat → ClassId) (dI : Nat → Nat → Nat) (h : Sh) (L : List Nat) (hN : sx_nd L) (q : Sg) (hV : sx_V h L q) {a0 : Nat} (ha0 : a0 ∈ L) (ka0 : h.1 a0 = 12)    : CMi l dC dI h L yX12_isFactor wsX12_isFactor ({ frames := 0, cells := 0, slots := 0, locals := 0 } : Room) q [.ref a0] (fun r q' => q = q' ∧ (r.toInt = 1 ∧ ((q.1 a0 13).toInt = -1 ∧ (2 ≤ (q.1 a0 12).toInt ∧ (q.1 a0 12).toInt ≤ 60) ∨ ¬ (q.1 a0 13).toInt = -1 ∧ (2 ≤ 10 * (q.1 a0 12).toInt + (q.1 a0 13).toInt ∧ 10 * (q.1 a0 12).toInt + (q.1 a0 13).toInt ≤ 60)) ∨ r.toInt = 0 ∧ ¬ ((q.1 a0 13).toInt = -1 ∧ (2 ≤ (q.1 a0 12).toInt ∧ (q.1 a0 12).toInt ≤ 60) ∨ ¬ (q.1 a0 13).toInt = -1 ∧ (2 ≤ 10 * (q.1 a0 12).toInt + (q.1 a0 13).toInt ∧ 10 * (q.1 a0 12).toInt + (q.1 a0 13).toInt ≤ 60)))) := by
  refine cm_z (cc := cX12_isFactor) (mL := 2) (own := RX12) hN (by decide) rfl rfl (Nat.le_of_ble_eq_true rfl) (fun Z B hret => ?_)
  show WA l dC dI h L ({ frames := 0, cells := 0, slots := 0, locals := 0 } : Room) 2 Z q 0 [(0, .ref a0)] []
  refine wa_aload_n B dX12_isFactor_0 rfl 0 rfl ?_
  refine wa_getI B (C := RX12) (T := TX12) (N := 51) iq_X12_isFactor_X12 ha0 ka0 (by decide) rfl 13 (by decide) (by decide) (by decide +kernel) rfl (by decide) (v := (q.1 a0 13)) rfl dX12_isFactor_1 ?_
  have g_1 : (-48 : Int) ≤ (q.1 a0 13).toInt ∧ (q.1 a0 13).toInt ≤ 207 := hV.int ha0 ka0 13
  refine wa_iconst B (-1) dX12_isFactor_4 (by decide) ?_
  refine wa_icmp_ne B 15 dX12_isFactor_5 (by decide) (fun (t_2 : ¬ (q.1 a0 13).toInt = (-1)) => ?_) (fun (t_2 : (q.1 a0 13).toInt = (-1)) => ?_)
  · refine wa_bipush B 10 dX12_isFactor_15 (by decide) ?_
    refine wa_aload_n B dX12_isFactor_17 rfl 0 rfl ?_
    refine wa_getI B (C := RX12) (T := TX12) (N := 51) iq_X12_isFactor_X12 ha0 ka0 (by decide) rfl 12 (by decide) (by decide) (by decide +kernel) rfl (by decide) (v := (q.1 a0 12)) rfl dX12_isFactor_18 ?_
    have g_3 : (-48 : Int) ≤ (q.1 a0 12).toInt ∧ (q.1 a0 12).toInt ≤ 207 := hV.int ha0 ka0 12
    refine wa_imul B dX12_isFactor_21 (fun v_4 ev_4 => ?_)
    refine wa_aload_n B dX12_isFactor_22 rfl 0 rfl ?_
    refine wa_getI B (C := RX12) (T := TX12) (N := 51) iq_X12_isFactor_X12 ha0 ka0 (by decide) rfl 13 (by decide) (by decide) (by decide +kernel) rfl (by decide) (v := (q.1 a0 13)) rfl dX12_isFactor_23 ?_
    refine wa_iadd B dX12_isFactor_26 (fun v_5 ev_5 => ?_)
    refine wa_istore_n B [(1, .int v_5), (0, .ref a0)] dX12_isFactor_27 rfl (by decide) rfl ?_
    have tv_4 : v_4.toInt = 10 * (q.1 a0 12).toInt := by have b1 := zx_bd (q.1 a0 12); rw [ev_4]; exact zx_mul (show (-2147483648 : Int) ≤ 10 * (q.1 a0 12).toInt by omega) (show 10 * (q.1 a0 12).toInt < (2147483648 : Int) by omega)
    have tv_5 : v_5.toInt = v_4.toInt + (q.1 a0 13).toInt := by have b0 := zx_bd v_4; have b1 := zx_bd (q.1 a0 13); rw [ev_5]; exact zx_add (show (-2147483648 : Int) ≤ v_4.toInt + (q.1 a0 13).toInt by omega) (show v_4.toInt + (q.1 a0 13).toInt < (2147483648 : Int) by omega)
    refine wa_iload_n B dX12_isFactor_28 rfl 0 rfl ?_
    refine wa_iconst B 2 dX12_isFactor_29 (by decide) ?_
    refine wa_icmp_lt B 43 dX12_isFactor_30 (by decide) (fun (t_6 : v_5.toInt < 2) => ?_) (fun (t_6 : ¬ v_5.toInt < 2) => ?_)
    · refine wa_iconst B 0 dX12_isFactor_43 (by decide) ?_
      exact hret _ _ _ _ dX12_isFactor_44 (Or.inl rfl) ⟨rfl, (by have h9 : (0 : Int32).toInt = 0 := rfl; first | omega | (refine ⟨?_, ?_⟩ <;> omega) | trivial)⟩
    · refine wa_iload_n B dX12_isFactor_33 rfl 0 rfl ?_
      refine wa_bipush B 60 dX12_isFactor_34 (by decide) ?_
      refine wa_icmp_gt B 43 dX12_isFactor_36 (by decide) (fun (t_7 : 60 < v_5.toInt) => ?_) (fun (t_7 : ¬ 60 < v_5.toInt) => ?_)
      · refine wa_iconst B 0 dX12_isFactor_43 (by decide) ?_
        exact hret _ _ _ _ dX12_isFactor_44 (Or.inl rfl) ⟨rfl, (by have h9 : (0 : Int32).toInt = 0 := rfl; first | omega | (refine ⟨?_, ?_⟩ <;> omega) | trivial)⟩
      · refine wa_iconst B 1 dX12_isFactor_39 (by decide) ?_
        refine wa_goto B 44 dX12_isFactor_40 (by decide) ?_
        exact hret _ _ _ _ dX12_isFactor_44 (Or.inr rfl) ⟨rfl, (by have h9 : (1 : Int32).toInt = 1 := rfl; first | omega | (refine ⟨?_, ?_⟩ <;> omega) | trivial)⟩
  · refine wa_aload_n B dX12_isFactor_8 rfl 0 rfl ?_
    refine wa_getI B (C := RX12) (T := TX12) (N := 51) iq_X12_isFactor_X12 ha0 ka0 (by decide) rfl 12 (by decide) (by decide) (by decide +kernel) rfl (by decide) (v := (q.1 a0 12)) rfl dX12_isFactor_9 ?_
    have g_8 : (-48 : Int) ≤ (q.1 a0 12).toInt ∧ (q.1 a0 12).toInt ≤ 207 := hV.int ha0 ka0 12
    refine wa_goto B 27 dX12_isFactor_12 (by decide) ?_
    refine wa_istore_n B [(1, .int (q.1 a0 12)), (0, .ref a0)] dX12_isFactor_27 rfl (by decide) rfl ?_
    refine wa_iload_n B dX12_isFactor_28 rfl 0 rfl ?_
    refine wa_iconst B 2 dX12_isFactor_29 (by decide) ?_
    refine wa_icmp_lt B 43 dX12_isFactor_30 (by decide) (fun (t_9 : (q.1 a0 12).toInt < 2) => ?_) (fun (t_9 : ¬ (q.1 a0 12).toInt < 2) => ?_)
    · refine wa_iconst B 0 dX12_isFactor_43 (by decide) ?_
      exact hret _ _ _ _ dX12_isFactor_44 (Or.inl rfl) ⟨rfl, (by have h9 : (0 : Int32).toInt = 0 := rfl; first | omega | (refine ⟨?_, ?_⟩ <;> omega) | trivial)⟩
    · refine wa_iload_n B dX12_isFactor_33 rfl 0 rfl ?_
      refine wa_bipush B 60 dX12_isFactor_34 (by decide) ?_
      refine wa_icmp_gt B 43 dX12_isFactor_36 (by decide) (fun (t_10 : 60 < (q.1 a0 12).toInt) => ?_) (fun (t_10 : ¬ 60 < (q.1 a0 12).toInt) => ?_)
      · refine wa_iconst B 0 dX12_isFactor_43 (by decide) ?_
        exact hret _ _ _ _ dX12_isFactor_44 (Or.inl rfl) ⟨rfl, (by have h9 : (0 : Int32).toInt = 0 := rfl; first | omega | (refine ⟨?_, ?_⟩ <;> omega) | trivial)⟩
      · refine wa_iconst B 1 dX12_isFactor_39 (by decide) ?_
        refine wa_goto B 44 dX12_isFactor_40 (by decide) ?_
        exact hret _ _ _ _ dX12_isFactor_44 (Or.inr rfl) ⟨rfl, (by have h9 : (1 : Int32).toInt = 1 := rfl; first | omega | (refine ⟨?_, ?_⟩ <;> omega) | trivial)⟩
