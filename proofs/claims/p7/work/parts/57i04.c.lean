set_option maxHeartbeats 4000000 in
set_option maxRecDepth 100000 in
theorem k_X9_isFull_c (l : Launch) (dC : Nat → ClassId) (dI : Nat → Nat → Nat) (h : Sh) (L : List Nat) (hN : sx_nd L) (q : Sg) (hV : sx_V h L q) {a0 : Nat} (ha0 : a0 ∈ L) (ka0 : h.1 a0 = 9) {c0 : Nat} (ec0 : q.2.2.1 a0 1 = c0)    : CMi l dC dI h L yX9_isFull wsX9_isFull ({ frames := 0, cells := 0, slots := 0, locals := 0 } : Room) q [.ref a0] (fun r q' => q = q' ∧ (r.toInt = 1 ∧ ((q.1 a0 6).toInt < 1 ∨ 5 ≤ (q.2.2.2.1 c0 (q.1 a0 6 - 1).toNatClampNeg).toInt) ∨ r.toInt = 0 ∧ 1 ≤ (q.1 a0 6).toInt ∧ (q.2.2.2.1 c0 (q.1 a0 6 - 1).toNatClampNeg).toInt < 5)) := by
  refine cm_z (cc := cX9_isFull) (mL := 1) (own := RX9) hN (by decide) rfl rfl (Nat.le_of_ble_eq_true rfl) (fun Z B hret => ?_)
  obtain ⟨hc0, kc0, lc0⟩ : c0 ∈ L ∧ h.1 c0 = 101 ∧ h.2.1 c0 = 3 := by obtain ⟨r9, e9, z1, z2, z3⟩ := hV.refn (t := 101) (n := 3) ha0 ka0 1 rfl (by decide) rfl (by decide); rw [← ec0, e9]; exact ⟨z1, z2, z3⟩
  show WA l dC dI h L ({ frames := 0, cells := 0, slots := 0, locals := 0 } : Room) 1 Z q 0 [(0, .ref a0)] []
  refine wa_aload_n B dX9_isFull_0 rfl 0 rfl ?_
  refine wa_getI B (C := RX9) (T := TX9) (N := 7) iq_X9_isFull_X9 ha0 ka0 (by decide) rfl 6 (by decide) (by decide) (by decide +kernel) rfl (by decide) (v := (q.1 a0 6)) rfl dX9_isFull_1 ?_
  have g_1 : (0 : Int) ≤ (q.1 a0 6).toInt ∧ (q.1 a0 6).toInt ≤ 3 := hV.int ha0 ka0 6
  refine wa_iconst B 1 dX9_isFull_4 (by decide) ?_
  refine wa_icmp_lt B 23 dX9_isFull_5 (by decide) (fun (t_2 : (q.1 a0 6).toInt < 1) => ?_) (fun (t_2 : ¬ (q.1 a0 6).toInt < 1) => ?_)
  · refine wa_iconst B 1 dX9_isFull_23 (by decide) ?_
    refine wa_goto B 28 dX9_isFull_24 (by decide) ?_
    exact hret _ _ _ _ dX9_isFull_28 (Or.inr rfl) ⟨rfl, (by have h9 : (1 : Int32).toInt = 1 := rfl; first | omega | (refine ⟨?_, ?_⟩ <;> omega) | trivial)⟩
  · refine wa_aload_n B dX9_isFull_8 rfl 0 rfl ?_
    refine wa_getR B (C := RX9) (T := TX9) (N := 7) iq_X9_isFull_X9 ha0 ka0 (by decide) rfl 1 (by decide) (by decide) (by decide +kernel) rfl (fun _ _ _ => rfl) (v := c0) ec0 dX9_isFull_9 ?_
    refine wa_aload_n B dX9_isFull_12 rfl 0 rfl ?_
    refine wa_getI B (C := RX9) (T := TX9) (N := 7) iq_X9_isFull_X9 ha0 ka0 (by decide) rfl 6 (by decide) (by decide) (by decide +kernel) rfl (by decide) (v := (q.1 a0 6)) rfl dX9_isFull_13 ?_
    refine wa_iconst B 1 dX9_isFull_16 (by decide) ?_
    refine wa_isub B dX9_isFull_17 (fun v_3 ev_3 => ?_)
    have tv_3 : v_3.toInt = (q.1 a0 6).toInt - 1 := by have b0 := zx_bd (q.1 a0 6); rw [ev_3]; exact zx_sub (show (-2147483648 : Int) ≤ (q.1 a0 6).toInt - 1 by omega) (show (q.1 a0 6).toInt - 1 < (2147483648 : Int) by omega)
    refine wa_iaload B hc0 kc0 (by decide) (by decide) (show 0 ≤ v_3.toInt by omega) (show v_3.toInt < (h.2.1 c0 : Int) by omega) (v := (q.2.2.2.1 c0 (v_3 : Int32).toNatClampNeg)) rfl dX9_isFull_18 ?_
    have g_4 : (0 : Int) ≤ ((q.2.2.2.1 c0 (v_3 : Int32).toNatClampNeg)).toInt ∧ ((q.2.2.2.1 c0 (v_3 : Int32).toNatClampNeg)).toInt ≤ 5 := hV.cnt hc0 kc0 _
    have u9 : (q.2.2.2.1 c0 (v_3 : Int32).toNatClampNeg).toInt = (q.2.2.2.1 c0 (q.1 a0 6 - 1).toNatClampNeg).toInt := by rw [ev_3]
    refine wa_iconst B 5 dX9_isFull_19 (by decide) ?_
    refine wa_icmp_lt B 27 dX9_isFull_20 (by decide) (fun (t_5 : ((q.2.2.2.1 c0 (v_3 : Int32).toNatClampNeg)).toInt < 5) => ?_) (fun (t_5 : ¬ ((q.2.2.2.1 c0 (v_3 : Int32).toNatClampNeg)).toInt < 5) => ?_)
    · refine wa_iconst B 0 dX9_isFull_27 (by decide) ?_
      exact hret _ _ _ _ dX9_isFull_28 (Or.inl rfl) ⟨rfl, (by have h9 : (0 : Int32).toInt = 0 := rfl; first | omega | (refine ⟨?_, ?_⟩ <;> omega) | trivial)⟩
    · refine wa_iconst B 1 dX9_isFull_23 (by decide) ?_
      refine wa_goto B 28 dX9_isFull_24 (by decide) ?_
      exact hret _ _ _ _ dX9_isFull_28 (Or.inr rfl) ⟨rfl, (by have h9 : (1 : Int32).toInt = 1 := rfl; first | omega | (refine ⟨?_, ?_⟩ <;> omega) | trivial)⟩
