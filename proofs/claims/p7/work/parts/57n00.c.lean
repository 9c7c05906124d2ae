set_option maxHeartbeats 4000000 in
set_option maxRecDepth 100000 in
theorem k_X12_at_c (l : Launch) (dC : Nat → ClassId) (dI : Nat → Nat → Nat) (h : Sh) (L : List Nat) (hN : sx_nd L) (q : Sg) (hV : sx_V h L q) {a0 : Nat} (ha0 : a0 ∈ L) (ka0 : h.1 a0 = 12) (n1 : Int32) {m3 : Nat} (em3 : q.2.2.1 a0 3 = m3)   (hy0 : 0 ≤ n1.toInt) : CMi l dC dI h L yX12_at wsX12_at ({ frames := 0, cells := 0, slots := 0, locals := 0 } : Room) q [.ref a0, .int n1] (fun r q' => q = q' ∧ (n1.toInt < (q.1 a0 4).toInt ∧ r = q.2.2.2.1 m3 n1.toNatClampNeg ∨ (q.1 a0 4).toInt ≤ n1.toInt ∧ r.toInt = 0)) := by
  refine cm_i (cc := cX12_at) (mL := 2) (own := RX12) hN (by decide) rfl rfl (Nat.le_of_ble_eq_true rfl) (fun Z B hret => ?_)
  obtain ⟨hm3, km3, lm3⟩ : m3 ∈ L ∧ h.1 m3 = 113 ∧ h.2.1 m3 = 500 := by obtain ⟨r9, e9, z1, z2, z3⟩ := hV.refn (t := 113) (n := 500) ha0 ka0 3 rfl (by decide) rfl (by decide); rw [← em3, e9]; exact ⟨z1, z2, z3⟩
  show WA l dC dI h L ({ frames := 0, cells := 0, slots := 0, locals := 0 } : Room) 2 Z q 0 [(0, .ref a0), (1, .int n1)] []
  refine wa_iload_n B dX12_at_0 rfl 1 rfl ?_
  refine wa_aload_n B dX12_at_1 rfl 0 rfl ?_
  refine wa_getI B (C := RX12) (T := TX12) (N := 51) iq_X12_at_X12 ha0 ka0 (by decide) rfl 4 (by decide) (by decide) (by decide +kernel) rfl (by decide) (v := (q.1 a0 4)) rfl dX12_at_2 ?_
  have g_1 : (0 : Int) ≤ (q.1 a0 4).toInt ∧ (q.1 a0 4).toInt ≤ 500 := hV.int ha0 ka0 4
  refine wa_icmp_ge B 17 dX12_at_5 (by decide) (fun (t_2 : (q.1 a0 4).toInt ≤ n1.toInt) => ?_) (fun (t_2 : ¬ (q.1 a0 4).toInt ≤ n1.toInt) => ?_)
  · refine wa_iconst B 0 dX12_at_17 (by decide) ?_
    exact hret _ _ _ _ dX12_at_18 ⟨rfl, (Or.inr ⟨by omega, rfl⟩)⟩
  · refine wa_aload_n B dX12_at_8 rfl 0 rfl ?_
    refine wa_getR B (C := RX12) (T := TX12) (N := 51) iq_X12_at_X12 ha0 ka0 (by decide) rfl 3 (by decide) (by decide) (by decide +kernel) rfl (fun _ _ _ => rfl) (v := m3) em3 dX12_at_9 ?_
    refine wa_iload_n B dX12_at_12 rfl 1 rfl ?_
    refine wa_iaload B hm3 km3 (by decide) (by decide) (show 0 ≤ n1.toInt by omega) (show n1.toInt < (h.2.1 m3 : Int) by omega) (v := (q.2.2.2.1 m3 (n1 : Int32).toNatClampNeg)) rfl dX12_at_13 ?_
    have g_3 : (0 : Int) ≤ ((q.2.2.2.1 m3 (n1 : Int32).toNatClampNeg)).toInt ∧ ((q.2.2.2.1 m3 (n1 : Int32).toNatClampNeg)).toInt ≤ 255 := hV.cnt hm3 km3 _
    refine wa_goto B 18 dX12_at_14 (by decide) ?_
    exact hret _ _ _ _ dX12_at_18 ⟨rfl, (Or.inl ⟨by omega, rfl⟩)⟩
