set_option maxHeartbeats 4000000 in
set_option maxRecDepth 100000 in
theorem k_X11_isSystem_c (l : Launch) (dC : Nat → ClassId) (dI : Nat → Nat → Nat) (h : Sh) (L : List Nat) (hN : sx_nd L) (q : Sg) (hV : sx_V h L q) {a0 : Nat} (ha0 : a0 ∈ L) (ka0 : h.1 a0 = 11) (n1 : Int32) {uu : Nat} (euu : q.2.2.1 a0 11 = uu)    : CMi l dC dI h L yX11_isSystem wsX11_isSystem ({ frames := 0, cells := 0, slots := 0, locals := 0 } : Room) q [.ref a0, .int n1] (fun r q' => q = q' ∧ (r.toInt = 1 ∧ 0 ≤ n1.toInt ∧ n1.toInt < (q.1 uu 6).toInt ∧ n1.toInt < 3 ∨ r.toInt = 0 ∧ ¬ (0 ≤ n1.toInt ∧ n1.toInt < (q.1 uu 6).toInt))) := by
  refine cm_z (cc := cX11_isSystem) (mL := 2) (own := RX11) hN (by decide) rfl rfl (Nat.le_of_ble_eq_true rfl) (fun Z B hret => ?_)
  obtain ⟨huu, kuu⟩ : uu ∈ L ∧ h.1 uu = 9 := by obtain ⟨r9, e9, z1, z2⟩ := hV.ref (t := 9) ha0 ka0 11 rfl (by decide); rw [← euu, e9]; exact ⟨z1, z2⟩
  show WA l dC dI h L ({ frames := 0, cells := 0, slots := 0, locals := 0 } : Room) 2 Z q 0 [(0, .ref a0), (1, .int n1)] []
  refine wa_iload_n B dX11_isSystem_0 rfl 1 rfl ?_
  refine wa_if_lt B 19 dX11_isSystem_1 (by decide) (fun (t_1 : n1.toInt < 0) => ?_) (fun (t_1 : ¬ n1.toInt < 0) => ?_)
  · refine wa_iconst B 0 dX11_isSystem_19 (by decide) ?_
    exact hret _ _ _ _ dX11_isSystem_20 (Or.inl rfl) ⟨rfl, (by have h9 : (0 : Int32).toInt = 0 := rfl; first | omega | (refine ⟨?_, ?_⟩ <;> omega) | trivial)⟩
  · refine wa_iload_n B dX11_isSystem_4 rfl 1 rfl ?_
    refine wa_aload_n B dX11_isSystem_5 rfl 0 rfl ?_
    refine wa_getR B (C := RX11) (T := TX11) (N := 16) iq_X11_isSystem_X11 ha0 ka0 (by decide) rfl 11 (by decide) (by decide) (by decide +kernel) rfl (fun _ _ _ => rfl) (v := uu) euu dX11_isSystem_6 ?_
    refine wa_getI B (C := RX9) (T := TX9) (N := 7) iq_X11_isSystem_X9 huu kuu (by decide) rfl 6 (by decide) (by decide) (by decide +kernel) rfl (by decide) (v := (q.1 uu 6)) rfl dX11_isSystem_9 ?_
    have g_2 : (0 : Int) ≤ (q.1 uu 6).toInt ∧ (q.1 uu 6).toInt ≤ 3 := hV.int huu kuu 6
    refine wa_icmp_ge B 19 dX11_isSystem_12 (by decide) (fun (t_3 : (q.1 uu 6).toInt ≤ n1.toInt) => ?_) (fun (t_3 : ¬ (q.1 uu 6).toInt ≤ n1.toInt) => ?_)
    · refine wa_iconst B 0 dX11_isSystem_19 (by decide) ?_
      exact hret _ _ _ _ dX11_isSystem_20 (Or.inl rfl) ⟨rfl, (by have h9 : (0 : Int32).toInt = 0 := rfl; first | omega | (refine ⟨?_, ?_⟩ <;> omega) | trivial)⟩
    · refine wa_iconst B 1 dX11_isSystem_15 (by decide) ?_
      refine wa_goto B 20 dX11_isSystem_16 (by decide) ?_
      exact hret _ _ _ _ dX11_isSystem_20 (Or.inr rfl) ⟨rfl, (by have h9 : (1 : Int32).toInt = 1 := rfl; first | omega | (refine ⟨?_, ?_⟩ <;> omega) | trivial)⟩
