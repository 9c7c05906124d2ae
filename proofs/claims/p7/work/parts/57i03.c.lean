set_option maxHeartbeats 4000000 in
set_option maxRecDepth 100000 in
theorem k_X9_addSystem_c (l : Launch) (dC : Nat → ClassId) (dI : Nat → Nat → Nat) (h : Sh) (L : List Nat) (hN : sx_nd L) (q : Sg) (hV : sx_V h L q) {a0 : Nat} (ha0 : a0 ∈ L) (ka0 : h.1 a0 = 9) (n1 : Int64) {s0 : Nat} (es0 : q.2.2.1 a0 0 = s0)   (hy0 : (q.1 a0 6).toInt < 3) : CMv l dC dI h L yX9_addSystem wsX9_addSystem ({ frames := 0, cells := 0, slots := 0, locals := 0 } : Room) q [.ref a0, .long n1] (fun q' => sx_V h L q' ∧ sx_fr h L (fun a => a = a0 ∧ h.1 a = 9 ∨ a = s0 ∧ h.1 a = 201) q q' ∧ ((q'.1 a0 6).toInt = (q.1 a0 6).toInt + 1 ∧ q'.2.2.2.2 s0 = vp_updL (q.2.2.2.2 s0) (q.1 a0 6).toNatClampNeg n1)) := by
  refine cm_v (cc := cX9_addSystem) (mL := 3) (own := RX9) hN (by decide) rfl rfl (Nat.le_of_ble_eq_true rfl) (fun Z B hret => ?_)
  have hF : sx_fr h L (fun a => a = a0 ∧ h.1 a = 9 ∨ a = s0 ∧ h.1 a = 201) q q := sx_fr.rf
  obtain ⟨hs0, ks0, ls0⟩ : s0 ∈ L ∧ h.1 s0 = 201 ∧ h.2.1 s0 = 3 := by obtain ⟨r9, e9, z1, z2, z3⟩ := hV.refn (t := 201) (n := 3) ha0 ka0 0 rfl (by decide) rfl (by decide); rw [← es0, e9]; exact ⟨z1, z2, z3⟩
  show WA l dC dI h L ({ frames := 0, cells := 0, slots := 0, locals := 0 } : Room) 3 Z q 0 [(0, .ref a0), (1, .long n1)] []
  refine wa_aload_n B dX9_addSystem_0 rfl 0 rfl ?_
  refine wa_getI B (C := RX9) (T := TX9) (N := 7) iq_X9_addSystem_X9 ha0 ka0 (by decide) rfl 6 (by decide) (by decide) (by decide +kernel) rfl (by decide) (v := (q.1 a0 6)) rfl dX9_addSystem_1 ?_
  have g_1 : (0 : Int) ≤ (q.1 a0 6).toInt ∧ (q.1 a0 6).toInt ≤ 3 := hV.int ha0 ka0 6
  refine wa_iconst B 3 dX9_addSystem_4 (by decide) ?_
  refine wa_icmp_ge B 28 dX9_addSystem_5 (by decide) (fun (t_2 : 3 ≤ (q.1 a0 6).toInt) => ?_) (fun (t_2 : ¬ 3 ≤ (q.1 a0 6).toInt) => ?_)
  · exact hret _ _ _ dX9_addSystem_28 ⟨hV, hF, ⟨by omega, by exfalso; omega⟩⟩
  · refine wa_aload_n B dX9_addSystem_8 rfl 0 rfl ?_
    refine wa_getR B (C := RX9) (T := TX9) (N := 7) iq_X9_addSystem_X9 ha0 ka0 (by decide) rfl 0 (by decide) (by decide) (by decide +kernel) rfl (fun _ _ _ => rfl) (v := s0) es0 dX9_addSystem_9 ?_
    refine wa_aload_n B dX9_addSystem_12 rfl 0 rfl ?_
    refine wa_getI B (C := RX9) (T := TX9) (N := 7) iq_X9_addSystem_X9 ha0 ka0 (by decide) rfl 6 (by decide) (by decide) (by decide +kernel) rfl (by decide) (v := (q.1 a0 6)) rfl dX9_addSystem_13 ?_
    refine wa_lload_n B dX9_addSystem_16 rfl 1 rfl ?_
    refine wa_lastore B hs0 ks0 (by decide) (by decide) (show 0 ≤ (q.1 a0 6).toInt by omega) (show (q.1 a0 6).toInt < (h.2.1 s0 : Int) by omega) dX9_addSystem_17 (fun q_3 eq_3 => ?_)
    have hV_q_3 : sx_V h L q_3 := by rw [eq_3]; exact hV.pL
    have hF_q_3 : sx_fr h L (fun a => a = a0 ∧ h.1 a = 9 ∨ a = s0 ∧ h.1 a = 201) q q_3 := hF.tr (by rw [eq_3]; exact sx_fr.pL (show h.1 s0 = 200 ∨ (s0 = a0 ∧ h.1 s0 = 9 ∨ s0 = s0 ∧ h.1 s0 = 201) from Or.inr (Or.inr ⟨rfl, ks0⟩)))
    have z_4 : q_3.2.2.2.2 s0 = (vp_updL (q.2.2.2.2 s0) ((q.1 a0 6) : Int32).toNatClampNeg n1) := by rw [eq_3, sg_pL_e]
    have z_5 : q_3.2.2.2.2 s0 ((q.1 a0 6) : Int32).toNatClampNeg = n1 := by rw [eq_3, sg_pL_e]; exact if_pos rfl
    refine wa_aload_n B dX9_addSystem_18 rfl 0 rfl ?_
    refine wa_dup B dX9_addSystem_19 rfl ?_
    have z_6 : q_3.1 a0 6 = q.1 a0 6 := (show q_3.1 a0 6 = q.1 a0 6 from by rw [eq_3]; rfl)
    refine wa_getI B (C := RX9) (T := TX9) (N := 7) iq_X9_addSystem_X9 ha0 ka0 (by decide) rfl 6 (by decide) (by decide) (by decide +kernel) rfl (by decide) (v := (q.1 a0 6)) z_6 dX9_addSystem_20 ?_
    refine wa_iconst B 1 dX9_addSystem_23 (by decide) ?_
    refine wa_iadd B dX9_addSystem_24 (fun v_7 ev_7 => ?_)
    have tv_7 : v_7.toInt = (q.1 a0 6).toInt + 1 := by have b0 := zx_bd (q.1 a0 6); rw [ev_7]; exact zx_add (show (-2147483648 : Int) ≤ (q.1 a0 6).toInt + 1 by omega) (show (q.1 a0 6).toInt + 1 < (2147483648 : Int) by omega)
    refine wa_putI B (C := RX9) (T := TX9) (N := 7) iq_X9_addSystem_X9 ha0 ka0 (by decide) rfl 6 (by decide) (by decide) (by decide +kernel) rfl (by decide) (v := v_7) (ty := .int) tyX9 tyX9_ok nmX9 rfl (by decide +kernel) rfl rfl dX9_addSystem_25 (fun q_8 eq_8 => ?_)
    have hV_q_8 : sx_V h L q_8 := by rw [eq_8]; exact hV_q_3.pI ka0 (show sx_in v_7 (0) 3 from ⟨by omega, by omega⟩)
    have hF_q_8 : sx_fr h L (fun a => a = a0 ∧ h.1 a = 9 ∨ a = s0 ∧ h.1 a = 201) q q_8 := hF_q_3.tr (by rw [eq_8]; exact sx_fr.pI (show a0 = a0 ∧ h.1 a0 = 9 ∨ a0 = s0 ∧ h.1 a0 = 201 from (Or.inl ⟨rfl, ka0⟩)))
    have z_9 : q_8.1 a0 6 = v_7 := by rw [eq_8]; exact sg_pI_e
    have y_10 : (q_8.1 a0 6).toInt = v_7.toInt := by rw [z_9]
    have z_11 : q_8.2.2.2.2 s0 = (vp_updL (q.2.2.2.2 s0) ((q.1 a0 6) : Int32).toNatClampNeg n1) := ((show q_8.2.2.2.2 s0 = q_3.2.2.2.2 s0 from by rw [eq_8]; rfl)).trans (z_4)
    exact hret _ _ _ dX9_addSystem_28 ⟨hV_q_8, hF_q_8, ⟨by omega, by rw [z_11]⟩⟩
