set_option maxHeartbeats 4000000 in
set_option maxRecDepth 100000 in
theorem k_X9_addUnit_c (l : Launch) (dC : Nat → ClassId) (dI : Nat → Nat → Nat) (h : Sh) (L : List Nat) (hN : sx_nd L) (q : Sg) (hV : sx_V h L q) {a0 : Nat} (ha0 : a0 ∈ L) (ka0 : h.1 a0 = 9) (n1 : Int64) (n2 : Int32) {s0 : Nat} (es0 : q.2.2.1 a0 0 = s0) {c0 : Nat} (ec0 : q.2.2.1 a0 1 = c0) {m0 : Nat} (em0 : q.2.2.1 a0 2 = m0) {f0 : Nat} (ef0 : q.2.2.1 a0 3 = f0) {w0 : Nat} (ew0 : q.2.2.1 a0 4 = w0) {x0 : Nat} (ex0 : q.2.2.1 a0 5 = x0)   (hy0 : 1 ≤ (q.1 a0 6).toInt) (hy1 : (q.2.2.2.1 c0 (q.1 a0 6 - 1).toNatClampNeg).toInt < 5) : CMv l dC dI h L yX9_addUnit wsX9_addUnit ({ frames := 1, cells := 0, slots := 0, locals := 21 } : Room) q [.ref a0, .long n1, .int n2] (fun q' => sx_V h L q' ∧ sx_fr h L (fun a => a = c0 ∧ h.1 a = 101 ∨ a = m0 ∧ h.1 a = 202 ∨ a = f0 ∧ h.1 a = 102 ∨ a = w0 ∧ h.1 a = 103 ∨ a = x0 ∧ h.1 a = 104) q q' ∧ (∃ (i c : Int32), i.toInt = 5 * ((q.1 a0 6).toInt - 1) + (q.2.2.2.1 c0 (q.1 a0 6 - 1).toNatClampNeg).toInt ∧ c.toInt = (q.2.2.2.1 c0 (q.1 a0 6 - 1).toNatClampNeg).toInt + 1 ∧ q'.2.2.2.1 c0 = upd (q.2.2.2.1 c0) (q.1 a0 6 - 1).toNatClampNeg c ∧ q'.2.2.2.2 m0 = vp_updL (q.2.2.2.2 m0) i.toNatClampNeg n1 ∧ q'.2.2.2.1 f0 = upd (q.2.2.2.1 f0) i.toNatClampNeg n2 ∧ (∀ j : Nat, ¬ j = i.toNatClampNeg → q'.2.2.2.1 w0 j = q.2.2.2.1 w0 j) ∧ ((q.2.2.2.1 c0 (q.1 a0 6 - 1).toNatClampNeg).toInt = 0 ∧ q'.2.2.2.1 w0 i.toNatClampNeg = 1 ∨ 0 < (q.2.2.2.1 c0 (q.1 a0 6 - 1).toNatClampNeg).toInt ∧ q'.2.2.2.1 w0 i.toNatClampNeg = n2 * q.2.2.2.1 w0 (i.toNatClampNeg - 1)))) := by
  refine cm_v (cc := cX9_addUnit) (mL := 6) (own := RX9) hN (by decide) rfl rfl (Nat.le_of_ble_eq_true rfl) (fun Z B hret => ?_)
  have hF : sx_fr h L (fun a => a = c0 ∧ h.1 a = 101 ∨ a = m0 ∧ h.1 a = 202 ∨ a = f0 ∧ h.1 a = 102 ∨ a = w0 ∧ h.1 a = 103 ∨ a = x0 ∧ h.1 a = 104) q q := sx_fr.rf
  obtain ⟨hs0, ks0, ls0⟩ : s0 ∈ L ∧ h.1 s0 = 201 ∧ h.2.1 s0 = 3 := by obtain ⟨r9, e9, z1, z2, z3⟩ := hV.refn (t := 201) (n := 3) ha0 ka0 0 rfl (by decide) rfl (by decide); rw [← es0, e9]; exact ⟨z1, z2, z3⟩
  obtain ⟨hc0, kc0, lc0⟩ : c0 ∈ L ∧ h.1 c0 = 101 ∧ h.2.1 c0 = 3 := by obtain ⟨r9, e9, z1, z2, z3⟩ := hV.refn (t := 101) (n := 3) ha0 ka0 1 rfl (by decide) rfl (by decide); rw [← ec0, e9]; exact ⟨z1, z2, z3⟩
  obtain ⟨hm0, km0, lm0⟩ : m0 ∈ L ∧ h.1 m0 = 202 ∧ h.2.1 m0 = 15 := by obtain ⟨r9, e9, z1, z2, z3⟩ := hV.refn (t := 202) (n := 15) ha0 ka0 2 rfl (by decide) rfl (by decide); rw [← em0, e9]; exact ⟨z1, z2, z3⟩
  obtain ⟨hf0, kf0, lf0⟩ : f0 ∈ L ∧ h.1 f0 = 102 ∧ h.2.1 f0 = 15 := by obtain ⟨r9, e9, z1, z2, z3⟩ := hV.refn (t := 102) (n := 15) ha0 ka0 3 rfl (by decide) rfl (by decide); rw [← ef0, e9]; exact ⟨z1, z2, z3⟩
  obtain ⟨hw0, kw0, lw0⟩ : w0 ∈ L ∧ h.1 w0 = 103 ∧ h.2.1 w0 = 15 := by obtain ⟨r9, e9, z1, z2, z3⟩ := hV.refn (t := 103) (n := 15) ha0 ka0 4 rfl (by decide) rfl (by decide); rw [← ew0, e9]; exact ⟨z1, z2, z3⟩
  obtain ⟨hx0, kx0, lx0⟩ : x0 ∈ L ∧ h.1 x0 = 104 ∧ h.2.1 x0 = 15 := by obtain ⟨r9, e9, z1, z2, z3⟩ := hV.refn (t := 104) (n := 15) ha0 ka0 5 rfl (by decide) rfl (by decide); rw [← ex0, e9]; exact ⟨z1, z2, z3⟩
  show WA l dC dI h L ({ frames := 1, cells := 0, slots := 0, locals := 21 } : Room) 6 Z q 0 [(0, .ref a0), (1, .long n1), (3, .int n2)] []
  have hu0 : (0 : Int) ≤ (q.2.2.2.1 c0 (q.1 a0 6 - 1).toNatClampNeg).toInt ∧ (q.2.2.2.1 c0 (q.1 a0 6 - 1).toNatClampNeg).toInt ≤ 5 := hV.cnt hc0 kc0 _
  refine wa_aload_n B dX9_addUnit_0 rfl 0 rfl ?_
  refine wa_callVi B (x := (RX9, TX9, 7)) (As := []) (rest := []) (k_X9_isFull_c l dC dI h L hN q hV (a0 := a0) ha0 ka0 (c0 := c0) ec0  ) (cwV 0 B.1.2.2.2.2 gX9_addUnit_X9_isFull rfl rfl rfl (by decide +kernel) ⟨Nat.le_of_ble_eq_true rfl, Nat.le_of_ble_eq_true rfl⟩) ha0 ka0 (by decide) rfl rfl rfl (Nat.le_of_ble_eq_true rfl) dX9_addUnit_1 (fun r_2 q_1 w_3 => ?_)
  obtain ⟨ew_3, hw_3⟩ := w_3
  subst ew_3
  refine wa_if_eq B 8 dX9_addUnit_4 (by decide) (fun (t_4 : r_2.toInt = 0) => ?_) (fun (t_4 : ¬ r_2.toInt = 0) => ?_)
  · refine wa_aload_n B dX9_addUnit_8 rfl 0 rfl ?_
    refine wa_getI B (C := RX9) (T := TX9) (N := 7) iq_X9_addUnit_X9 ha0 ka0 (by decide) rfl 6 (by decide) (by decide) (by decide +kernel) rfl (by decide) (v := (q.1 a0 6)) rfl dX9_addUnit_9 ?_
    have g_5 : (0 : Int) ≤ (q.1 a0 6).toInt ∧ (q.1 a0 6).toInt ≤ 3 := hV.int ha0 ka0 6
    refine wa_iconst B 1 dX9_addUnit_12 (by decide) ?_
    refine wa_isub B dX9_addUnit_13 (fun v_6 ev_6 => ?_)
    refine wa_istore B [(4, .int v_6), (0, .ref a0), (1, .long n1), (3, .int n2)] dX9_addUnit_14 (by decide) rfl ?_
    rw [← ev_6] at hy1 hu0 hw_3
    refine wa_iload B dX9_addUnit_16 0 rfl ?_
    refine wa_aload_n B dX9_addUnit_18 rfl 1 rfl ?_
    refine wa_getR B (C := RX9) (T := TX9) (N := 7) iq_X9_addUnit_X9 ha0 ka0 (by decide) rfl 1 (by decide) (by decide) (by decide +kernel) rfl (fun _ _ _ => rfl) (v := c0) ec0 dX9_addUnit_19 ?_
    refine wa_iload B dX9_addUnit_22 0 rfl ?_
    have tv_6 : v_6.toInt = (q.1 a0 6).toInt - 1 := by have b0 := zx_bd (q.1 a0 6); rw [ev_6]; exact zx_sub (show (-2147483648 : Int) ≤ (q.1 a0 6).toInt - 1 by omega) (show (q.1 a0 6).toInt - 1 < (2147483648 : Int) by omega)
    refine wa_iaload B hc0 kc0 (by decide) (by decide) (show 0 ≤ v_6.toInt by omega) (show v_6.toInt < (h.2.1 c0 : Int) by omega) (v := (q.2.2.2.1 c0 (v_6 : Int32).toNatClampNeg)) rfl dX9_addUnit_24 ?_
    have g_7 : (0 : Int) ≤ ((q.2.2.2.1 c0 (v_6 : Int32).toNatClampNeg)).toInt ∧ ((q.2.2.2.1 c0 (v_6 : Int32).toNatClampNeg)).toInt ≤ 5 := hV.cnt hc0 kc0 _
    refine wa_callSi B (As := [.int v_6, .int ((q.2.2.2.1 c0 (v_6 : Int32).toNatClampNeg))]) (rest := []) (k_X9_slot l dC dI h L hN q hV v_6 ((q.2.2.2.1 c0 (v_6 : Int32).toNatClampNeg))  (by first | assumption | omega | decide) (by first | assumption | omega | decide) (by first | assumption | omega | decide) (by first | assumption | omega | decide)) (va_cwS 2 B.1.2.2.2.2 gX9_addUnit_X9_slot rfl rfl rfl (by decide +kernel) ⟨Nat.le_of_ble_eq_true rfl, Nat.le_of_ble_eq_true rfl⟩) rfl rfl (Nat.le_of_ble_eq_true rfl) dX9_addUnit_25 (fun r_9 q_8 w_10 => ?_)
    obtain ⟨ew_10, hw_10⟩ := w_10
    subst ew_10
    refine wa_istore B [(5, .int r_9), (4, .int v_6), (0, .ref a0), (1, .long n1), (3, .int n2)] dX9_addUnit_28 (by decide) rfl ?_
    refine wa_aload_n B dX9_addUnit_30 rfl 2 rfl ?_
    refine wa_getR B (C := RX9) (T := TX9) (N := 7) iq_X9_addUnit_X9 ha0 ka0 (by decide) rfl 2 (by decide) (by decide) (by decide +kernel) rfl (fun _ _ _ => rfl) (v := m0) em0 dX9_addUnit_31 ?_
    refine wa_iload B dX9_addUnit_34 0 rfl ?_
    refine wa_lload_n B dX9_addUnit_36 rfl 3 rfl ?_
    refine wa_lastore B hm0 km0 (by decide) (by decide) (show 0 ≤ r_9.toInt by omega) (show r_9.toInt < (h.2.1 m0 : Int) by omega) dX9_addUnit_37 (fun q_11 eq_11 => ?_)
    have hV_q_11 : sx_V h L q_11 := by rw [eq_11]; exact hV.pL
    have hF_q_11 : sx_fr h L (fun a => a = c0 ∧ h.1 a = 101 ∨ a = m0 ∧ h.1 a = 202 ∨ a = f0 ∧ h.1 a = 102 ∨ a = w0 ∧ h.1 a = 103 ∨ a = x0 ∧ h.1 a = 104) q q_11 := hF.tr (by rw [eq_11]; exact sx_fr.pL (show h.1 m0 = 200 ∨ (m0 = c0 ∧ h.1 m0 = 101 ∨ m0 = m0 ∧ h.1 m0 = 202 ∨ m0 = f0 ∧ h.1 m0 = 102 ∨ m0 = w0 ∧ h.1 m0 = 103 ∨ m0 = x0 ∧ h.1 m0 = 104) from Or.inr (Or.inr (Or.inl ⟨rfl, km0⟩))))
    have z_12 : q_11.2.2.2.2 m0 = (vp_updL (q.2.2.2.2 m0) (r_9 : Int32).toNatClampNeg n1) := by rw [eq_11, sg_pL_e]
    have z_13 : q_11.2.2.2.2 m0 (r_9 : Int32).toNatClampNeg = n1 := by rw [eq_11, sg_pL_e]; exact if_pos rfl
    refine wa_aload_n B dX9_addUnit_38 rfl 2 rfl ?_
    have z_14 : q_11.2.2.1 a0 3 = f0 := ((show q_11.2.2.1 a0 3 = q.2.2.1 a0 3 from by rw [eq_11]; rfl)).trans (ef0)
    refine wa_getR B (C := RX9) (T := TX9) (N := 7) iq_X9_addUnit_X9 ha0 ka0 (by decide) rfl 3 (by decide) (by decide) (by decide +kernel) rfl (fun _ _ _ => rfl) (v := f0) z_14 dX9_addUnit_39 ?_
    refine wa_iload B dX9_addUnit_42 0 rfl ?_
    refine wa_iload_n B dX9_addUnit_44 rfl 4 rfl ?_
    refine wa_iastore B hf0 kf0 (by decide) (by decide) (show 0 ≤ r_9.toInt by omega) (show r_9.toInt < (h.2.1 f0 : Int) by omega) dX9_addUnit_45 (fun q_15 eq_15 => ?_)
    have hV_q_15 : sx_V h L q_15 := by rw [eq_15]; exact hV_q_11.up1 hf0 kf0 trivial
    have hF_q_15 : sx_fr h L (fun a => a = c0 ∧ h.1 a = 101 ∨ a = m0 ∧ h.1 a = 202 ∨ a = f0 ∧ h.1 a = 102 ∨ a = w0 ∧ h.1 a = 103 ∨ a = x0 ∧ h.1 a = 104) q q_15 := hF_q_11.tr (by rw [eq_15]; exact sx_fr.pG (show h.1 f0 = 100 ∨ (f0 = c0 ∧ h.1 f0 = 101 ∨ f0 = m0 ∧ h.1 f0 = 202 ∨ f0 = f0 ∧ h.1 f0 = 102 ∨ f0 = w0 ∧ h.1 f0 = 103 ∨ f0 = x0 ∧ h.1 f0 = 104) from Or.inr (Or.inr (Or.inr (Or.inl ⟨rfl, kf0⟩)))))
    have z_16 : q_11.2.2.2.1 f0 = q.2.2.2.1 f0 := (show q_11.2.2.2.1 f0 = q.2.2.2.1 f0 from by rw [eq_11]; rfl)
    have z_17 : q_15.2.2.2.1 f0 = (upd (q.2.2.2.1 f0) (r_9 : Int32).toNatClampNeg n2) := by rw [eq_15, sg_pG_e, z_16]
    have z_18 : q_15.2.2.2.1 f0 (r_9 : Int32).toNatClampNeg = n2 := by rw [eq_15, sg_pG_e]; exact if_pos rfl
    refine wa_aload_n B dX9_addUnit_46 rfl 2 rfl ?_
    have z_19 : q_15.2.2.1 a0 4 = w0 := ((show q_15.2.2.1 a0 4 = q_11.2.2.1 a0 4 from by rw [eq_15]; rfl)).trans (((show q_11.2.2.1 a0 4 = q.2.2.1 a0 4 from by rw [eq_11]; rfl)).trans (ew0))
    refine wa_getR B (C := RX9) (T := TX9) (N := 7) iq_X9_addUnit_X9 ha0 ka0 (by decide) rfl 4 (by decide) (by decide) (by decide +kernel) rfl (fun _ _ _ => rfl) (v := w0) z_19 dX9_addUnit_47 ?_
    refine wa_iload B dX9_addUnit_50 0 rfl ?_
    refine wa_iconst B 1 dX9_addUnit_52 (by decide) ?_
    refine wa_iastore B hw0 kw0 (by decide) (by decide) (show 0 ≤ r_9.toInt by omega) (show r_9.toInt < (h.2.1 w0 : Int) by omega) dX9_addUnit_53 (fun q_20 eq_20 => ?_)
    have hV_q_20 : sx_V h L q_20 := by rw [eq_20]; exact hV_q_15.up1 hw0 kw0 trivial
    have hF_q_20 : sx_fr h L (fun a => a = c0 ∧ h.1 a = 101 ∨ a = m0 ∧ h.1 a = 202 ∨ a = f0 ∧ h.1 a = 102 ∨ a = w0 ∧ h.1 a = 103 ∨ a = x0 ∧ h.1 a = 104) q q_20 := hF_q_15.tr (by rw [eq_20]; exact sx_fr.pG (show h.1 w0 = 100 ∨ (w0 = c0 ∧ h.1 w0 = 101 ∨ w0 = m0 ∧ h.1 w0 = 202 ∨ w0 = f0 ∧ h.1 w0 = 102 ∨ w0 = w0 ∧ h.1 w0 = 103 ∨ w0 = x0 ∧ h.1 w0 = 104) from Or.inr (Or.inr (Or.inr (Or.inr (Or.inl ⟨rfl, kw0⟩))))))
    have z_21 : q_15.2.2.2.1 w0 = q.2.2.2.1 w0 := ((show q_15.2.2.2.1 w0 = q_11.2.2.2.1 w0 from by rw [eq_15]; exact sg_pG_a (sx_ka h kw0 kf0 (by decide)))).trans ((show q_11.2.2.2.1 w0 = q.2.2.2.1 w0 from by rw [eq_11]; rfl))
    have z_22 : q_20.2.2.2.1 w0 = (upd (q.2.2.2.1 w0) (r_9 : Int32).toNatClampNeg 1) := by rw [eq_20, sg_pG_e, z_21]
    have z_23 : q_20.2.2.2.1 w0 (r_9 : Int32).toNatClampNeg = 1 := by rw [eq_20, sg_pG_e]; exact if_pos rfl
    refine wa_aload_n B dX9_addUnit_54 rfl 2 rfl ?_
    have z_24 : q_20.2.2.1 a0 5 = x0 := ((show q_20.2.2.1 a0 5 = q_15.2.2.1 a0 5 from by rw [eq_20]; rfl)).trans (((show q_15.2.2.1 a0 5 = q_11.2.2.1 a0 5 from by rw [eq_15]; rfl)).trans (((show q_11.2.2.1 a0 5 = q.2.2.1 a0 5 from by rw [eq_11]; rfl)).trans (ex0)))
    refine wa_getR B (C := RX9) (T := TX9) (N := 7) iq_X9_addUnit_X9 ha0 ka0 (by decide) rfl 5 (by decide) (by decide) (by decide +kernel) rfl (fun _ _ _ => rfl) (v := x0) z_24 dX9_addUnit_55 ?_
    refine wa_iload B dX9_addUnit_58 0 rfl ?_
    refine wa_bipush B 99 dX9_addUnit_60 (by decide) ?_
    refine wa_iastore B hx0 kx0 (by decide) (by decide) (show 0 ≤ r_9.toInt by omega) (show r_9.toInt < (h.2.1 x0 : Int) by omega) dX9_addUnit_62 (fun q_25 eq_25 => ?_)
    have hV_q_25 : sx_V h L q_25 := by rw [eq_25]; exact hV_q_20.up1 hx0 kx0 trivial
    have hF_q_25 : sx_fr h L (fun a => a = c0 ∧ h.1 a = 101 ∨ a = m0 ∧ h.1 a = 202 ∨ a = f0 ∧ h.1 a = 102 ∨ a = w0 ∧ h.1 a = 103 ∨ a = x0 ∧ h.1 a = 104) q q_25 := hF_q_20.tr (by rw [eq_25]; exact sx_fr.pG (show h.1 x0 = 100 ∨ (x0 = c0 ∧ h.1 x0 = 101 ∨ x0 = m0 ∧ h.1 x0 = 202 ∨ x0 = f0 ∧ h.1 x0 = 102 ∨ x0 = w0 ∧ h.1 x0 = 103 ∨ x0 = x0 ∧ h.1 x0 = 104) from Or.inr (Or.inr (Or.inr (Or.inr (Or.inr ⟨rfl, kx0⟩))))))
    have z_26 : q_20.2.2.2.1 x0 = q.2.2.2.1 x0 := ((show q_20.2.2.2.1 x0 = q_15.2.2.2.1 x0 from by rw [eq_20]; exact sg_pG_a (sx_ka h kx0 kw0 (by decide)))).trans (((show q_15.2.2.2.1 x0 = q_11.2.2.2.1 x0 from by rw [eq_15]; exact sg_pG_a (sx_ka h kx0 kf0 (by decide)))).trans ((show q_11.2.2.2.1 x0 = q.2.2.2.1 x0 from by rw [eq_11]; rfl)))
    have z_27 : q_25.2.2.2.1 x0 = (upd (q.2.2.2.1 x0) (r_9 : Int32).toNatClampNeg 99) := by rw [eq_25, sg_pG_e, z_26]
    have z_28 : q_25.2.2.2.1 x0 (r_9 : Int32).toNatClampNeg = 99 := by rw [eq_25, sg_pG_e]; exact if_pos rfl
    refine wa_aload_n B dX9_addUnit_63 rfl 2 rfl ?_
    have z_29 : q_25.2.2.1 a0 1 = c0 := ((show q_25.2.2.1 a0 1 = q_20.2.2.1 a0 1 from by rw [eq_25]; rfl)).trans (((show q_20.2.2.1 a0 1 = q_15.2.2.1 a0 1 from by rw [eq_20]; rfl)).trans (((show q_15.2.2.1 a0 1 = q_11.2.2.1 a0 1 from by rw [eq_15]; rfl)).trans (((show q_11.2.2.1 a0 1 = q.2.2.1 a0 1 from by rw [eq_11]; rfl)).trans (ec0))))
    refine wa_getR B (C := RX9) (T := TX9) (N := 7) iq_X9_addUnit_X9 ha0 ka0 (by decide) rfl 1 (by decide) (by decide) (by decide +kernel) rfl (fun _ _ _ => rfl) (v := c0) z_29 dX9_addUnit_64 ?_
    refine wa_iload B dX9_addUnit_67 1 rfl ?_
    have z_30 : q_25.2.2.2.1 c0 (v_6 : Int32).toNatClampNeg = (q.2.2.2.1 c0 (v_6 : Int32).toNatClampNeg) := (congrFun (((show q_25.2.2.2.1 c0 = q_20.2.2.2.1 c0 from by rw [eq_25]; exact sg_pG_a (sx_ka h kc0 kx0 (by decide)))).trans (((show q_20.2.2.2.1 c0 = q_15.2.2.2.1 c0 from by rw [eq_20]; exact sg_pG_a (sx_ka h kc0 kw0 (by decide)))).trans (((show q_15.2.2.2.1 c0 = q_11.2.2.2.1 c0 from by rw [eq_15]; exact sg_pG_a (sx_ka h kc0 kf0 (by decide)))).trans ((show q_11.2.2.2.1 c0 = q.2.2.2.1 c0 from by rw [eq_11]; rfl))))) _).trans rfl
    refine wa_iaload B hc0 kc0 (by decide) (by decide) (show 0 ≤ v_6.toInt by omega) (show v_6.toInt < (h.2.1 c0 : Int) by omega) (v := (q.2.2.2.1 c0 (v_6 : Int32).toNatClampNeg)) z_30 dX9_addUnit_69 ?_
    refine wa_if_le B 103 dX9_addUnit_70 (by decide) (fun (t_31 : ((q.2.2.2.1 c0 (v_6 : Int32).toNatClampNeg)).toInt ≤ 0) => ?_) (fun (t_31 : ¬ ((q.2.2.2.1 c0 (v_6 : Int32).toNatClampNeg)).toInt ≤ 0) => ?_)
    · refine wa_aload_n B dX9_addUnit_103 rfl 2 rfl ?_
      refine wa_getR B (C := RX9) (T := TX9) (N := 7) iq_X9_addUnit_X9 ha0 ka0 (by decide) rfl 1 (by decide) (by decide) (by decide +kernel) rfl (fun _ _ _ => rfl) (v := c0) z_29 dX9_addUnit_104 ?_
      refine wa_iload B dX9_addUnit_107 1 rfl ?_
      refine wa_dup2 B dX9_addUnit_109 rfl rfl ?_
      refine wa_iaload B hc0 kc0 (by decide) (by decide) (show 0 ≤ v_6.toInt by omega) (show v_6.toInt < (h.2.1 c0 : Int) by omega) (v := (q.2.2.2.1 c0 (v_6 : Int32).toNatClampNeg)) z_30 dX9_addUnit_110 ?_
      refine wa_iconst B 1 dX9_addUnit_111 (by decide) ?_
      refine wa_iadd B dX9_addUnit_112 (fun v_32 ev_32 => ?_)
      refine wa_iastore B hc0 kc0 (by decide) (by decide) (show 0 ≤ v_6.toInt by omega) (show v_6.toInt < (h.2.1 c0 : Int) by omega) dX9_addUnit_113 (fun q_33 eq_33 => ?_)
      have tv_32 : v_32.toInt = ((q.2.2.2.1 c0 (v_6 : Int32).toNatClampNeg)).toInt + 1 := by have b0 := zx_bd ((q.2.2.2.1 c0 (v_6 : Int32).toNatClampNeg)); rw [ev_32]; exact zx_add (show (-2147483648 : Int) ≤ ((q.2.2.2.1 c0 (v_6 : Int32).toNatClampNeg)).toInt + 1 by omega) (show ((q.2.2.2.1 c0 (v_6 : Int32).toNatClampNeg)).toInt + 1 < (2147483648 : Int) by omega)
      have hV_q_33 : sx_V h L q_33 := by rw [eq_33]; exact hV_q_25.up1 hc0 kc0 (show sx_in v_32 (0) 5 from ⟨by omega, by omega⟩)
      have hF_q_33 : sx_fr h L (fun a => a = c0 ∧ h.1 a = 101 ∨ a = m0 ∧ h.1 a = 202 ∨ a = f0 ∧ h.1 a = 102 ∨ a = w0 ∧ h.1 a = 103 ∨ a = x0 ∧ h.1 a = 104) q q_33 := hF_q_25.tr (by rw [eq_33]; exact sx_fr.pG (show h.1 c0 = 100 ∨ (c0 = c0 ∧ h.1 c0 = 101 ∨ c0 = m0 ∧ h.1 c0 = 202 ∨ c0 = f0 ∧ h.1 c0 = 102 ∨ c0 = w0 ∧ h.1 c0 = 103 ∨ c0 = x0 ∧ h.1 c0 = 104) from Or.inr (Or.inl ⟨rfl, kc0⟩)))
      have z_34 : q_25.2.2.2.1 c0 = q.2.2.2.1 c0 := ((show q_25.2.2.2.1 c0 = q_20.2.2.2.1 c0 from by rw [eq_25]; exact sg_pG_a (sx_ka h kc0 kx0 (by decide)))).trans (((show q_20.2.2.2.1 c0 = q_15.2.2.2.1 c0 from by rw [eq_20]; exact sg_pG_a (sx_ka h kc0 kw0 (by decide)))).trans (((show q_15.2.2.2.1 c0 = q_11.2.2.2.1 c0 from by rw [eq_15]; exact sg_pG_a (sx_ka h kc0 kf0 (by decide)))).trans ((show q_11.2.2.2.1 c0 = q.2.2.2.1 c0 from by rw [eq_11]; rfl))))
      have z_35 : q_33.2.2.2.1 c0 = (upd (q.2.2.2.1 c0) (v_6 : Int32).toNatClampNeg v_32) := by rw [eq_33, sg_pG_e, z_34]
      have z_36 : q_33.2.2.2.1 c0 (v_6 : Int32).toNatClampNeg = v_32 := by rw [eq_33, sg_pG_e]; exact if_pos rfl
      have z_37 : q_33.2.2.2.2 m0 = (vp_updL (q.2.2.2.2 m0) (r_9 : Int32).toNatClampNeg n1) := ((show q_33.2.2.2.2 m0 = q_25.2.2.2.2 m0 from by rw [eq_33]; rfl)).trans (((show q_25.2.2.2.2 m0 = q_20.2.2.2.2 m0 from by rw [eq_25]; rfl)).trans (((show q_20.2.2.2.2 m0 = q_15.2.2.2.2 m0 from by rw [eq_20]; rfl)).trans (((show q_15.2.2.2.2 m0 = q_11.2.2.2.2 m0 from by rw [eq_15]; rfl)).trans (z_12))))
      have z_38 : q_33.2.2.2.1 f0 = (upd (q.2.2.2.1 f0) (r_9 : Int32).toNatClampNeg n2) := ((show q_33.2.2.2.1 f0 = q_25.2.2.2.1 f0 from by rw [eq_33]; exact sg_pG_a (sx_ka h kf0 kc0 (by decide)))).trans (((show q_25.2.2.2.1 f0 = q_20.2.2.2.1 f0 from by rw [eq_25]; exact sg_pG_a (sx_ka h kf0 kx0 (by decide)))).trans (((show q_20.2.2.2.1 f0 = q_15.2.2.2.1 f0 from by rw [eq_20]; exact sg_pG_a (sx_ka h kf0 kw0 (by decide)))).trans (z_17)))
      have z_39 : q_33.2.2.2.1 w0 = (upd (q.2.2.2.1 w0) (r_9 : Int32).toNatClampNeg 1) := ((show q_33.2.2.2.1 w0 = q_25.2.2.2.1 w0 from by rw [eq_33]; exact sg_pG_a (sx_ka h kw0 kc0 (by decide)))).trans (((show q_25.2.2.2.1 w0 = q_20.2.2.2.1 w0 from by rw [eq_25]; exact sg_pG_a (sx_ka h kw0 kx0 (by decide)))).trans (z_22))
      exact hret _ _ _ dX9_addUnit_114 ⟨hV_q_33, hF_q_33, ⟨r_9, v_32, by rw [← ev_6]; omega, by rw [← ev_6]; omega, by rw [← ev_6]; exact z_35, z_37, z_38, fun j hj => by rw [z_39]; exact if_neg hj, by rw [← ev_6]; exact Or.inl ⟨by omega, by rw [z_39]; exact if_pos rfl⟩⟩⟩
    · refine wa_aload_n B dX9_addUnit_73 rfl 2 rfl ?_
      have z_40 : q_25.2.2.1 a0 4 = w0 := ((show q_25.2.2.1 a0 4 = q_20.2.2.1 a0 4 from by rw [eq_25]; rfl)).trans (((show q_20.2.2.1 a0 4 = q_15.2.2.1 a0 4 from by rw [eq_20]; rfl)).trans (z_19))
      refine wa_getR B (C := RX9) (T := TX9) (N := 7) iq_X9_addUnit_X9 ha0 ka0 (by decide) rfl 4 (by decide) (by decide) (by decide +kernel) rfl (fun _ _ _ => rfl) (v := w0) z_40 dX9_addUnit_74 ?_
      refine wa_iload B dX9_addUnit_77 0 rfl ?_
      refine wa_iload_n B dX9_addUnit_79 rfl 4 rfl ?_
      refine wa_aload_n B dX9_addUnit_80 rfl 2 rfl ?_
      refine wa_getR B (C := RX9) (T := TX9) (N := 7) iq_X9_addUnit_X9 ha0 ka0 (by decide) rfl 4 (by decide) (by decide) (by decide +kernel) rfl (fun _ _ _ => rfl) (v := w0) z_40 dX9_addUnit_81 ?_
      refine wa_iload B dX9_addUnit_84 0 rfl ?_
      refine wa_iconst B 1 dX9_addUnit_86 (by decide) ?_
      refine wa_isub B dX9_addUnit_87 (fun v_41 ev_41 => ?_)
      have tv_41 : v_41.toInt = r_9.toInt - 1 := by have b0 := zx_bd r_9; rw [ev_41]; exact zx_sub (show (-2147483648 : Int) ≤ r_9.toInt - 1 by omega) (show r_9.toInt - 1 < (2147483648 : Int) by omega)
      have z_42 : q_25.2.2.2.1 w0 = (upd (q.2.2.2.1 w0) (r_9 : Int32).toNatClampNeg 1) := ((show q_25.2.2.2.1 w0 = q_20.2.2.2.1 w0 from by rw [eq_25]; exact sg_pG_a (sx_ka h kw0 kx0 (by decide)))).trans (z_22)
      have z_43 : q_25.2.2.2.1 w0 (v_41 : Int32).toNatClampNeg = (upd (q.2.2.2.1 w0) (r_9 : Int32).toNatClampNeg 1 (v_41 : Int32).toNatClampNeg) := congrFun z_42 _
      refine wa_iaload B hw0 kw0 (by decide) (by decide) (show 0 ≤ v_41.toInt by omega) (show v_41.toInt < (h.2.1 w0 : Int) by omega) (v := (upd (q.2.2.2.1 w0) (r_9 : Int32).toNatClampNeg 1 (v_41 : Int32).toNatClampNeg)) z_43 dX9_addUnit_88 ?_
      refine wa_imul B dX9_addUnit_89 (fun v_44 ev_44 => ?_)
      refine wa_iastore B hw0 kw0 (by decide) (by decide) (show 0 ≤ r_9.toInt by omega) (show r_9.toInt < (h.2.1 w0 : Int) by omega) dX9_addUnit_90 (fun q_45 eq_45 => ?_)
      have hV_q_45 : sx_V h L q_45 := by rw [eq_45]; exact hV_q_25.up1 hw0 kw0 trivial
      have hF_q_45 : sx_fr h L (fun a => a = c0 ∧ h.1 a = 101 ∨ a = m0 ∧ h.1 a = 202 ∨ a = f0 ∧ h.1 a = 102 ∨ a = w0 ∧ h.1 a = 103 ∨ a = x0 ∧ h.1 a = 104) q q_45 := hF_q_25.tr (by rw [eq_45]; exact sx_fr.pG (show h.1 w0 = 100 ∨ (w0 = c0 ∧ h.1 w0 = 101 ∨ w0 = m0 ∧ h.1 w0 = 202 ∨ w0 = f0 ∧ h.1 w0 = 102 ∨ w0 = w0 ∧ h.1 w0 = 103 ∨ w0 = x0 ∧ h.1 w0 = 104) from Or.inr (Or.inr (Or.inr (Or.inr (Or.inl ⟨rfl, kw0⟩))))))
      have z_46 : q_45.2.2.2.1 w0 = (upd (upd (q.2.2.2.1 w0) (r_9 : Int32).toNatClampNeg 1) (r_9 : Int32).toNatClampNeg v_44) := by rw [eq_45, sg_pG_e, z_42]
      have z_47 : q_45.2.2.2.1 w0 (r_9 : Int32).toNatClampNeg = v_44 := by rw [eq_45, sg_pG_e]; exact if_pos rfl
      refine wa_aload_n B dX9_addUnit_91 rfl 2 rfl ?_
      have z_48 : q_45.2.2.1 a0 5 = x0 := ((show q_45.2.2.1 a0 5 = q_25.2.2.1 a0 5 from by rw [eq_45]; rfl)).trans (((show q_25.2.2.1 a0 5 = q_20.2.2.1 a0 5 from by rw [eq_25]; rfl)).trans (z_24))
      refine wa_getR B (C := RX9) (T := TX9) (N := 7) iq_X9_addUnit_X9 ha0 ka0 (by decide) rfl 5 (by decide) (by decide) (by decide +kernel) rfl (fun _ _ _ => rfl) (v := x0) z_48 dX9_addUnit_92 ?_
      refine wa_iload B dX9_addUnit_95 0 rfl ?_
      refine wa_iconst B 1 dX9_addUnit_97 (by decide) ?_
      refine wa_isub B dX9_addUnit_98 (fun v_49 ev_49 => ?_)
      refine wa_iload_n B dX9_addUnit_99 rfl 4 rfl ?_
      refine wa_iconst B 1 dX9_addUnit_100 (by decide) ?_
      refine wa_isub B dX9_addUnit_101 (fun v_50 ev_50 => ?_)
      have tv_49 : v_49.toInt = r_9.toInt - 1 := by have b0 := zx_bd r_9; rw [ev_49]; exact zx_sub (show (-2147483648 : Int) ≤ r_9.toInt - 1 by omega) (show r_9.toInt - 1 < (2147483648 : Int) by omega)
      refine wa_iastore B hx0 kx0 (by decide) (by decide) (show 0 ≤ v_49.toInt by omega) (show v_49.toInt < (h.2.1 x0 : Int) by omega) dX9_addUnit_102 (fun q_51 eq_51 => ?_)
      have hV_q_51 : sx_V h L q_51 := by rw [eq_51]; exact hV_q_45.up1 hx0 kx0 trivial
      have hF_q_51 : sx_fr h L (fun a => a = c0 ∧ h.1 a = 101 ∨ a = m0 ∧ h.1 a = 202 ∨ a = f0 ∧ h.1 a = 102 ∨ a = w0 ∧ h.1 a = 103 ∨ a = x0 ∧ h.1 a = 104) q q_51 := hF_q_45.tr (by rw [eq_51]; exact sx_fr.pG (show h.1 x0 = 100 ∨ (x0 = c0 ∧ h.1 x0 = 101 ∨ x0 = m0 ∧ h.1 x0 = 202 ∨ x0 = f0 ∧ h.1 x0 = 102 ∨ x0 = w0 ∧ h.1 x0 = 103 ∨ x0 = x0 ∧ h.1 x0 = 104) from Or.inr (Or.inr (Or.inr (Or.inr (Or.inr ⟨rfl, kx0⟩))))))
      have z_52 : q_45.2.2.2.1 x0 = (upd (q.2.2.2.1 x0) (r_9 : Int32).toNatClampNeg 99) := ((show q_45.2.2.2.1 x0 = q_25.2.2.2.1 x0 from by rw [eq_45]; exact sg_pG_a (sx_ka h kx0 kw0 (by decide)))).trans (z_27)
      have z_53 : q_51.2.2.2.1 x0 = (upd (upd (q.2.2.2.1 x0) (r_9 : Int32).toNatClampNeg 99) (v_49 : Int32).toNatClampNeg v_50) := by rw [eq_51, sg_pG_e, z_52]
      have z_54 : q_51.2.2.2.1 x0 (v_49 : Int32).toNatClampNeg = v_50 := by rw [eq_51, sg_pG_e]; exact if_pos rfl
      refine wa_aload_n B dX9_addUnit_103 rfl 2 rfl ?_
      have z_55 : q_51.2.2.1 a0 1 = c0 := ((show q_51.2.2.1 a0 1 = q_45.2.2.1 a0 1 from by rw [eq_51]; rfl)).trans (((show q_45.2.2.1 a0 1 = q_25.2.2.1 a0 1 from by rw [eq_45]; rfl)).trans (z_29))
      refine wa_getR B (C := RX9) (T := TX9) (N := 7) iq_X9_addUnit_X9 ha0 ka0 (by decide) rfl 1 (by decide) (by decide) (by decide +kernel) rfl (fun _ _ _ => rfl) (v := c0) z_55 dX9_addUnit_104 ?_
      refine wa_iload B dX9_addUnit_107 1 rfl ?_
      refine wa_dup2 B dX9_addUnit_109 rfl rfl ?_
      have z_56 : q_51.2.2.2.1 c0 (v_6 : Int32).toNatClampNeg = (q.2.2.2.1 c0 (v_6 : Int32).toNatClampNeg) := (congrFun (((show q_51.2.2.2.1 c0 = q_45.2.2.2.1 c0 from by rw [eq_51]; exact sg_pG_a (sx_ka h kc0 kx0 (by decide)))).trans ((show q_45.2.2.2.1 c0 = q_25.2.2.2.1 c0 from by rw [eq_45]; exact sg_pG_a (sx_ka h kc0 kw0 (by decide))))) _).trans z_30
      refine wa_iaload B hc0 kc0 (by decide) (by decide) (show 0 ≤ v_6.toInt by omega) (show v_6.toInt < (h.2.1 c0 : Int) by omega) (v := (q.2.2.2.1 c0 (v_6 : Int32).toNatClampNeg)) z_56 dX9_addUnit_110 ?_
      refine wa_iconst B 1 dX9_addUnit_111 (by decide) ?_
      refine wa_iadd B dX9_addUnit_112 (fun v_57 ev_57 => ?_)
      refine wa_iastore B hc0 kc0 (by decide) (by decide) (show 0 ≤ v_6.toInt by omega) (show v_6.toInt < (h.2.1 c0 : Int) by omega) dX9_addUnit_113 (fun q_58 eq_58 => ?_)
      have tv_57 : v_57.toInt = ((q.2.2.2.1 c0 (v_6 : Int32).toNatClampNeg)).toInt + 1 := by have b0 := zx_bd ((q.2.2.2.1 c0 (v_6 : Int32).toNatClampNeg)); rw [ev_57]; exact zx_add (show (-2147483648 : Int) ≤ ((q.2.2.2.1 c0 (v_6 : Int32).toNatClampNeg)).toInt + 1 by omega) (show ((q.2.2.2.1 c0 (v_6 : Int32).toNatClampNeg)).toInt + 1 < (2147483648 : Int) by omega)
      have hV_q_58 : sx_V h L q_58 := by rw [eq_58]; exact hV_q_51.up1 hc0 kc0 (show sx_in v_57 (0) 5 from ⟨by omega, by omega⟩)
      have hF_q_58 : sx_fr h L (fun a => a = c0 ∧ h.1 a = 101 ∨ a = m0 ∧ h.1 a = 202 ∨ a = f0 ∧ h.1 a = 102 ∨ a = w0 ∧ h.1 a = 103 ∨ a = x0 ∧ h.1 a = 104) q q_58 := hF_q_51.tr (by rw [eq_58]; exact sx_fr.pG (show h.1 c0 = 100 ∨ (c0 = c0 ∧ h.1 c0 = 101 ∨ c0 = m0 ∧ h.1 c0 = 202 ∨ c0 = f0 ∧ h.1 c0 = 102 ∨ c0 = w0 ∧ h.1 c0 = 103 ∨ c0 = x0 ∧ h.1 c0 = 104) from Or.inr (Or.inl ⟨rfl, kc0⟩)))
      have z_59 : q_51.2.2.2.1 c0 = q.2.2.2.1 c0 := ((show q_51.2.2.2.1 c0 = q_45.2.2.2.1 c0 from by rw [eq_51]; exact sg_pG_a (sx_ka h kc0 kx0 (by decide)))).trans (((show q_45.2.2.2.1 c0 = q_25.2.2.2.1 c0 from by rw [eq_45]; exact sg_pG_a (sx_ka h kc0 kw0 (by decide)))).trans (((show q_25.2.2.2.1 c0 = q_20.2.2.2.1 c0 from by rw [eq_25]; exact sg_pG_a (sx_ka h kc0 kx0 (by decide)))).trans (((show q_20.2.2.2.1 c0 = q_15.2.2.2.1 c0 from by rw [eq_20]; exact sg_pG_a (sx_ka h kc0 kw0 (by decide)))).trans (((show q_15.2.2.2.1 c0 = q_11.2.2.2.1 c0 from by rw [eq_15]; exact sg_pG_a (sx_ka h kc0 kf0 (by decide)))).trans ((show q_11.2.2.2.1 c0 = q.2.2.2.1 c0 from by rw [eq_11]; rfl))))))
      have z_60 : q_58.2.2.2.1 c0 = (upd (q.2.2.2.1 c0) (v_6 : Int32).toNatClampNeg v_57) := by rw [eq_58, sg_pG_e, z_59]
      have z_61 : q_58.2.2.2.1 c0 (v_6 : Int32).toNatClampNeg = v_57 := by rw [eq_58, sg_pG_e]; exact if_pos rfl
      have z_62 : q_58.2.2.2.2 m0 = (vp_updL (q.2.2.2.2 m0) (r_9 : Int32).toNatClampNeg n1) := ((show q_58.2.2.2.2 m0 = q_51.2.2.2.2 m0 from by rw [eq_58]; rfl)).trans (((show q_51.2.2.2.2 m0 = q_45.2.2.2.2 m0 from by rw [eq_51]; rfl)).trans (((show q_45.2.2.2.2 m0 = q_25.2.2.2.2 m0 from by rw [eq_45]; rfl)).trans (((show q_25.2.2.2.2 m0 = q_20.2.2.2.2 m0 from by rw [eq_25]; rfl)).trans (((show q_20.2.2.2.2 m0 = q_15.2.2.2.2 m0 from by rw [eq_20]; rfl)).trans (((show q_15.2.2.2.2 m0 = q_11.2.2.2.2 m0 from by rw [eq_15]; rfl)).trans (z_12))))))
      have z_63 : q_58.2.2.2.1 f0 = (upd (q.2.2.2.1 f0) (r_9 : Int32).toNatClampNeg n2) := ((show q_58.2.2.2.1 f0 = q_51.2.2.2.1 f0 from by rw [eq_58]; exact sg_pG_a (sx_ka h kf0 kc0 (by decide)))).trans (((show q_51.2.2.2.1 f0 = q_45.2.2.2.1 f0 from by rw [eq_51]; exact sg_pG_a (sx_ka h kf0 kx0 (by decide)))).trans (((show q_45.2.2.2.1 f0 = q_25.2.2.2.1 f0 from by rw [eq_45]; exact sg_pG_a (sx_ka h kf0 kw0 (by decide)))).trans (((show q_25.2.2.2.1 f0 = q_20.2.2.2.1 f0 from by rw [eq_25]; exact sg_pG_a (sx_ka h kf0 kx0 (by decide)))).trans (((show q_20.2.2.2.1 f0 = q_15.2.2.2.1 f0 from by rw [eq_20]; exact sg_pG_a (sx_ka h kf0 kw0 (by decide)))).trans (z_17)))))
      have z_64 : q_58.2.2.2.1 w0 = (upd (upd (q.2.2.2.1 w0) (r_9 : Int32).toNatClampNeg 1) (r_9 : Int32).toNatClampNeg v_44) := ((show q_58.2.2.2.1 w0 = q_51.2.2.2.1 w0 from by rw [eq_58]; exact sg_pG_a (sx_ka h kw0 kc0 (by decide)))).trans (((show q_51.2.2.2.1 w0 = q_45.2.2.2.1 w0 from by rw [eq_51]; exact sg_pG_a (sx_ka h kw0 kx0 (by decide)))).trans (z_46))
      exact hret _ _ _ dX9_addUnit_114 ⟨hV_q_58, hF_q_58, ⟨r_9, v_57, by rw [← ev_6]; omega, by rw [← ev_6]; omega, by rw [← ev_6]; exact z_60, z_62, z_63, fun j hj => by rw [z_64]; exact (if_neg hj).trans (if_neg hj), by rw [← ev_6]; exact Or.inr ⟨by omega, by rw [z_64]; refine (if_pos rfl).trans ?_; have a9 := zx_nc r_9; have a8 := zx_nc v_41; rw [ev_44, show (upd (q.2.2.2.1 w0) (r_9 : Int32).toNatClampNeg 1) (v_41 : Int32).toNatClampNeg = q.2.2.2.1 w0 (v_41 : Int32).toNatClampNeg from if_neg (by omega), show (v_41 : Int32).toNatClampNeg = (r_9 : Int32).toNatClampNeg - 1 by omega]⟩⟩⟩
  · exfalso
    omega
