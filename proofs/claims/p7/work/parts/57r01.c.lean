set_option maxHeartbeats 4000000 in
set_option maxRecDepth 100000 in
theorem k_X12_takes_c (l : Launch) (dC : Nat → ClassId) (dI : Nat → Nat → Nat) (h : Sh) (L : List Nat) (hN : sx_nd L) (q : Sg) (hV : sx_V h L q) {a0 : Nat} (ha0 : a0 ∈ L) (ka0 : h.1 a0 = 12) (n1 : Int32) (n2 : Int32) {m1 : Nat} (em1 : q.2.2.1 a0 1 = m1) {m3 : Nat} (em3 : q.2.2.1 a0 3 = m3)  (F : Nat → Int32) (n9 : Nat) (hy0 : n1.toInt = 400) (hy1 : n2.toInt = 0) (hn9 : (n9 : Int) = (q.1 a0 2).toInt) (hFF : ∀ j : Nat, j < n9 → q.2.2.2.1 m1 j = F j) : CMv l dC dI h L yX12_takes wsX12_takes ({ frames := 4, cells := 0, slots := 0, locals := 87 } : Room) q [.ref a0, .int n1, .int n2] (fun q' => sx_V h L q' ∧ sx_fr h L (fun a => h.1 a = 12 ∨ h.1 a = 113) q q' ∧ sx_kf a0 [2, 4, 5, 10, 6, 7, 8, 9, 11, 12, 13] q q' ∧ mv_N a0 q' ∧ ((q'.1 a0 2).toInt = 0 ∧ (q'.1 a0 4).toInt = (n9 : Int) ∧ (q'.1 a0 5).toInt = 400 ∧ (q'.1 a0 10).toInt = 0 ∧ (q'.1 a0 6).toInt ≤ (q'.1 a0 4).toInt ∧ (∀ j : Nat, j < n9 → q'.2.2.2.1 m3 j = F j) ∧ pz_R F n9 0 (q'.1 a0 8) (q'.1 a0 9) (q'.1 a0 7) (q'.1 a0 6) (q'.1 a0 12) (q'.1 a0 13) (q'.2.1 a0 11))) := by
  refine cm_v (cc := cX12_takes) (mL := 4) (own := RX12) hN (by decide) rfl rfl (Nat.le_of_ble_eq_true rfl) (fun Z B hret => ?_)
  have hF : sx_fr h L (fun a => h.1 a = 12 ∨ h.1 a = 113) q q := sx_fr.rf
  have hK : sx_kf a0 [2, 4, 5, 10, 6, 7, 8, 9, 11, 12, 13] q q := sx_kf.rf
  obtain ⟨hm1, km1, lm1⟩ : m1 ∈ L ∧ h.1 m1 = 111 ∧ h.2.1 m1 = 440 := by obtain ⟨r9, e9, z1, z2, z3⟩ := hV.refn (t := 111) (n := 440) ha0 ka0 1 rfl (by decide) rfl (by decide); rw [← em1, e9]; exact ⟨z1, z2, z3⟩
  obtain ⟨hm3, km3, lm3⟩ : m3 ∈ L ∧ h.1 m3 = 113 ∧ h.2.1 m3 = 500 := by obtain ⟨r9, e9, z1, z2, z3⟩ := hV.refn (t := 113) (n := 500) ha0 ka0 3 rfl (by decide) rfl (by decide); rw [← em3, e9]; exact ⟨z1, z2, z3⟩
  show WA l dC dI h L ({ frames := 4, cells := 0, slots := 0, locals := 87 } : Room) 4 Z q 0 [(0, .ref a0), (1, .int n1), (2, .int n2)] []
  have g_1 : (0 : Int) ≤ (q.1 a0 2).toInt ∧ (q.1 a0 2).toInt ≤ 440 := hV.int ha0 ka0 2
  refine wa_aload_n B dX12_takes_0 rfl 0 rfl ?_
  refine wa_aload_n B dX12_takes_1 rfl 0 rfl ?_
  refine wa_getI B (C := RX12) (T := TX12) (N := 51) iq_X12_takes_X12 ha0 ka0 (by decide) rfl 2 (by decide) (by decide) (by decide +kernel) rfl (by decide) (v := (q.1 a0 2)) rfl dX12_takes_2 ?_
  refine wa_putI B (C := RX12) (T := TX12) (N := 51) iq_X12_takes_X12 ha0 ka0 (by decide) rfl 4 (by decide) (by decide) (by decide +kernel) rfl (by decide) (v := (q.1 a0 2)) (ty := .int) tyX12 tyX12_ok nmX12 rfl (by decide +kernel) rfl rfl dX12_takes_5 (fun q_2 eq_2 => ?_)
  have hV_q_2 : sx_V h L q_2 := by rw [eq_2]; exact hV.pI ka0 (show sx_in (q.1 a0 2) (0) 500 from ⟨by omega, by omega⟩)
  have hF_q_2 : sx_fr h L (fun a => h.1 a = 12 ∨ h.1 a = 113) q q_2 := hF.tr (by rw [eq_2]; exact sx_fr.pI (show h.1 a0 = 12 ∨ h.1 a0 = 113 from (Or.inl ka0)))
  have z_3 : q_2.1 a0 4 = (q.1 a0 2) := by rw [eq_2]; exact sg_pI_e
  have hK_q_2 : sx_kf a0 [2, 4, 5, 10, 6, 7, 8, 9, 11, 12, 13] q q_2 := hK.tr (by rw [eq_2]; exact sx_kf.pI (by decide))
  refine wa_aload_n B dX12_takes_8 rfl 0 rfl ?_
  refine wa_iconst B 0 dX12_takes_9 (by decide) ?_
  refine wa_putI B (C := RX12) (T := TX12) (N := 51) iq_X12_takes_X12 ha0 ka0 (by decide) rfl 2 (by decide) (by decide) (by decide +kernel) rfl (by decide) (v := 0) (ty := .int) tyX12 tyX12_ok nmX12 rfl (by decide +kernel) rfl rfl dX12_takes_10 (fun q_4 eq_4 => ?_)
  have hV_q_4 : sx_V h L q_4 := by rw [eq_4]; exact hV_q_2.pI ka0 (show sx_in 0 (0) 440 from ⟨by decide, by decide⟩)
  have hF_q_4 : sx_fr h L (fun a => h.1 a = 12 ∨ h.1 a = 113) q q_4 := hF_q_2.tr (by rw [eq_4]; exact sx_fr.pI (show h.1 a0 = 12 ∨ h.1 a0 = 113 from (Or.inl ka0)))
  have z_5 : q_4.1 a0 2 = 0 := by rw [eq_4]; exact sg_pI_e
  have hK_q_4 : sx_kf a0 [2, 4, 5, 10, 6, 7, 8, 9, 11, 12, 13] q q_4 := hK_q_2.tr (by rw [eq_4]; exact sx_kf.pI (by decide))
  refine wa_iconst B 0 dX12_takes_13 (by decide) ?_
  refine wa_istore_n B [(3, .int 0), (0, .ref a0), (1, .int n1), (2, .int n2)] dX12_takes_14 rfl (by decide) rfl ?_
  have z_8 : q_4.1 a0 4 = (q.1 a0 2) := ((show q_4.1 a0 4 = q_2.1 a0 4 from by rw [eq_4]; exact sg_pI_k (by decide))).trans (z_3)
  have z_9 : q_4.2.2.1 a0 1 = m1 := ((show q_4.2.2.1 a0 1 = q_2.2.2.1 a0 1 from by rw [eq_4]; rfl)).trans (((show q_2.2.2.1 a0 1 = q.2.2.1 a0 1 from by rw [eq_2]; rfl)).trans (em1))
  have z_10 : q_4.2.2.1 a0 3 = m3 := ((show q_4.2.2.1 a0 3 = q_2.2.2.1 a0 3 from by rw [eq_4]; rfl)).trans (((show q_2.2.2.1 a0 3 = q.2.2.1 a0 3 from by rw [eq_2]; rfl)).trans (em3))
  have z_11 : q_4.2.2.2.1 m1 = q.2.2.2.1 m1 := ((show q_4.2.2.2.1 m1 = q_2.2.2.2.1 m1 from by rw [eq_4]; rfl)).trans ((show q_2.2.2.2.1 m1 = q.2.2.2.1 m1 from by rw [eq_2]; rfl))
  have z_12 : q_4.2.2.2.1 m3 = q.2.2.2.1 m3 := ((show q_4.2.2.2.1 m3 = q_2.2.2.2.1 m3 from by rw [eq_4]; rfl)).trans ((show q_2.2.2.2.1 m3 = q.2.2.2.1 m3 from by rw [eq_2]; rfl))
  have Lp_15_17 : ∀ (n : Nat) (v_6 : Int32) (q_7 : Sg), sx_V h L q_7 → sx_fr h L (fun a => h.1 a = 12 ∨ h.1 a = 113) q q_7 → sx_kf a0 [2, 4, 5, 10, 6, 7, 8, 9, 11, 12, 13] q q_7 → q_7.1 a0 2 = 0 → q_7.1 a0 4 = (q.1 a0 2) → q_7.2.2.1 a0 1 = m1 → q_7.2.2.1 a0 3 = m3 → q_7.2.2.2.1 m1 = (q.2.2.2.1 m1) → 0 ≤ v_6.toInt → (q_7.1 a0 4).toInt ≤ 440 → v_6.toInt ≤ (q_7.1 a0 4).toInt → (∀ j : Nat, (j : Int) < v_6.toInt → q_7.2.2.2.1 m3 j = q.2.2.2.1 m1 j) → ((q_7.1 a0 4).toInt - v_6.toInt : Int).toNat < n → WA l dC dI h L ({ frames := 4, cells := 0, slots := 0, locals := 87 } : Room) 4 Z q_7 15 [(3, .int v_6), (0, .ref a0), (1, .int n1), (2, .int n2)] [] := by
    intro n
    induction n with
    | zero =>
      intro v_6 q_7 hV_q_7 hF_q_7 hK_q_7 p0_q_7 p1_q_7 p2_q_7 p3_q_7 p4_q_7 x_13 x_14 x_15 x_16 hn
      exact absurd hn (Nat.not_lt_zero _)
    | succ n ih_19 =>
      intro v_6 q_7 hV_q_7 hF_q_7 hK_q_7 p0_q_7 p1_q_7 p2_q_7 p3_q_7 p4_q_7 x_13 x_14 x_15 x_16 hn
      have y_18 : (q_7.1 a0 4).toInt = (q.1 a0 2).toInt := by rw [p1_q_7]
      refine wa_iload_n B dX12_takes_15 rfl 0 rfl ?_
      refine wa_aload_n B dX12_takes_16 rfl 1 rfl ?_
      refine wa_getI B (C := RX12) (T := TX12) (N := 51) iq_X12_takes_X12 ha0 ka0 (by decide) rfl 4 (by decide) (by decide) (by decide +kernel) rfl (by decide) (v := (q.1 a0 2)) p1_q_7 dX12_takes_17 ?_
      have g_20 : (0 : Int) ≤ (q.1 a0 2).toInt ∧ (q.1 a0 2).toInt ≤ 500 := by rw [← p1_q_7]; exact hV_q_7.int ha0 ka0 4
      refine wa_icmp_ge B 41 dX12_takes_20 (by decide) (fun (t_21 : (q.1 a0 2).toInt ≤ v_6.toInt) => ?_) (fun (t_21 : ¬ (q.1 a0 2).toInt ≤ v_6.toInt) => ?_)
      · refine wa_aload_n B dX12_takes_41 rfl 1 rfl ?_
        refine wa_iload_n B dX12_takes_42 rfl 2 rfl ?_
        refine wa_iload_n B dX12_takes_43 rfl 3 rfl ?_
        have y_22 : (q_7.1 a0 4).toInt = (q.1 a0 2).toInt := by rw [p1_q_7]
        refine wa_callVv B (x := (RX12, TX12, 51)) (As := [.int n1, .int n2]) (rest := []) (k_X12_begins_c l dC dI h L hN q_7 hV_q_7 (a0 := a0) ha0 ka0 n1 n2 (m3 := m3) p3_q_7 F n9 (by first | assumption | omega | decide) (by first | assumption | omega | decide) (by first | assumption | omega | decide) (fun j hj => by rw [x_16 j (by omega)]; exact hFF j hj)) (cwV 2 B.1.2.2.2.2 gX12_takes_X12_begins rfl rfl rfl (by decide +kernel) ⟨Nat.le_of_ble_eq_true rfl, Nat.le_of_ble_eq_true rfl⟩) ha0 ka0 (by decide) rfl rfl rfl (Nat.le_of_ble_eq_true rfl) dX12_takes_44 (fun q_23 w_24 => ?_)
        obtain ⟨hV_q_23, h2_q_23, h3_q_23, mN_q_23, hw_24⟩ := w_24
        have hF_q_23 : sx_fr h L (fun a => h.1 a = 12 ∨ h.1 a = 113) q q_23 := hF_q_7.tr (h2_q_23.mono (fun a (z : h.1 a = 12) => ((fun z => (Or.inl z)) z)))
        have hK_q_23 : sx_kf a0 [2, 4, 5, 10, 6, 7, 8, 9, 11, 12, 13] q q_23 := hK_q_7.tr (h3_q_23.mono (by decide))
        have z_25 : q_23.1 a0 4 = (q.1 a0 2) := (h3_q_23.1 4 (by decide)).trans (p1_q_7)
        have z_26 : q_23.2.2.2.1 m3 = q_7.2.2.2.1 m3 := h2_q_23.G hm3 (show ¬ (h.1 m3 = 12) from (fun z => absurd (z.symm.trans km3) (by decide))) (by rw [km3]; decide)
        have z_27 : q_23.1 a0 2 = 0 := (h3_q_23.1 2 (by decide)).trans (p0_q_7)
        have y_28 : (q_23.1 a0 2).toInt = 0 := by rw [z_27]; rfl
        have y_29 : (q_23.1 a0 4).toInt = (q.1 a0 2).toInt := by rw [z_25]
        have y_30 : (q_23.1 a0 2).toInt = 0 := by rw [z_27]; rfl
        have y_31 : (q_23.1 a0 4).toInt = (q.1 a0 2).toInt := by rw [z_25]
        exact hret _ _ _ dX12_takes_47 ⟨hV_q_23, hF_q_23, hK_q_23, mN_q_23, ⟨by omega, by omega, hw_24.2.1, hw_24.2.2.1, hw_24.2.2.2.1, fun j hj => by rw [z_26]; rw [x_16 j (by omega)]; exact hFF j hj, hw_24.2.2.2.2⟩⟩
      · refine wa_aload_n B dX12_takes_23 rfl 1 rfl ?_
        refine wa_getR B (C := RX12) (T := TX12) (N := 51) iq_X12_takes_X12 ha0 ka0 (by decide) rfl 3 (by decide) (by decide) (by decide +kernel) rfl (fun _ _ _ => rfl) (v := m3) p3_q_7 dX12_takes_24 ?_
        refine wa_iload_n B dX12_takes_27 rfl 0 rfl ?_
        refine wa_aload_n B dX12_takes_28 rfl 1 rfl ?_
        refine wa_getR B (C := RX12) (T := TX12) (N := 51) iq_X12_takes_X12 ha0 ka0 (by decide) rfl 1 (by decide) (by decide) (by decide +kernel) rfl (fun _ _ _ => rfl) (v := m1) p2_q_7 dX12_takes_29 ?_
        refine wa_iload_n B dX12_takes_32 rfl 0 rfl ?_
        have z_32 : q_7.2.2.2.1 m1 (v_6 : Int32).toNatClampNeg = (q.2.2.2.1 m1 (v_6 : Int32).toNatClampNeg) := congrFun p4_q_7 _
        refine wa_iaload B hm1 km1 (by decide) (by decide) (show 0 ≤ v_6.toInt by omega) (show v_6.toInt < (h.2.1 m1 : Int) by omega) (v := (q.2.2.2.1 m1 (v_6 : Int32).toNatClampNeg)) z_32 dX12_takes_33 ?_
        have g_33 : (0 : Int) ≤ ((q.2.2.2.1 m1 (v_6 : Int32).toNatClampNeg)).toInt ∧ ((q.2.2.2.1 m1 (v_6 : Int32).toNatClampNeg)).toInt ≤ 255 := by rw [← z_32]; exact hV_q_7.cnt hm1 km1 _
        refine wa_iastore B hm3 km3 (by decide) (by decide) (show 0 ≤ v_6.toInt by omega) (show v_6.toInt < (h.2.1 m3 : Int) by omega) dX12_takes_34 (fun q_34 eq_34 => ?_)
        have hV_q_34 : sx_V h L q_34 := by rw [eq_34]; exact hV_q_7.up1 hm3 km3 (show sx_in ((q.2.2.2.1 m1 (v_6 : Int32).toNatClampNeg)) (0) 255 from ⟨by omega, by omega⟩)
        have hF_q_34 : sx_fr h L (fun a => h.1 a = 12 ∨ h.1 a = 113) q q_34 := hF_q_7.tr (by rw [eq_34]; exact sx_fr.pG (show h.1 m3 = 100 ∨ (h.1 m3 = 12 ∨ h.1 m3 = 113) from Or.inr (Or.inr km3)))
        have z_35 : q_34.2.2.2.1 m3 = (upd (q_7.2.2.2.1 m3) (v_6 : Int32).toNatClampNeg ((q.2.2.2.1 m1 (v_6 : Int32).toNatClampNeg))) := by rw [eq_34, sg_pG_e]
        have z_36 : q_34.2.2.2.1 m3 (v_6 : Int32).toNatClampNeg = (q.2.2.2.1 m1 (v_6 : Int32).toNatClampNeg) := by rw [eq_34, sg_pG_e]; exact if_pos rfl
        have hK_q_34 : sx_kf a0 [2, 4, 5, 10, 6, 7, 8, 9, 11, 12, 13] q q_34 := hK_q_7.tr (sx_kf.eq (by rw [eq_34]; rfl) (by rw [eq_34]; rfl))
        obtain ⟨v_37, ev_37⟩ : ∃ z : Int32, z = v_6 + 1 := ⟨_, rfl⟩
        refine wa_iinc B [(3, .int v_37), (0, .ref a0), (1, .int n1), (2, .int n2)] v_37 dX12_takes_35 0 rfl (by rw [ev_37]; rfl) (by decide) rfl ?_
        refine wa_goto B 15 dX12_takes_38 (by decide) ?_
        have tv_37 : v_37.toInt = v_6.toInt + 1 := by have b0 := zx_bd v_6; rw [ev_37]; exact zx_add (show (-2147483648 : Int) ≤ v_6.toInt + 1 by omega) (show v_6.toInt + 1 < (2147483648 : Int) by omega)
        have z_38 : q_34.1 a0 4 = (q.1 a0 2) := ((show q_34.1 a0 4 = q_7.1 a0 4 from by rw [eq_34]; rfl)).trans (p1_q_7)
        have y_39 : (q_34.1 a0 4).toInt = (q.1 a0 2).toInt := by rw [z_38]
        have z_40 : q_34.1 a0 2 = 0 := ((show q_34.1 a0 2 = q_7.1 a0 2 from by rw [eq_34]; rfl)).trans (p0_q_7)
        have z_41 : q_34.2.2.1 a0 1 = m1 := ((show q_34.2.2.1 a0 1 = q_7.2.2.1 a0 1 from by rw [eq_34]; rfl)).trans (p2_q_7)
        have z_42 : q_34.2.2.1 a0 3 = m3 := ((show q_34.2.2.1 a0 3 = q_7.2.2.1 a0 3 from by rw [eq_34]; rfl)).trans (p3_q_7)
        have z_43 : q_34.2.2.2.1 m1 = (q.2.2.2.1 m1) := ((show q_34.2.2.2.1 m1 = q_7.2.2.2.1 m1 from by rw [eq_34]; exact sg_pG_a (sx_ka h km1 km3 (by decide)))).trans (p4_q_7)
        exact ih_19 v_37 q_34 hV_q_34 hF_q_34 hK_q_34 z_40 z_38 z_41 z_42 z_43 (show 0 ≤ v_37.toInt from by first | assumption | omega | decide) (show (q_34.1 a0 4).toInt ≤ 440 from by first | assumption | omega | decide) (show v_37.toInt ≤ (q_34.1 a0 4).toInt from by first | assumption | omega | decide) (show ∀ j : Nat, (j : Int) < v_37.toInt → q_34.2.2.2.1 m3 j = q.2.2.2.1 m1 j from by intro j hj; have a9 := zx_nc v_6; rw [z_35]; by_cases z9 : j = (v_6 : Int32).toNatClampNeg; (rw [z9]; exact if_pos rfl); exact (if_neg z9).trans (x_16 j (by omega))) (show ((q_34.1 a0 4).toInt - v_37.toInt : Int).toNat < _ from by omega)
  have y_44 : (q_4.1 a0 4).toInt = (q.1 a0 2).toInt := by rw [z_8]
  exact Lp_15_17 _ 0 q_4 hV_q_4 hF_q_4 hK_q_4 z_5 z_8 z_9 z_10 z_11 (show 0 ≤ 0 from by first | assumption | omega | decide) (show (q_4.1 a0 4).toInt ≤ 440 from by first | assumption | omega | decide) (show 0 ≤ (q_4.1 a0 4).toInt from by first | assumption | omega | decide) (show ∀ j : Nat, (j : Int) < 0 → q_4.2.2.2.1 m3 j = q.2.2.2.1 m1 j from by intro j hj; exact absurd hj (show ¬ ((j : Int) < 0) from by omega)) (Nat.lt_succ_self _)
theorem cp_i1 {i s v : Int32} (hs : 0 ≤ s.toInt) (hv : 0 ≤ v.toInt) (h : i.toInt = 5 * s.toInt + v.toInt) : i.toNatClampNeg = 5 * s.toInt.toNat + v.toInt.toNat := by
  rw [zx_nc]
  omega
theorem cp_i2 {i s v : Int32} (hs : 0 ≤ s.toInt) (hv : 0 ≤ v.toInt) (h : i.toInt = 5 * (3 + s.toInt) + v.toInt) : i.toNatClampNeg = 5 * (3 + s.toInt.toNat) + v.toInt.toNat := by
  rw [zx_nc]
  omega
