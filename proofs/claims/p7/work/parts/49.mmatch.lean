theorem iq_X12_sayRow_X12 : ∀ w ∈ wsX120, w ∈ wsX12_sayRow := fun _ h => List.mem_cons_of_mem _ (List.mem_append_right _ h)
set_option maxHeartbeats 4000000 in
set_option maxRecDepth 100000 in
theorem k_X12_sayRow (l : Launch) (dC : Nat → ClassId) (dI : Nat → Nat → Nat) (h : Sh) (L : List Nat) (hN : sx_nd L) (q : Sg) (hV : sx_V h L q) {a0 : Nat} (ha0 : a0 ∈ L) (ka0 : h.1 a0 = 12) (n1 : Int32) (n2 : Int32) {m3 : Nat} (em3 : q.2.2.1 a0 3 = m3) {m40 : Nat} (em40 : q.2.2.1 a0 40 = m40) {m41 : Nat} (em41 : q.2.2.1 a0 41 = m41)   (hy0 : 0 ≤ n1.toInt) (hy1 : n1.toInt ≤ 11) (hy2 : 0 ≤ n2.toInt) (hy3 : n2.toInt ≤ (q.2.2.2.1 m41 (n1).toNatClampNeg).toInt) (hy4 : (q.1 a0 4).toInt + ((q.2.2.2.1 m41 (n1).toNatClampNeg).toInt + 1 - n2.toInt) ≤ 500) : CMi l dC dI h L yX12_sayRow wsX12_sayRow ({ frames := 1, cells := 0, slots := 0, locals := 21 } : Room) q [.ref a0, .int n1, .int n2] (fun r q' => sx_V h L q' ∧ sx_fr h L (fun a => h.1 a = 12 ∨ h.1 a = 113) q q' ∧ sx_kf a0 [4] q q' ∧ (n2.toInt < r.toInt ∧ r.toInt ≤ (q.2.2.2.1 m41 (n1).toNatClampNeg).toInt + 1 ∧ (q'.1 a0 4).toInt = (q.1 a0 4).toInt + (r.toInt - n2.toInt) ∧ (r.toInt = (q.2.2.2.1 m41 (n1).toNatClampNeg).toInt + 1 ∧ ((mv_c (q.2.2.2.1 m40) (200 * (n1).toNatClampNeg) ((q.2.2.2.1 m41 (n1).toNatClampNeg).toInt).toNat : Nat) : Int) = ((mv_c (q.2.2.2.1 m40) (200 * (n1).toNatClampNeg) (n2).toNatClampNeg : Nat) : Int) ∨ r.toInt ≤ (q.2.2.2.1 m41 (n1).toNatClampNeg).toInt ∧ ((mv_c (q.2.2.2.1 m40) (200 * (n1).toNatClampNeg) (r).toNatClampNeg : Nat) : Int) = ((mv_c (q.2.2.2.1 m40) (200 * (n1).toNatClampNeg) (n2).toNatClampNeg : Nat) : Int) + 1))) := by
  refine cm_i (cc := cX12_sayRow) (mL := 4) (own := RX12) hN (by decide) rfl rfl (Nat.le_of_ble_eq_true rfl) (fun Z B hret => ?_)
  have hF : sx_fr h L (fun a => h.1 a = 12 ∨ h.1 a = 113) q q := sx_fr.rf
  have hK : sx_kf a0 [4] q q := sx_kf.rf
  obtain ⟨hm3, km3, lm3⟩ : m3 ∈ L ∧ h.1 m3 = 113 ∧ h.2.1 m3 = 500 := by obtain ⟨r9, e9, z1, z2, z3⟩ := hV.refn (t := 113) (n := 500) ha0 ka0 3 rfl (by decide) rfl (by decide); rw [← em3, e9]; exact ⟨z1, z2, z3⟩
  obtain ⟨hm40, km40, lm40⟩ : m40 ∈ L ∧ h.1 m40 = 150 ∧ h.2.1 m40 = 2400 := by obtain ⟨r9, e9, z1, z2, z3⟩ := hV.refn (t := 150) (n := 2400) ha0 ka0 40 rfl (by decide) rfl (by decide); rw [← em40, e9]; exact ⟨z1, z2, z3⟩
  obtain ⟨hm41, km41, lm41⟩ : m41 ∈ L ∧ h.1 m41 = 151 ∧ h.2.1 m41 = 12 := by obtain ⟨r9, e9, z1, z2, z3⟩ := hV.refn (t := 151) (n := 12) ha0 ka0 41 rfl (by decide) rfl (by decide); rw [← em41, e9]; exact ⟨z1, z2, z3⟩
  show WA l dC dI h L ({ frames := 1, cells := 0, slots := 0, locals := 21 } : Room) 4 Z q 0 [(0, .ref a0), (1, .int n1), (2, .int n2)] []
  refine wa_iload_n B dX12_sayRow_0 rfl 2 rfl ?_
  refine wa_istore_n B [(3, .int n2), (0, .ref a0), (1, .int n1), (2, .int n2)] dX12_sayRow_1 rfl (by decide) rfl ?_
  have Lp_2_7 : ∀ (n : Nat) (v_1 : Int32) (q_2 : Sg), sx_V h L q_2 → sx_fr h L (fun a => h.1 a = 12 ∨ h.1 a = 113) q q_2 → sx_kf a0 [4] q q_2 → q_2.2.2.1 a0 3 = m3 → q_2.2.2.1 a0 40 = m40 → q_2.2.2.1 a0 41 = m41 → q_2.2.2.2.1 m40 = (q.2.2.2.1 m40) → q_2.2.2.2.1 m41 = (q.2.2.2.1 m41) → n2.toInt ≤ v_1.toInt → v_1.toInt ≤ (q.2.2.2.1 m41 (n1).toNatClampNeg).toInt → (q_2.1 a0 4).toInt = (q.1 a0 4).toInt + (v_1.toInt - n2.toInt) → ((mv_c (q.2.2.2.1 m40) (200 * (n1).toNatClampNeg) (v_1).toNatClampNeg : Nat) : Int) = ((mv_c (q.2.2.2.1 m40) (200 * (n1).toNatClampNeg) (n2).toNatClampNeg : Nat) : Int) → ((q.2.2.2.1 m41 (n1).toNatClampNeg).toInt - v_1.toInt : Int).toNat < n → WA l dC dI h L ({ frames := 1, cells := 0, slots := 0, locals := 21 } : Room) 4 Z q_2 2 [(3, .int v_1), (0, .ref a0), (1, .int n1), (2, .int n2)] [] := by
    intro n
    induction n with
    | zero =>
      intro v_1 q_2 hV_q_2 hF_q_2 hK_q_2 p0_q_2 p1_q_2 p2_q_2 p3_q_2 p4_q_2 x_3 x_4 x_5 x_6 hn
      exact absurd hn (Nat.not_lt_zero _)
    | succ n ih_8 =>
      intro v_1 q_2 hV_q_2 hF_q_2 hK_q_2 p0_q_2 p1_q_2 p2_q_2 p3_q_2 p4_q_2 x_3 x_4 x_5 x_6 hn
      refine wa_iload_n B dX12_sayRow_2 rfl 0 rfl ?_
      have a1 := zx_nc n1
      have a_9 := zx_nc v_1
      refine wa_aload_n B dX12_sayRow_3 rfl 1 rfl ?_
      refine wa_getR B (C := RX12) (T := TX12) (N := 51) iq_X12_sayRow_X12 ha0 ka0 (by decide) rfl 41 (by decide) (by decide) (by decide +kernel) rfl (fun _ _ _ => rfl) (v := m41) p2_q_2 dX12_sayRow_4 ?_
      refine wa_iload_n B dX12_sayRow_7 rfl 2 rfl ?_
      have z_10 : q_2.2.2.2.1 m41 (n1 : Int32).toNatClampNeg = (q.2.2.2.1 m41 (n1 : Int32).toNatClampNeg) := congrFun p4_q_2 _
      refine wa_iaload B hm41 km41 (by decide) (by decide) (show 0 ≤ n1.toInt by omega) (show n1.toInt < (h.2.1 m41 : Int) by omega) (v := (q.2.2.2.1 m41 (n1 : Int32).toNatClampNeg)) z_10 dX12_sayRow_8 ?_
      have g_11 : (0 : Int) ≤ ((q.2.2.2.1 m41 (n1 : Int32).toNatClampNeg)).toInt ∧ ((q.2.2.2.1 m41 (n1 : Int32).toNatClampNeg)).toInt ≤ 200 := by rw [← z_10]; exact hV_q_2.cnt hm41 km41 _
      refine wa_icmp_ge B 51 dX12_sayRow_9 (by decide) (fun (t_12 : ((q.2.2.2.1 m41 (n1 : Int32).toNatClampNeg)).toInt ≤ v_1.toInt) => ?_) (fun (t_12 : ¬ ((q.2.2.2.1 m41 (n1 : Int32).toNatClampNeg)).toInt ≤ v_1.toInt) => ?_)
      · refine wa_aload_n B dX12_sayRow_51 rfl 1 rfl ?_
        refine wa_bipush B 32 dX12_sayRow_52 (by decide) ?_
        refine wa_callVv B (x := (RX12, TX12, 51)) (As := [.int 32]) (rest := []) (k_X12_say l dC dI h L hN q_2 hV_q_2 (a0 := a0) ha0 ka0 32  (by first | assumption | omega | decide) (by first | assumption | omega | decide) (by first | assumption | omega | decide)) (cwV 1 B.1.2.2.2.2 gX12_sayRow_X12_say rfl rfl rfl (by decide +kernel) ⟨Nat.le_of_ble_eq_true rfl, Nat.le_of_ble_eq_true rfl⟩) ha0 ka0 (by decide) rfl rfl rfl (Nat.le_of_ble_eq_true rfl) dX12_sayRow_54 (fun q_13 w_14 => ?_)
        obtain ⟨hV_q_13, h2_q_13, h3_q_13, hw_14⟩ := w_14
        have hF_q_13 : sx_fr h L (fun a => h.1 a = 12 ∨ h.1 a = 113) q q_13 := hF_q_2.tr (h2_q_13.mono (fun a (z : h.1 a = 12 ∨ h.1 a = 113) => (show h.1 a = 12 ∨ h.1 a = 113 from by omega)))
        have hK_q_13 : sx_kf a0 [4] q q_13 := hK_q_2.tr (h3_q_13.mono (by decide))
        refine wa_iload_n B dX12_sayRow_57 rfl 0 rfl ?_
        refine wa_iconst B 1 dX12_sayRow_58 (by decide) ?_
        refine wa_iadd B dX12_sayRow_59 (fun v_15 ev_15 => ?_)
        have tv_15 : v_15.toInt = v_1.toInt + 1 := by have b0 := zx_bd v_1; rw [ev_15]; exact zx_add (show (-2147483648 : Int) ≤ v_1.toInt + 1 by omega) (show v_1.toInt + 1 < (2147483648 : Int) by omega)
        exact hret _ _ _ _ dX12_sayRow_60 ⟨hV_q_13, hF_q_13, hK_q_13, (by have a2 := zx_nc v_1; have a3 := zx_nc v_15; have x9 := x_6; refine ⟨by omega, by omega, by omega, Or.inl ⟨by omega, ?_⟩⟩; rw [show ((q.2.2.2.1 m41 (n1).toNatClampNeg).toInt).toNat = (v_1 : Int32).toNatClampNeg by omega]; exact x9)⟩
      · refine wa_aload_n B dX12_sayRow_12 rfl 1 rfl ?_
        refine wa_getR B (C := RX12) (T := TX12) (N := 51) iq_X12_sayRow_X12 ha0 ka0 (by decide) rfl 40 (by decide) (by decide) (by decide +kernel) rfl (fun _ _ _ => rfl) (v := m40) p1_q_2 dX12_sayRow_13 ?_
        refine wa_sipush B 200 dX12_sayRow_16 (by decide) ?_
        refine wa_iload_n B dX12_sayRow_19 rfl 2 rfl ?_
        refine wa_imul B dX12_sayRow_20 (fun v_16 ev_16 => ?_)
        refine wa_iload_n B dX12_sayRow_21 rfl 0 rfl ?_
        refine wa_iadd B dX12_sayRow_22 (fun v_17 ev_17 => ?_)
        have tv_16 : v_16.toInt = 200 * n1.toInt := by have b1 := zx_bd n1; rw [ev_16]; exact zx_mul (show (-2147483648 : Int) ≤ 200 * n1.toInt by omega) (show 200 * n1.toInt < (2147483648 : Int) by omega)
        have tv_17 : v_17.toInt = v_16.toInt + v_1.toInt := by have b0 := zx_bd v_16; have b1 := zx_bd v_1; rw [ev_17]; exact zx_add (show (-2147483648 : Int) ≤ v_16.toInt + v_1.toInt by omega) (show v_16.toInt + v_1.toInt < (2147483648 : Int) by omega)
        have z_18 : q_2.2.2.2.1 m40 (v_17 : Int32).toNatClampNeg = (q.2.2.2.1 m40 (v_17 : Int32).toNatClampNeg) := congrFun p3_q_2 _
        refine wa_iaload B hm40 km40 (by decide) (by decide) (show 0 ≤ v_17.toInt by omega) (show v_17.toInt < (h.2.1 m40 : Int) by omega) (v := (q.2.2.2.1 m40 (v_17 : Int32).toNatClampNeg)) z_18 dX12_sayRow_23 ?_
        have g_19 : (0 : Int) ≤ ((q.2.2.2.1 m40 (v_17 : Int32).toNatClampNeg)).toInt ∧ ((q.2.2.2.1 m40 (v_17 : Int32).toNatClampNeg)).toInt ≤ 255 := by rw [← z_18]; exact hV_q_2.cnt hm40 km40 _
        refine wa_bipush B 47 dX12_sayRow_24 (by decide) ?_
        refine wa_icmp_eq B 51 dX12_sayRow_26 (by decide) (fun (t_20 : ((q.2.2.2.1 m40 (v_17 : Int32).toNatClampNeg)).toInt = 47) => ?_) (fun (t_20 : ¬ ((q.2.2.2.1 m40 (v_17 : Int32).toNatClampNeg)).toInt = 47) => ?_)
        · refine wa_aload_n B dX12_sayRow_51 rfl 1 rfl ?_
          refine wa_bipush B 32 dX12_sayRow_52 (by decide) ?_
          refine wa_callVv B (x := (RX12, TX12, 51)) (As := [.int 32]) (rest := []) (k_X12_say l dC dI h L hN q_2 hV_q_2 (a0 := a0) ha0 ka0 32  (by first | assumption | omega | decide) (by first | assumption | omega | decide) (by first | assumption | omega | decide)) (cwV 1 B.1.2.2.2.2 gX12_sayRow_X12_say rfl rfl rfl (by decide +kernel) ⟨Nat.le_of_ble_eq_true rfl, Nat.le_of_ble_eq_true rfl⟩) ha0 ka0 (by decide) rfl rfl rfl (Nat.le_of_ble_eq_true rfl) dX12_sayRow_54 (fun q_21 w_22 => ?_)
          obtain ⟨hV_q_21, h2_q_21, h3_q_21, hw_22⟩ := w_22
          have hF_q_21 : sx_fr h L (fun a => h.1 a = 12 ∨ h.1 a = 113) q q_21 := hF_q_2.tr (h2_q_21.mono (fun a (z : h.1 a = 12 ∨ h.1 a = 113) => (show h.1 a = 12 ∨ h.1 a = 113 from by omega)))
          have hK_q_21 : sx_kf a0 [4] q q_21 := hK_q_2.tr (h3_q_21.mono (by decide))
          refine wa_iload_n B dX12_sayRow_57 rfl 0 rfl ?_
          refine wa_iconst B 1 dX12_sayRow_58 (by decide) ?_
          refine wa_iadd B dX12_sayRow_59 (fun v_23 ev_23 => ?_)
          have tv_23 : v_23.toInt = v_1.toInt + 1 := by have b0 := zx_bd v_1; rw [ev_23]; exact zx_add (show (-2147483648 : Int) ≤ v_1.toInt + 1 by omega) (show v_1.toInt + 1 < (2147483648 : Int) by omega)
          exact hret _ _ _ _ dX12_sayRow_60 ⟨hV_q_21, hF_q_21, hK_q_21, (by have a2 := zx_nc v_1; have a3 := zx_nc v_23; have x9 := x_6; have a4 := zx_nc v_17; refine ⟨by omega, by omega, by omega, Or.inr ⟨by omega, ?_⟩⟩; rw [show (v_23 : Int32).toNatClampNeg = (v_1 : Int32).toNatClampNeg + 1 by omega, mv_c_s (m := (v_17 : Int32).toNatClampNeg) (by omega), if_pos (by omega)]; omega)⟩
        · refine wa_aload_n B dX12_sayRow_29 rfl 1 rfl ?_
          refine wa_aload_n B dX12_sayRow_30 rfl 1 rfl ?_
          refine wa_getR B (C := RX12) (T := TX12) (N := 51) iq_X12_sayRow_X12 ha0 ka0 (by decide) rfl 40 (by decide) (by decide) (by decide +kernel) rfl (fun _ _ _ => rfl) (v := m40) p1_q_2 dX12_sayRow_31 ?_
          refine wa_sipush B 200 dX12_sayRow_34 (by decide) ?_
          refine wa_iload_n B dX12_sayRow_37 rfl 2 rfl ?_
          refine wa_imul B dX12_sayRow_38 (fun v_24 ev_24 => ?_)
          refine wa_iload_n B dX12_sayRow_39 rfl 0 rfl ?_
          refine wa_iadd B dX12_sayRow_40 (fun v_25 ev_25 => ?_)
          have tv_24 : v_24.toInt = 200 * n1.toInt := by have b1 := zx_bd n1; rw [ev_24]; exact zx_mul (show (-2147483648 : Int) ≤ 200 * n1.toInt by omega) (show 200 * n1.toInt < (2147483648 : Int) by omega)
          have tv_25 : v_25.toInt = v_24.toInt + v_1.toInt := by have b0 := zx_bd v_24; have b1 := zx_bd v_1; rw [ev_25]; exact zx_add (show (-2147483648 : Int) ≤ v_24.toInt + v_1.toInt by omega) (show v_24.toInt + v_1.toInt < (2147483648 : Int) by omega)
          have z_26 : q_2.2.2.2.1 m40 (v_25 : Int32).toNatClampNeg = (q.2.2.2.1 m40 (v_25 : Int32).toNatClampNeg) := congrFun p3_q_2 _
          refine wa_iaload B hm40 km40 (by decide) (by decide) (show 0 ≤ v_25.toInt by omega) (show v_25.toInt < (h.2.1 m40 : Int) by omega) (v := (q.2.2.2.1 m40 (v_25 : Int32).toNatClampNeg)) z_26 dX12_sayRow_41 ?_
          have g_27 : (0 : Int) ≤ ((q.2.2.2.1 m40 (v_25 : Int32).toNatClampNeg)).toInt ∧ ((q.2.2.2.1 m40 (v_25 : Int32).toNatClampNeg)).toInt ≤ 255 := by rw [← z_26]; exact hV_q_2.cnt hm40 km40 _
          refine wa_callVv B (x := (RX12, TX12, 51)) (As := [.int ((q.2.2.2.1 m40 (v_25 : Int32).toNatClampNeg))]) (rest := []) (k_X12_say l dC dI h L hN q_2 hV_q_2 (a0 := a0) ha0 ka0 ((q.2.2.2.1 m40 (v_25 : Int32).toNatClampNeg))  (by first | assumption | omega | decide) (by first | assumption | omega | decide) (by first | assumption | omega | decide)) (cwV 1 B.1.2.2.2.2 gX12_sayRow_X12_say rfl rfl rfl (by decide +kernel) ⟨Nat.le_of_ble_eq_true rfl, Nat.le_of_ble_eq_true rfl⟩) ha0 ka0 (by decide) rfl rfl rfl (Nat.le_of_ble_eq_true rfl) dX12_sayRow_42 (fun q_28 w_29 => ?_)
          obtain ⟨hV_q_28, h2_q_28, h3_q_28, hw_29⟩ := w_29
          have hF_q_28 : sx_fr h L (fun a => h.1 a = 12 ∨ h.1 a = 113) q q_28 := hF_q_2.tr (h2_q_28.mono (fun a (z : h.1 a = 12 ∨ h.1 a = 113) => (show h.1 a = 12 ∨ h.1 a = 113 from by omega)))
          have hK_q_28 : sx_kf a0 [4] q q_28 := hK_q_2.tr (h3_q_28.mono (by decide))
          obtain ⟨v_30, ev_30⟩ : ∃ z : Int32, z = v_1 + 1 := ⟨_, rfl⟩
          refine wa_iinc B [(3, .int v_30), (0, .ref a0), (1, .int n1), (2, .int n2)] v_30 dX12_sayRow_45 0 rfl (by rw [ev_30]; rfl) (by decide) rfl ?_
          refine wa_goto B 2 dX12_sayRow_48 (by decide) ?_
          have tv_30 : v_30.toInt = v_1.toInt + 1 := by have b0 := zx_bd v_1; rw [ev_30]; exact zx_add (show (-2147483648 : Int) ≤ v_1.toInt + 1 by omega) (show v_1.toInt + 1 < (2147483648 : Int) by omega)
          have z_31 : q_28.2.2.1 a0 3 = m3 := (h2_q_28.R ha0 (show ¬ ((h.1 a0 = 12 ∨ h.1 a0 = 113) ∧ (h.1 a0 = 8 ∨ h.1 a0 = 11)) from by omega) 3).trans (p0_q_2)
          have z_32 : q_28.2.2.1 a0 40 = m40 := (h2_q_28.R ha0 (show ¬ ((h.1 a0 = 12 ∨ h.1 a0 = 113) ∧ (h.1 a0 = 8 ∨ h.1 a0 = 11)) from by omega) 40).trans (p1_q_2)
          have z_33 : q_28.2.2.1 a0 41 = m41 := (h2_q_28.R ha0 (show ¬ ((h.1 a0 = 12 ∨ h.1 a0 = 113) ∧ (h.1 a0 = 8 ∨ h.1 a0 = 11)) from by omega) 41).trans (p2_q_2)
          have z_34 : q_28.2.2.2.1 m40 = (q.2.2.2.1 m40) := (h2_q_28.G hm40 (show ¬ (h.1 m40 = 12 ∨ h.1 m40 = 113) from by omega) (by rw [km40]; decide)).trans (p3_q_2)
          have z_35 : q_28.2.2.2.1 m41 = (q.2.2.2.1 m41) := (h2_q_28.G hm41 (show ¬ (h.1 m41 = 12 ∨ h.1 m41 = 113) from by omega) (by rw [km41]; decide)).trans (p4_q_2)
          exact ih_8 v_30 q_28 hV_q_28 hF_q_28 hK_q_28 z_31 z_32 z_33 z_34 z_35 (show n2.toInt ≤ v_30.toInt from by first | assumption | omega | decide) (show v_30.toInt ≤ (q.2.2.2.1 m41 (n1).toNatClampNeg).toInt from by first | assumption | omega | decide) (show (q_28.1 a0 4).toInt = (q.1 a0 4).toInt + (v_30.toInt - n2.toInt) from by first | assumption | omega | decide) (show ((mv_c (q.2.2.2.1 m40) (200 * (n1).toNatClampNeg) (v_30).toNatClampNeg : Nat) : Int) = ((mv_c (q.2.2.2.1 m40) (200 * (n1).toNatClampNeg) (n2).toNatClampNeg : Nat) : Int) from by have a2 := zx_nc v_1; have a3 := zx_nc v_30; have a4 := zx_nc v_17; rw [show (v_30 : Int32).toNatClampNeg = (v_1 : Int32).toNatClampNeg + 1 by omega, mv_c_s (m := (v_17 : Int32).toNatClampNeg) (by omega), if_neg (by omega)]; exact x_6) (show ((q.2.2.2.1 m41 (n1).toNatClampNeg).toInt - v_30.toInt : Int).toNat < _ from by omega)
  exact Lp_2_7 _ n2 q hV hF hK em3 em40 em41 rfl rfl (show n2.toInt ≤ n2.toInt from by first | assumption | omega | decide) (show n2.toInt ≤ (q.2.2.2.1 m41 (n1).toNatClampNeg).toInt from by first | assumption | omega | decide) (show (q.1 a0 4).toInt = (q.1 a0 4).toInt + (n2.toInt - n2.toInt) from by first | assumption | omega | decide) (show ((mv_c (q.2.2.2.1 m40) (200 * (n1).toNatClampNeg) (n2).toNatClampNeg : Nat) : Int) = ((mv_c (q.2.2.2.1 m40) (200 * (n1).toNatClampNeg) (n2).toNatClampNeg : Nat) : Int) from by rfl) (Nat.lt_succ_self _)
theorem iq_X12_joined_X12 : ∀ w ∈ wsX120, w ∈ wsX12_joined := fun _ h => List.mem_cons_of_mem _ (List.mem_append_right _ h)
set_option maxHeartbeats 4000000 in
set_option maxRecDepth 100000 in
theorem k_X12_joined (l : Launch) (dC : Nat → ClassId) (dI : Nat → Nat → Nat) (h : Sh) (L : List Nat) (hN : sx_nd L) (q : Sg) (hV : sx_V h L q) {a0 : Nat} (ha0 : a0 ∈ L) (ka0 : h.1 a0 = 12) (n1 : Int32) (n2 : Int32) {m3 : Nat} (em3 : q.2.2.1 a0 3 = m3) {m18 : Nat} (em18 : q.2.2.1 a0 18 = m18) {m19 : Nat} (em19 : q.2.2.1 a0 19 = m19) {m23 : Nat} (em23 : q.2.2.1 a0 23 = m23) {m24 : Nat} (em24 : q.2.2.1 a0 24 = m24) {m25 : Nat} (em25 : q.2.2.1 a0 25 = m25) {m26 : Nat} (em26 : q.2.2.1 a0 26 = m26) {m27 : Nat} (em27 : q.2.2.1 a0 27 = m27) {m28 : Nat} (em28 : q.2.2.1 a0 28 = m28) {m29 : Nat} (em29 : q.2.2.1 a0 29 = m29) {m30 : Nat} (em30 : q.2.2.1 a0 30 = m30) {m34 : Nat} (em34 : q.2.2.1 a0 34 = m34) {m35 : Nat} (em35 : q.2.2.1 a0 35 = m35) {m40 : Nat} (em40 : q.2.2.1 a0 40 = m40) {m41 : Nat} (em41 : q.2.2.1 a0 41 = m41) {m44 : Nat} (em44 : q.2.2.1 a0 44 = m44) {m42 : Nat} (em42 : q.2.2.1 a0 42 = m42) {m43 : Nat} (em43 : q.2.2.1 a0 43 = m43) (mN : mv_N a0 q) (mS : mv_S m23 m26 m28 m29 q) (mL : mv_L m40 m41 m44 a0 q)  (hy0 : 0 ≤ n1.toInt) (hy1 : n1.toInt ≤ 11) (hy2 : 0 ≤ n2.toInt) (hy3 : n2.toInt ≤ 11) (hy4 : n1.toInt < (q.1 a0 45).toInt) (hy5 : n2.toInt < (q.1 a0 45).toInt) : CMi l dC dI h L yX12_joined wsX12_joined ({ frames := 5, cells := 0, slots := 0, locals := 119 } : Room) q [.ref a0, .int n1, .int n2] (fun r q' => sx_V h L q' ∧ sx_fr h L (fun a => h.1 a = 12 ∨ h.1 a = 113 ∨ h.1 a = 133 ∨ h.1 a = 134 ∨ h.1 a = 135 ∨ h.1 a = 138 ∨ h.1 a = 139 ∨ h.1 a = 140 ∨ h.1 a = 136 ∨ h.1 a = 137 ∨ h.1 a = 144 ∨ h.1 a = 245) q q' ∧ sx_kf a0 [4, 14, 15, 32, 33, 36, 37, 38, 39, 5, 10, 6, 7, 8, 9, 11, 12, 13] q q' ∧ mv_N a0 q' ∧ mv_S m23 m26 m28 m29 q' ∧ mv_L m40 m41 m44 a0 q') := by
  refine cm_i (cc := cX12_joined) (mL := 8) (own := RX12) hN (by decide) rfl rfl (Nat.le_of_ble_eq_true rfl) (fun Z B hret => ?_)
  have hF : sx_fr h L (fun a => h.1 a = 12 ∨ h.1 a = 113 ∨ h.1 a = 133 ∨ h.1 a = 134 ∨ h.1 a = 135 ∨ h.1 a = 138 ∨ h.1 a = 139 ∨ h.1 a = 140 ∨ h.1 a = 136 ∨ h.1 a = 137 ∨ h.1 a = 144 ∨ h.1 a = 245) q q := sx_fr.rf
  have hK : sx_kf a0 [4, 14, 15, 32, 33, 36, 37, 38, 39, 5, 10, 6, 7, 8, 9, 11, 12, 13] q q := sx_kf.rf
  obtain ⟨hm3, km3, lm3⟩ : m3 ∈ L ∧ h.1 m3 = 113 ∧ h.2.1 m3 = 500 := by obtain ⟨r9, e9, z1, z2, z3⟩ := hV.refn (t := 113) (n := 500) ha0 ka0 3 rfl (by decide) rfl (by decide); rw [← em3, e9]; exact ⟨z1, z2, z3⟩
  obtain ⟨hm18, km18, lm18⟩ : m18 ∈ L ∧ h.1 m18 = 128 ∧ h.2.1 m18 = 6 := by obtain ⟨r9, e9, z1, z2, z3⟩ := hV.refn (t := 128) (n := 6) ha0 ka0 18 rfl (by decide) rfl (by decide); rw [← em18, e9]; exact ⟨z1, z2, z3⟩
  obtain ⟨hm19, km19, lm19⟩ : m19 ∈ L ∧ h.1 m19 = 129 ∧ h.2.1 m19 = 30 := by obtain ⟨r9, e9, z1, z2, z3⟩ := hV.refn (t := 129) (n := 30) ha0 ka0 19 rfl (by decide) rfl (by decide); rw [← em19, e9]; exact ⟨z1, z2, z3⟩
  obtain ⟨hm23, km23, lm23⟩ : m23 ∈ L ∧ h.1 m23 = 133 ∧ h.2.1 m23 = 9 := by obtain ⟨r9, e9, z1, z2, z3⟩ := hV.refn (t := 133) (n := 9) ha0 ka0 23 rfl (by decide) rfl (by decide); rw [← em23, e9]; exact ⟨z1, z2, z3⟩
  obtain ⟨hm24, km24, lm24⟩ : m24 ∈ L ∧ h.1 m24 = 134 ∧ h.2.1 m24 = 108 := by obtain ⟨r9, e9, z1, z2, z3⟩ := hV.refn (t := 134) (n := 108) ha0 ka0 24 rfl (by decide) rfl (by decide); rw [← em24, e9]; exact ⟨z1, z2, z3⟩
  obtain ⟨hm25, km25, lm25⟩ : m25 ∈ L ∧ h.1 m25 = 135 ∧ h.2.1 m25 = 108 := by obtain ⟨r9, e9, z1, z2, z3⟩ := hV.refn (t := 135) (n := 108) ha0 ka0 25 rfl (by decide) rfl (by decide); rw [← em25, e9]; exact ⟨z1, z2, z3⟩
  obtain ⟨hm26, km26, lm26⟩ : m26 ∈ L ∧ h.1 m26 = 136 ∧ h.2.1 m26 = 108 := by obtain ⟨r9, e9, z1, z2, z3⟩ := hV.refn (t := 136) (n := 108) ha0 ka0 26 rfl (by decide) rfl (by decide); rw [← em26, e9]; exact ⟨z1, z2, z3⟩
  obtain ⟨hm27, km27, lm27⟩ : m27 ∈ L ∧ h.1 m27 = 137 ∧ h.2.1 m27 = 9 := by obtain ⟨r9, e9, z1, z2, z3⟩ := hV.refn (t := 137) (n := 9) ha0 ka0 27 rfl (by decide) rfl (by decide); rw [← em27, e9]; exact ⟨z1, z2, z3⟩
  obtain ⟨hm28, km28, lm28⟩ : m28 ∈ L ∧ h.1 m28 = 138 ∧ h.2.1 m28 = 540 := by obtain ⟨r9, e9, z1, z2, z3⟩ := hV.refn (t := 138) (n := 540) ha0 ka0 28 rfl (by decide) rfl (by decide); rw [← em28, e9]; exact ⟨z1, z2, z3⟩
  obtain ⟨hm29, km29, lm29⟩ : m29 ∈ L ∧ h.1 m29 = 139 ∧ h.2.1 m29 = 540 := by obtain ⟨r9, e9, z1, z2, z3⟩ := hV.refn (t := 139) (n := 540) ha0 ka0 29 rfl (by decide) rfl (by decide); rw [← em29, e9]; exact ⟨z1, z2, z3⟩
  obtain ⟨hm30, km30, lm30⟩ : m30 ∈ L ∧ h.1 m30 = 140 ∧ h.2.1 m30 = 540 := by obtain ⟨r9, e9, z1, z2, z3⟩ := hV.refn (t := 140) (n := 540) ha0 ka0 30 rfl (by decide) rfl (by decide); rw [← em30, e9]; exact ⟨z1, z2, z3⟩
  obtain ⟨hm34, km34, lm34⟩ : m34 ∈ L ∧ h.1 m34 = 144 ∧ h.2.1 m34 = 4 := by obtain ⟨r9, e9, z1, z2, z3⟩ := hV.refn (t := 144) (n := 4) ha0 ka0 34 rfl (by decide) rfl (by decide); rw [← em34, e9]; exact ⟨z1, z2, z3⟩
  obtain ⟨hm35, km35, lm35⟩ : m35 ∈ L ∧ h.1 m35 = 245 ∧ h.2.1 m35 = 12 := by obtain ⟨r9, e9, z1, z2, z3⟩ := hV.refn (t := 245) (n := 12) ha0 ka0 35 rfl (by decide) rfl (by decide); rw [← em35, e9]; exact ⟨z1, z2, z3⟩
  obtain ⟨hm40, km40, lm40⟩ : m40 ∈ L ∧ h.1 m40 = 150 ∧ h.2.1 m40 = 2400 := by obtain ⟨r9, e9, z1, z2, z3⟩ := hV.refn (t := 150) (n := 2400) ha0 ka0 40 rfl (by decide) rfl (by decide); rw [← em40, e9]; exact ⟨z1, z2, z3⟩
  obtain ⟨hm41, km41, lm41⟩ : m41 ∈ L ∧ h.1 m41 = 151 ∧ h.2.1 m41 = 12 := by obtain ⟨r9, e9, z1, z2, z3⟩ := hV.refn (t := 151) (n := 12) ha0 ka0 41 rfl (by decide) rfl (by decide); rw [← em41, e9]; exact ⟨z1, z2, z3⟩
  obtain ⟨hm44, km44, lm44⟩ : m44 ∈ L ∧ h.1 m44 = 154 ∧ h.2.1 m44 = 12 := by obtain ⟨r9, e9, z1, z2, z3⟩ := hV.refn (t := 154) (n := 12) ha0 ka0 44 rfl (by decide) rfl (by decide); rw [← em44, e9]; exact ⟨z1, z2, z3⟩
  obtain ⟨hm42, km42, lm42⟩ : m42 ∈ L ∧ h.1 m42 = 152 ∧ h.2.1 m42 = 12 := by obtain ⟨r9, e9, z1, z2, z3⟩ := hV.refn (t := 152) (n := 12) ha0 ka0 42 rfl (by decide) rfl (by decide); rw [← em42, e9]; exact ⟨z1, z2, z3⟩
  obtain ⟨hm43, km43, lm43⟩ : m43 ∈ L ∧ h.1 m43 = 153 ∧ h.2.1 m43 = 12 := by obtain ⟨r9, e9, z1, z2, z3⟩ := hV.refn (t := 153) (n := 12) ha0 ka0 43 rfl (by decide) rfl (by decide); rw [← em43, e9]; exact ⟨z1, z2, z3⟩
  show WA l dC dI h L ({ frames := 5, cells := 0, slots := 0, locals := 119 } : Room) 8 Z q 0 [(0, .ref a0), (1, .int n1), (2, .int n2)] []
  refine wa_aload_n B dX12_joined_0 rfl 0 rfl ?_
  refine wa_getR B (C := RX12) (T := TX12) (N := 51) iq_X12_joined_X12 ha0 ka0 (by decide) rfl 43 (by decide) (by decide) (by decide +kernel) rfl (fun _ _ _ => rfl) (v := m43) em43 dX12_joined_1 ?_
  refine wa_iload_n B dX12_joined_4 rfl 1 rfl ?_
  refine wa_iaload B hm43 km43 (by decide) (by decide) (show 0 ≤ n1.toInt by omega) (show n1.toInt < (h.2.1 m43 : Int) by omega) (v := (q.2.2.2.1 m43 (n1 : Int32).toNatClampNeg)) rfl dX12_joined_5 ?_
  refine wa_if_eq B 52 dX12_joined_6 (by decide) (fun (t_1 : ((q.2.2.2.1 m43 (n1 : Int32).toNatClampNeg)).toInt = 0) => ?_) (fun (t_1 : ¬ ((q.2.2.2.1 m43 (n1 : Int32).toNatClampNeg)).toInt = 0) => ?_)
  · refine wa_iconst B 0 dX12_joined_52 (by decide) ?_
    exact hret _ _ _ _ dX12_joined_53 ⟨hV, hF, hK, mN, mS, mL⟩
  · refine wa_aload_n B dX12_joined_9 rfl 0 rfl ?_
    refine wa_getR B (C := RX12) (T := TX12) (N := 51) iq_X12_joined_X12 ha0 ka0 (by decide) rfl 42 (by decide) (by decide) (by decide +kernel) rfl (fun _ _ _ => rfl) (v := m42) em42 dX12_joined_10 ?_
    refine wa_iload_n B dX12_joined_13 rfl 2 rfl ?_
    refine wa_iaload B hm42 km42 (by decide) (by decide) (show 0 ≤ n2.toInt by omega) (show n2.toInt < (h.2.1 m42 : Int) by omega) (v := (q.2.2.2.1 m42 (n2 : Int32).toNatClampNeg)) rfl dX12_joined_14 ?_
    refine wa_if_eq B 52 dX12_joined_15 (by decide) (fun (t_2 : ((q.2.2.2.1 m42 (n2 : Int32).toNatClampNeg)).toInt = 0) => ?_) (fun (t_2 : ¬ ((q.2.2.2.1 m42 (n2 : Int32).toNatClampNeg)).toInt = 0) => ?_)
    · refine wa_iconst B 0 dX12_joined_52 (by decide) ?_
      exact hret _ _ _ _ dX12_joined_53 ⟨hV, hF, hK, mN, mS, mL⟩
    · refine wa_aload_n B dX12_joined_18 rfl 0 rfl ?_
      refine wa_getR B (C := RX12) (T := TX12) (N := 51) iq_X12_joined_X12 ha0 ka0 (by decide) rfl 43 (by decide) (by decide) (by decide +kernel) rfl (fun _ _ _ => rfl) (v := m43) em43 dX12_joined_19 ?_
      refine wa_iload_n B dX12_joined_22 rfl 1 rfl ?_
      refine wa_iaload B hm43 km43 (by decide) (by decide) (show 0 ≤ n1.toInt by omega) (show n1.toInt < (h.2.1 m43 : Int) by omega) (v := (q.2.2.2.1 m43 (n1 : Int32).toNatClampNeg)) rfl dX12_joined_23 ?_
      refine wa_aload_n B dX12_joined_24 rfl 0 rfl ?_
      refine wa_getR B (C := RX12) (T := TX12) (N := 51) iq_X12_joined_X12 ha0 ka0 (by decide) rfl 42 (by decide) (by decide) (by decide +kernel) rfl (fun _ _ _ => rfl) (v := m42) em42 dX12_joined_25 ?_
      refine wa_iload_n B dX12_joined_28 rfl 2 rfl ?_
      refine wa_iaload B hm42 km42 (by decide) (by decide) (show 0 ≤ n2.toInt by omega) (show n2.toInt < (h.2.1 m42 : Int) by omega) (v := (q.2.2.2.1 m42 (n2 : Int32).toNatClampNeg)) rfl dX12_joined_29 ?_
      refine wa_iadd B dX12_joined_30 (fun v_3 ev_3 => ?_)
      refine wa_ldcw B 99999999 (by decide +kernel) dX12_joined_31 ?_
      refine wa_icmp_ne B 52 dX12_joined_34 (by decide) (fun (t_4 : ¬ v_3.toInt = 99999999) => ?_) (fun (t_4 : v_3.toInt = 99999999) => ?_)
      · refine wa_iconst B 0 dX12_joined_52 (by decide) ?_
        exact hret _ _ _ _ dX12_joined_53 ⟨hV, hF, hK, mN, mS, mL⟩
      · refine wa_aload_n B dX12_joined_37 rfl 0 rfl ?_
        refine wa_getR B (C := RX12) (T := TX12) (N := 51) iq_X12_joined_X12 ha0 ka0 (by decide) rfl 44 (by decide) (by decide) (by decide +kernel) rfl (fun _ _ _ => rfl) (v := m44) em44 dX12_joined_38 ?_
        refine wa_iload_n B dX12_joined_41 rfl 1 rfl ?_
        refine wa_iaload B hm44 km44 (by decide) (by decide) (show 0 ≤ n1.toInt by omega) (show n1.toInt < (h.2.1 m44 : Int) by omega) (v := (q.2.2.2.1 m44 (n1 : Int32).toNatClampNeg)) rfl dX12_joined_42 ?_
        have g_5 : (0 : Int) ≤ ((q.2.2.2.1 m44 (n1 : Int32).toNatClampNeg)).toInt ∧ ((q.2.2.2.1 m44 (n1 : Int32).toNatClampNeg)).toInt ≤ 201 := hV.cnt hm44 km44 _
        refine wa_aload_n B dX12_joined_43 rfl 0 rfl ?_
        refine wa_getR B (C := RX12) (T := TX12) (N := 51) iq_X12_joined_X12 ha0 ka0 (by decide) rfl 44 (by decide) (by decide) (by decide +kernel) rfl (fun _ _ _ => rfl) (v := m44) em44 dX12_joined_44 ?_
        refine wa_iload_n B dX12_joined_47 rfl 2 rfl ?_
        refine wa_iaload B hm44 km44 (by decide) (by decide) (show 0 ≤ n2.toInt by omega) (show n2.toInt < (h.2.1 m44 : Int) by omega) (v := (q.2.2.2.1 m44 (n2 : Int32).toNatClampNeg)) rfl dX12_joined_48 ?_
        have g_6 : (0 : Int) ≤ ((q.2.2.2.1 m44 (n2 : Int32).toNatClampNeg)).toInt ∧ ((q.2.2.2.1 m44 (n2 : Int32).toNatClampNeg)).toInt ≤ 201 := hV.cnt hm44 km44 _
        refine wa_icmp_eq B 54 dX12_joined_49 (by decide) (fun (t_7 : ((q.2.2.2.1 m44 (n1 : Int32).toNatClampNeg)).toInt = ((q.2.2.2.1 m44 (n2 : Int32).toNatClampNeg)).toInt) => ?_) (fun (t_7 : ¬ ((q.2.2.2.1 m44 (n1 : Int32).toNatClampNeg)).toInt = ((q.2.2.2.1 m44 (n2 : Int32).toNatClampNeg)).toInt) => ?_)
        · refine wa_aload_n B dX12_joined_54 rfl 0 rfl ?_
          refine wa_getI B (C := RX12) (T := TX12) (N := 51) iq_X12_joined_X12 ha0 ka0 (by decide) rfl 20 (by decide) (by decide) (by decide +kernel) rfl (by decide) (v := (q.1 a0 20)) rfl dX12_joined_55 ?_
          have g_8 : (0 : Int) ≤ (q.1 a0 20).toInt ∧ (q.1 a0 20).toInt ≤ 3 := hV.int ha0 ka0 20
          refine wa_if_ne B 63 dX12_joined_58 (by decide) (fun (t_9 : ¬ (q.1 a0 20).toInt = 0) => ?_) (fun (t_9 : (q.1 a0 20).toInt = 0) => ?_)
          · have a_10 := zx_nc n1
            have a_11 := zx_nc n2
            have x_12 := mL (n1).toNatClampNeg (by omega)
            have g_13 : 0 ≤ (q.2.2.2.1 m41 (n1).toNatClampNeg).toInt ∧ (q.2.2.2.1 m41 (n1).toNatClampNeg).toInt ≤ 200 := hV.cnt hm41 km41 _
            have x_14 := mL (n2).toNatClampNeg (by omega)
            have g_15 : 0 ≤ (q.2.2.2.1 m41 (n2).toNatClampNeg).toInt ∧ (q.2.2.2.1 m41 (n2).toNatClampNeg).toInt ≤ 200 := hV.cnt hm41 km41 _
            refine wa_aload_n B dX12_joined_63 rfl 0 rfl ?_
            refine wa_iconst B 0 dX12_joined_64 (by decide) ?_
            refine wa_putI B (C := RX12) (T := TX12) (N := 51) iq_X12_joined_X12 ha0 ka0 (by decide) rfl 4 (by decide) (by decide) (by decide +kernel) rfl (by decide) (v := 0) (ty := .int) tyX12 tyX12_ok nmX12 rfl (by decide +kernel) rfl rfl dX12_joined_65 (fun q_16 eq_16 => ?_)
            have hV_q_16 : sx_V h L q_16 := by rw [eq_16]; exact hV.pI ka0 (show sx_in 0 (0) 500 from ⟨by decide, by decide⟩)
            have hF_q_16 : sx_fr h L (fun a => h.1 a = 12 ∨ h.1 a = 113 ∨ h.1 a = 133 ∨ h.1 a = 134 ∨ h.1 a = 135 ∨ h.1 a = 138 ∨ h.1 a = 139 ∨ h.1 a = 140 ∨ h.1 a = 136 ∨ h.1 a = 137 ∨ h.1 a = 144 ∨ h.1 a = 245) q q_16 := hF.tr (by rw [eq_16]; exact sx_fr.pI (show h.1 a0 = 12 ∨ h.1 a0 = 113 ∨ h.1 a0 = 133 ∨ h.1 a0 = 134 ∨ h.1 a0 = 135 ∨ h.1 a0 = 138 ∨ h.1 a0 = 139 ∨ h.1 a0 = 140 ∨ h.1 a0 = 136 ∨ h.1 a0 = 137 ∨ h.1 a0 = 144 ∨ h.1 a0 = 245 from by omega))
            have z_17 : q_16.1 a0 4 = 0 := by rw [eq_16]; exact sg_pI_e
            have hK_q_16 : sx_kf a0 [4, 14, 15, 32, 33, 36, 37, 38, 39, 5, 10, 6, 7, 8, 9, 11, 12, 13] q q_16 := hK.tr (by rw [eq_16]; exact sx_kf.pI (by decide))
            have mN_q_16 : mv_N a0 q_16 := mv_N.eq ((show q_16.1 a0 8 = q.1 a0 8 from by rw [eq_16]; exact sg_pI_k (by decide))) ((show q_16.2.1 a0 11 = q.2.1 a0 11 from by rw [eq_16]; rfl)) mN
            have mS_q_16 : mv_S m23 m26 m28 m29 q_16 := mv_S.eq ((show q_16.2.2.2.1 m23 = q.2.2.2.1 m23 from by rw [eq_16]; rfl)) ((show q_16.2.2.2.1 m26 = q.2.2.2.1 m26 from by rw [eq_16]; rfl)) ((show q_16.2.2.2.1 m28 = q.2.2.2.1 m28 from by rw [eq_16]; rfl)) ((show q_16.2.2.2.1 m29 = q.2.2.2.1 m29 from by rw [eq_16]; rfl)) mS
            have mL_q_16 : mv_L m40 m41 m44 a0 q_16 := mv_L.eq ((show q_16.2.2.2.1 m40 = q.2.2.2.1 m40 from by rw [eq_16]; rfl)) ((show q_16.2.2.2.1 m41 = q.2.2.2.1 m41 from by rw [eq_16]; rfl)) ((show q_16.2.2.2.1 m44 = q.2.2.2.1 m44 from by rw [eq_16]; rfl)) ((show q_16.1 a0 45 = q.1 a0 45 from by rw [eq_16]; exact sg_pI_k (by decide))) mL
            refine wa_iconst B 0 dX12_joined_68 (by decide) ?_
            refine wa_istore_n B [(3, .int 0), (0, .ref a0), (1, .int n1), (2, .int n2)] dX12_joined_69 rfl (by decide) rfl ?_
            refine wa_iconst B 0 dX12_joined_70 (by decide) ?_
            refine wa_istore B [(4, .int 0), (3, .int 0), (0, .ref a0), (1, .int n1), (2, .int n2)] dX12_joined_71 (by decide) rfl ?_
            refine wa_iconst B 0 dX12_joined_73 (by decide) ?_
            refine wa_istore B [(5, .int 0), (4, .int 0), (3, .int 0), (0, .ref a0), (1, .int n1), (2, .int n2)] dX12_joined_74 (by decide) rfl ?_
            have z_22 : q_16.1 a0 20 = q.1 a0 20 := (show q_16.1 a0 20 = q.1 a0 20 from by rw [eq_16]; exact sg_pI_k (by decide))
            have z_23 : q_16.2.2.1 a0 3 = m3 := ((show q_16.2.2.1 a0 3 = q.2.2.1 a0 3 from by rw [eq_16]; rfl)).trans (em3)
            have z_24 : q_16.2.2.1 a0 18 = m18 := ((show q_16.2.2.1 a0 18 = q.2.2.1 a0 18 from by rw [eq_16]; rfl)).trans (em18)
            have z_25 : q_16.2.2.1 a0 19 = m19 := ((show q_16.2.2.1 a0 19 = q.2.2.1 a0 19 from by rw [eq_16]; rfl)).trans (em19)
            have z_26 : q_16.2.2.1 a0 23 = m23 := ((show q_16.2.2.1 a0 23 = q.2.2.1 a0 23 from by rw [eq_16]; rfl)).trans (em23)
            have z_27 : q_16.2.2.1 a0 24 = m24 := ((show q_16.2.2.1 a0 24 = q.2.2.1 a0 24 from by rw [eq_16]; rfl)).trans (em24)
            have z_28 : q_16.2.2.1 a0 25 = m25 := ((show q_16.2.2.1 a0 25 = q.2.2.1 a0 25 from by rw [eq_16]; rfl)).trans (em25)
            have z_29 : q_16.2.2.1 a0 26 = m26 := ((show q_16.2.2.1 a0 26 = q.2.2.1 a0 26 from by rw [eq_16]; rfl)).trans (em26)
            have z_30 : q_16.2.2.1 a0 27 = m27 := ((show q_16.2.2.1 a0 27 = q.2.2.1 a0 27 from by rw [eq_16]; rfl)).trans (em27)
            have z_31 : q_16.2.2.1 a0 28 = m28 := ((show q_16.2.2.1 a0 28 = q.2.2.1 a0 28 from by rw [eq_16]; rfl)).trans (em28)
            have z_32 : q_16.2.2.1 a0 29 = m29 := ((show q_16.2.2.1 a0 29 = q.2.2.1 a0 29 from by rw [eq_16]; rfl)).trans (em29)
            have z_33 : q_16.2.2.1 a0 30 = m30 := ((show q_16.2.2.1 a0 30 = q.2.2.1 a0 30 from by rw [eq_16]; rfl)).trans (em30)
            have z_34 : q_16.2.2.1 a0 34 = m34 := ((show q_16.2.2.1 a0 34 = q.2.2.1 a0 34 from by rw [eq_16]; rfl)).trans (em34)
            have z_35 : q_16.2.2.1 a0 35 = m35 := ((show q_16.2.2.1 a0 35 = q.2.2.1 a0 35 from by rw [eq_16]; rfl)).trans (em35)
            have z_36 : q_16.2.2.1 a0 40 = m40 := ((show q_16.2.2.1 a0 40 = q.2.2.1 a0 40 from by rw [eq_16]; rfl)).trans (em40)
            have z_37 : q_16.2.2.1 a0 41 = m41 := ((show q_16.2.2.1 a0 41 = q.2.2.1 a0 41 from by rw [eq_16]; rfl)).trans (em41)
            have z_38 : q_16.2.2.1 a0 44 = m44 := ((show q_16.2.2.1 a0 44 = q.2.2.1 a0 44 from by rw [eq_16]; rfl)).trans (em44)
            have z_39 : q_16.2.2.1 a0 42 = m42 := ((show q_16.2.2.1 a0 42 = q.2.2.1 a0 42 from by rw [eq_16]; rfl)).trans (em42)
            have z_40 : q_16.2.2.1 a0 43 = m43 := ((show q_16.2.2.1 a0 43 = q.2.2.1 a0 43 from by rw [eq_16]; rfl)).trans (em43)
            have z_41 : q_16.2.2.2.1 m3 = q.2.2.2.1 m3 := (show q_16.2.2.2.1 m3 = q.2.2.2.1 m3 from by rw [eq_16]; rfl)
            have z_42 : q_16.2.2.2.1 m18 = q.2.2.2.1 m18 := (show q_16.2.2.2.1 m18 = q.2.2.2.1 m18 from by rw [eq_16]; rfl)
            have z_43 : q_16.2.2.2.1 m19 = q.2.2.2.1 m19 := (show q_16.2.2.2.1 m19 = q.2.2.2.1 m19 from by rw [eq_16]; rfl)
            have z_44 : q_16.2.2.2.1 m23 = q.2.2.2.1 m23 := (show q_16.2.2.2.1 m23 = q.2.2.2.1 m23 from by rw [eq_16]; rfl)
            have z_45 : q_16.2.2.2.1 m24 = q.2.2.2.1 m24 := (show q_16.2.2.2.1 m24 = q.2.2.2.1 m24 from by rw [eq_16]; rfl)
            have z_46 : q_16.2.2.2.1 m25 = q.2.2.2.1 m25 := (show q_16.2.2.2.1 m25 = q.2.2.2.1 m25 from by rw [eq_16]; rfl)
            have z_47 : q_16.2.2.2.1 m26 = q.2.2.2.1 m26 := (show q_16.2.2.2.1 m26 = q.2.2.2.1 m26 from by rw [eq_16]; rfl)
            have z_48 : q_16.2.2.2.1 m27 = q.2.2.2.1 m27 := (show q_16.2.2.2.1 m27 = q.2.2.2.1 m27 from by rw [eq_16]; rfl)
            have z_49 : q_16.2.2.2.1 m28 = q.2.2.2.1 m28 := (show q_16.2.2.2.1 m28 = q.2.2.2.1 m28 from by rw [eq_16]; rfl)
            have z_50 : q_16.2.2.2.1 m29 = q.2.2.2.1 m29 := (show q_16.2.2.2.1 m29 = q.2.2.2.1 m29 from by rw [eq_16]; rfl)
            have z_51 : q_16.2.2.2.1 m30 = q.2.2.2.1 m30 := (show q_16.2.2.2.1 m30 = q.2.2.2.1 m30 from by rw [eq_16]; rfl)
            have z_52 : q_16.2.2.2.1 m34 = q.2.2.2.1 m34 := (show q_16.2.2.2.1 m34 = q.2.2.2.1 m34 from by rw [eq_16]; rfl)
            have z_53 : q_16.2.2.2.1 m40 = q.2.2.2.1 m40 := (show q_16.2.2.2.1 m40 = q.2.2.2.1 m40 from by rw [eq_16]; rfl)
            have z_54 : q_16.2.2.2.1 m41 = q.2.2.2.1 m41 := (show q_16.2.2.2.1 m41 = q.2.2.2.1 m41 from by rw [eq_16]; rfl)
            have z_55 : q_16.2.2.2.1 m44 = q.2.2.2.1 m44 := (show q_16.2.2.2.1 m44 = q.2.2.2.1 m44 from by rw [eq_16]; rfl)
            have z_56 : q_16.2.2.2.1 m42 = q.2.2.2.1 m42 := (show q_16.2.2.2.1 m42 = q.2.2.2.1 m42 from by rw [eq_16]; rfl)
            have z_57 : q_16.2.2.2.1 m43 = q.2.2.2.1 m43 := (show q_16.2.2.2.1 m43 = q.2.2.2.1 m43 from by rw [eq_16]; rfl)
            have z_58 : q_16.2.2.2.2 m35 = q.2.2.2.2 m35 := (show q_16.2.2.2.2 m35 = q.2.2.2.2 m35 from by rw [eq_16]; rfl)
            have Lp_76_63 : ∀ (n : Nat) (v_18 : Int32) (v_19 : Int32) (v_20 : Int32) (q_21 : Sg), sx_V h L q_21 → sx_fr h L (fun a => h.1 a = 12 ∨ h.1 a = 113 ∨ h.1 a = 133 ∨ h.1 a = 134 ∨ h.1 a = 135 ∨ h.1 a = 138 ∨ h.1 a = 139 ∨ h.1 a = 140 ∨ h.1 a = 136 ∨ h.1 a = 137 ∨ h.1 a = 144 ∨ h.1 a = 245) q q_21 → sx_kf a0 [4, 14, 15, 32, 33, 36, 37, 38, 39, 5, 10, 6, 7, 8, 9, 11, 12, 13] q q_21 → mv_N a0 q_21 → mv_S m23 m26 m28 m29 q_21 → mv_L m40 m41 m44 a0 q_21 → q_21.1 a0 20 = (q.1 a0 20) → q_21.2.2.1 a0 3 = m3 → q_21.2.2.1 a0 18 = m18 → q_21.2.2.1 a0 19 = m19 → q_21.2.2.1 a0 23 = m23 → q_21.2.2.1 a0 24 = m24 → q_21.2.2.1 a0 25 = m25 → q_21.2.2.1 a0 26 = m26 → q_21.2.2.1 a0 27 = m27 → q_21.2.2.1 a0 28 = m28 → q_21.2.2.1 a0 29 = m29 → q_21.2.2.1 a0 30 = m30 → q_21.2.2.1 a0 34 = m34 → q_21.2.2.1 a0 35 = m35 → q_21.2.2.1 a0 40 = m40 → q_21.2.2.1 a0 41 = m41 → q_21.2.2.1 a0 44 = m44 → q_21.2.2.1 a0 42 = m42 → q_21.2.2.1 a0 43 = m43 → q_21.2.2.2.1 m18 = (q.2.2.2.1 m18) → q_21.2.2.2.1 m19 = (q.2.2.2.1 m19) → q_21.2.2.2.1 m23 = (q.2.2.2.1 m23) → q_21.2.2.2.1 m24 = (q.2.2.2.1 m24) → q_21.2.2.2.1 m25 = (q.2.2.2.1 m25) → q_21.2.2.2.1 m26 = (q.2.2.2.1 m26) → q_21.2.2.2.1 m27 = (q.2.2.2.1 m27) → q_21.2.2.2.1 m28 = (q.2.2.2.1 m28) → q_21.2.2.2.1 m29 = (q.2.2.2.1 m29) → q_21.2.2.2.1 m30 = (q.2.2.2.1 m30) → q_21.2.2.2.1 m34 = (q.2.2.2.1 m34) → q_21.2.2.2.1 m40 = (q.2.2.2.1 m40) → q_21.2.2.2.1 m41 = (q.2.2.2.1 m41) → q_21.2.2.2.1 m44 = (q.2.2.2.1 m44) → q_21.2.2.2.1 m42 = (q.2.2.2.1 m42) → q_21.2.2.2.1 m43 = (q.2.2.2.1 m43) → q_21.2.2.2.2 m35 = (q.2.2.2.2 m35) → 0 ≤ v_18.toInt → (q_21.1 a0 4).toInt = v_20.toInt + v_19.toInt → (0 ≤ v_20.toInt ∧ v_20.toInt ≤ (q.2.2.2.1 m41 (n1).toNatClampNeg).toInt ∧ ((mv_c (q.2.2.2.1 m40) (200 * (n1).toNatClampNeg) (v_20).toNatClampNeg : Nat) : Int) = v_18.toInt ∨ v_20.toInt = (q.2.2.2.1 m41 (n1).toNatClampNeg).toInt + 1 ∧ v_18.toInt = (q.2.2.2.1 m44 (n1).toNatClampNeg).toInt) → (0 ≤ v_19.toInt ∧ v_19.toInt ≤ (q.2.2.2.1 m41 (n2).toNatClampNeg).toInt ∧ ((mv_c (q.2.2.2.1 m40) (200 * (n2).toNatClampNeg) (v_19).toNatClampNeg : Nat) : Int) = v_18.toInt ∨ v_19.toInt = (q.2.2.2.1 m41 (n2).toNatClampNeg).toInt + 1 ∧ v_18.toInt = (q.2.2.2.1 m44 (n2).toNatClampNeg).toInt) → ((q.2.2.2.1 m44 (n1).toNatClampNeg).toInt - v_18.toInt : Int).toNat < n → WA l dC dI h L ({ frames := 5, cells := 0, slots := 0, locals := 119 } : Room) 8 Z q_21 76 [(5, .int v_18), (4, .int v_19), (3, .int v_20), (0, .ref a0), (1, .int n1), (2, .int n2)] [] := by
              intro n
              induction n with
              | zero =>
                intro v_18 v_19 v_20 q_21 hV_q_21 hF_q_21 hK_q_21 mN_q_21 mS_q_21 mL_q_21 p0_q_21 p1_q_21 p2_q_21 p3_q_21 p4_q_21 p5_q_21 p6_q_21 p7_q_21 p8_q_21 p9_q_21 p10_q_21 p11_q_21 p12_q_21 p13_q_21 p14_q_21 p15_q_21 p16_q_21 p17_q_21 p18_q_21 p19_q_21 p20_q_21 p21_q_21 p22_q_21 p23_q_21 p24_q_21 p25_q_21 p26_q_21 p27_q_21 p28_q_21 p29_q_21 p30_q_21 p31_q_21 p32_q_21 p33_q_21 p34_q_21 p35_q_21 x_59 x_60 x_61 x_62 hn
                exact absurd hn (Nat.not_lt_zero _)
              | succ n ih_64 =>
                intro v_18 v_19 v_20 q_21 hV_q_21 hF_q_21 hK_q_21 mN_q_21 mS_q_21 mL_q_21 p0_q_21 p1_q_21 p2_q_21 p3_q_21 p4_q_21 p5_q_21 p6_q_21 p7_q_21 p8_q_21 p9_q_21 p10_q_21 p11_q_21 p12_q_21 p13_q_21 p14_q_21 p15_q_21 p16_q_21 p17_q_21 p18_q_21 p19_q_21 p20_q_21 p21_q_21 p22_q_21 p23_q_21 p24_q_21 p25_q_21 p26_q_21 p27_q_21 p28_q_21 p29_q_21 p30_q_21 p31_q_21 p32_q_21 p33_q_21 p34_q_21 p35_q_21 x_59 x_60 x_61 x_62 hn
                refine wa_iload B dX12_joined_76 0 rfl ?_
                refine wa_aload_n B dX12_joined_78 rfl 3 rfl ?_
                refine wa_getR B (C := RX12) (T := TX12) (N := 51) iq_X12_joined_X12 ha0 ka0 (by decide) rfl 44 (by decide) (by decide) (by decide +kernel) rfl (fun _ _ _ => rfl) (v := m44) p16_q_21 dX12_joined_79 ?_
                refine wa_iload_n B dX12_joined_82 rfl 4 rfl ?_
                have z_65 : q_21.2.2.2.1 m44 (n1 : Int32).toNatClampNeg = (q.2.2.2.1 m44 (n1 : Int32).toNatClampNeg) := congrFun p32_q_21 _
                refine wa_iaload B hm44 km44 (by decide) (by decide) (show 0 ≤ n1.toInt by omega) (show n1.toInt < (h.2.1 m44 : Int) by omega) (v := (q.2.2.2.1 m44 (n1 : Int32).toNatClampNeg)) z_65 dX12_joined_83 ?_
                refine wa_icmp_ge B 109 dX12_joined_84 (by decide) (fun (t_66 : ((q.2.2.2.1 m44 (n1 : Int32).toNatClampNeg)).toInt ≤ v_18.toInt) => ?_) (fun (t_66 : ¬ ((q.2.2.2.1 m44 (n1 : Int32).toNatClampNeg)).toInt ≤ v_18.toInt) => ?_)
                · refine wa_aload_n B dX12_joined_109 rfl 3 rfl ?_
                  refine wa_getI B (C := RX12) (T := TX12) (N := 51) iq_X12_joined_X12 ha0 ka0 (by decide) rfl 14 (by decide) (by decide) (by decide +kernel) rfl (by decide) (v := (q_21.1 a0 14)) rfl dX12_joined_110 ?_
                  refine wa_istore B [(5, .int (q_21.1 a0 14)), (4, .int v_19), (3, .int v_20), (0, .ref a0), (1, .int n1), (2, .int n2)] dX12_joined_113 (by decide) rfl ?_
                  refine wa_aload_n B dX12_joined_115 rfl 3 rfl ?_
                  refine wa_getI B (C := RX12) (T := TX12) (N := 51) iq_X12_joined_X12 ha0 ka0 (by decide) rfl 15 (by decide) (by decide) (by decide +kernel) rfl (by decide) (v := (q_21.1 a0 15)) rfl dX12_joined_116 ?_
                  refine wa_istore B [(6, .int (q_21.1 a0 15)), (5, .int (q_21.1 a0 14)), (4, .int v_19), (3, .int v_20), (0, .ref a0), (1, .int n1), (2, .int n2)] dX12_joined_119 (by decide) rfl ?_
                  refine wa_aload_n B dX12_joined_121 rfl 4 rfl ?_
                  refine wa_sipush B 300 dX12_joined_122 (by decide) ?_
                  refine wa_iconst B 1 dX12_joined_125 (by decide) ?_
                  refine wa_callVv B (x := (RX12, TX12, 51)) (As := [.int 300, .int 1]) (rest := []) (k_X12_begins l dC dI h L hN q_21 hV_q_21 (a0 := a0) ha0 ka0 300 1  (by first | assumption | omega | decide) (by first | assumption | omega | decide) (by first | assumption | omega | decide)) (cwV 2 B.1.2.2.2.2 gX12_joined_X12_begins rfl rfl rfl (by decide +kernel) ⟨Nat.le_of_ble_eq_true rfl, Nat.le_of_ble_eq_true rfl⟩) ha0 ka0 (by decide) rfl rfl rfl (Nat.le_of_ble_eq_true rfl) dX12_joined_126 (fun q_67 w_68 => ?_)
                  obtain ⟨hV_q_67, h2_q_67, h3_q_67, mN_q_67⟩ := w_68
                  have hF_q_67 : sx_fr h L (fun a => h.1 a = 12 ∨ h.1 a = 113 ∨ h.1 a = 133 ∨ h.1 a = 134 ∨ h.1 a = 135 ∨ h.1 a = 138 ∨ h.1 a = 139 ∨ h.1 a = 140 ∨ h.1 a = 136 ∨ h.1 a = 137 ∨ h.1 a = 144 ∨ h.1 a = 245) q q_67 := hF_q_21.tr (h2_q_67.mono (fun a (z : h.1 a = 12) => (show h.1 a = 12 ∨ h.1 a = 113 ∨ h.1 a = 133 ∨ h.1 a = 134 ∨ h.1 a = 135 ∨ h.1 a = 138 ∨ h.1 a = 139 ∨ h.1 a = 140 ∨ h.1 a = 136 ∨ h.1 a = 137 ∨ h.1 a = 144 ∨ h.1 a = 245 from by omega)))
                  have hK_q_67 : sx_kf a0 [4, 14, 15, 32, 33, 36, 37, 38, 39, 5, 10, 6, 7, 8, 9, 11, 12, 13] q q_67 := hK_q_21.tr (h3_q_67.mono (by decide))
                  have mS_q_67 : mv_S m23 m26 m28 m29 q_67 := mv_S.eq (h2_q_67.G hm23 (show ¬ (h.1 m23 = 12) from by omega) (by rw [km23]; decide)) (h2_q_67.G hm26 (show ¬ (h.1 m26 = 12) from by omega) (by rw [km26]; decide)) (h2_q_67.G hm28 (show ¬ (h.1 m28 = 12) from by omega) (by rw [km28]; decide)) (h2_q_67.G hm29 (show ¬ (h.1 m29 = 12) from by omega) (by rw [km29]; decide)) mS_q_21
                  have mL_q_67 : mv_L m40 m41 m44 a0 q_67 := mv_L.eq (h2_q_67.G hm40 (show ¬ (h.1 m40 = 12) from by omega) (by rw [km40]; decide)) (h2_q_67.G hm41 (show ¬ (h.1 m41 = 12) from by omega) (by rw [km41]; decide)) (h2_q_67.G hm44 (show ¬ (h.1 m44 = 12) from by omega) (by rw [km44]; decide)) (h3_q_67.1 45 (by decide)) mL_q_21
                  refine wa_aload_n B dX12_joined_129 rfl 4 rfl ?_
                  refine wa_bipush B 8 dX12_joined_130 (by decide) ?_
                  have z_69 : q_67.2.2.1 a0 18 = m18 := (h2_q_67.R ha0 (show ¬ ((h.1 a0 = 12) ∧ (h.1 a0 = 8 ∨ h.1 a0 = 11)) from by omega) 18).trans (p2_q_21)
                  have z_70 : q_67.2.2.1 a0 19 = m19 := (h2_q_67.R ha0 (show ¬ ((h.1 a0 = 12) ∧ (h.1 a0 = 8 ∨ h.1 a0 = 11)) from by omega) 19).trans (p3_q_21)
                  have z_71 : q_67.2.2.1 a0 23 = m23 := (h2_q_67.R ha0 (show ¬ ((h.1 a0 = 12) ∧ (h.1 a0 = 8 ∨ h.1 a0 = 11)) from by omega) 23).trans (p4_q_21)
                  have z_72 : q_67.2.2.1 a0 24 = m24 := (h2_q_67.R ha0 (show ¬ ((h.1 a0 = 12) ∧ (h.1 a0 = 8 ∨ h.1 a0 = 11)) from by omega) 24).trans (p5_q_21)
                  have z_73 : q_67.2.2.1 a0 25 = m25 := (h2_q_67.R ha0 (show ¬ ((h.1 a0 = 12) ∧ (h.1 a0 = 8 ∨ h.1 a0 = 11)) from by omega) 25).trans (p6_q_21)
                  have z_74 : q_67.2.2.1 a0 26 = m26 := (h2_q_67.R ha0 (show ¬ ((h.1 a0 = 12) ∧ (h.1 a0 = 8 ∨ h.1 a0 = 11)) from by omega) 26).trans (p7_q_21)
                  have z_75 : q_67.2.2.1 a0 27 = m27 := (h2_q_67.R ha0 (show ¬ ((h.1 a0 = 12) ∧ (h.1 a0 = 8 ∨ h.1 a0 = 11)) from by omega) 27).trans (p8_q_21)
                  have z_76 : q_67.2.2.1 a0 28 = m28 := (h2_q_67.R ha0 (show ¬ ((h.1 a0 = 12) ∧ (h.1 a0 = 8 ∨ h.1 a0 = 11)) from by omega) 28).trans (p9_q_21)
                  have z_77 : q_67.2.2.1 a0 29 = m29 := (h2_q_67.R ha0 (show ¬ ((h.1 a0 = 12) ∧ (h.1 a0 = 8 ∨ h.1 a0 = 11)) from by omega) 29).trans (p10_q_21)
                  have z_78 : q_67.2.2.1 a0 30 = m30 := (h2_q_67.R ha0 (show ¬ ((h.1 a0 = 12) ∧ (h.1 a0 = 8 ∨ h.1 a0 = 11)) from by omega) 30).trans (p11_q_21)
                  refine wa_callVi B (x := (RX12, TX12, 51)) (As := [.int 8]) (rest := []) (k_X12_readTablet l dC dI h L hN q_67 hV_q_67 (a0 := a0) ha0 ka0 8 (m18 := m18) z_69 (m19 := m19) z_70 (m23 := m23) z_71 (m24 := m24) z_72 (m25 := m25) z_73 (m26 := m26) z_74 (m27 := m27) z_75 (m28 := m28) z_76 (m29 := m29) z_77 (m30 := m30) z_78 mN_q_67 mS_q_67 (by first | assumption | omega | decide) (by first | assumption | omega | decide)) (cwV 1 B.1.2.2.2.2 gX12_joined_X12_readTablet rfl rfl rfl (by decide +kernel) ⟨Nat.le_of_ble_eq_true rfl, Nat.le_of_ble_eq_true rfl⟩) ha0 ka0 (by decide) rfl rfl rfl (Nat.le_of_ble_eq_true rfl) dX12_joined_132 (fun r_80 q_79 w_81 => ?_)
                  obtain ⟨hV_q_79, h2_q_79, h3_q_79, mN_q_79, mS_q_79, hw_81⟩ := w_81
                  have hF_q_79 : sx_fr h L (fun a => h.1 a = 12 ∨ h.1 a = 113 ∨ h.1 a = 133 ∨ h.1 a = 134 ∨ h.1 a = 135 ∨ h.1 a = 138 ∨ h.1 a = 139 ∨ h.1 a = 140 ∨ h.1 a = 136 ∨ h.1 a = 137 ∨ h.1 a = 144 ∨ h.1 a = 245) q q_79 := hF_q_67.tr (h2_q_79.mono (fun a (z : h.1 a = 12 ∨ h.1 a = 133 ∨ h.1 a = 134 ∨ h.1 a = 135 ∨ h.1 a = 138 ∨ h.1 a = 139 ∨ h.1 a = 140 ∨ h.1 a = 136 ∨ h.1 a = 137) => (show h.1 a = 12 ∨ h.1 a = 113 ∨ h.1 a = 133 ∨ h.1 a = 134 ∨ h.1 a = 135 ∨ h.1 a = 138 ∨ h.1 a = 139 ∨ h.1 a = 140 ∨ h.1 a = 136 ∨ h.1 a = 137 ∨ h.1 a = 144 ∨ h.1 a = 245 from by omega)))
                  have hK_q_79 : sx_kf a0 [4, 14, 15, 32, 33, 36, 37, 38, 39, 5, 10, 6, 7, 8, 9, 11, 12, 13] q q_79 := hK_q_67.tr (h3_q_79.mono (by decide))
                  have mL_q_79 : mv_L m40 m41 m44 a0 q_79 := mv_L.eq (h2_q_79.G hm40 (show ¬ (h.1 m40 = 12 ∨ h.1 m40 = 133 ∨ h.1 m40 = 134 ∨ h.1 m40 = 135 ∨ h.1 m40 = 138 ∨ h.1 m40 = 139 ∨ h.1 m40 = 140 ∨ h.1 m40 = 136 ∨ h.1 m40 = 137) from by omega) (by rw [km40]; decide)) (h2_q_79.G hm41 (show ¬ (h.1 m41 = 12 ∨ h.1 m41 = 133 ∨ h.1 m41 = 134 ∨ h.1 m41 = 135 ∨ h.1 m41 = 138 ∨ h.1 m41 = 139 ∨ h.1 m41 = 140 ∨ h.1 m41 = 136 ∨ h.1 m41 = 137) from by omega) (by rw [km41]; decide)) (h2_q_79.G hm44 (show ¬ (h.1 m44 = 12 ∨ h.1 m44 = 133 ∨ h.1 m44 = 134 ∨ h.1 m44 = 135 ∨ h.1 m44 = 138 ∨ h.1 m44 = 139 ∨ h.1 m44 = 140 ∨ h.1 m44 = 136 ∨ h.1 m44 = 137) from by omega) (by rw [km44]; decide)) (h3_q_79.1 45 (by decide)) mL_q_67
                  refine wa_istore B [(7, .int r_80), (6, .int (q_21.1 a0 15)), (5, .int (q_21.1 a0 14)), (4, .int v_19), (3, .int v_20), (0, .ref a0), (1, .int n1), (2, .int n2)] dX12_joined_135 (by decide) rfl ?_
                  refine wa_iload B dX12_joined_137 0 rfl ?_
                  refine wa_if_eq B 150 dX12_joined_139 (by decide) (fun (t_82 : r_80.toInt = 0) => ?_) (fun (t_82 : ¬ r_80.toInt = 0) => ?_)
                  · refine wa_aload_n B dX12_joined_150 rfl 5 rfl ?_
                    refine wa_iload B dX12_joined_151 2 rfl ?_
                    refine wa_putI B (C := RX12) (T := TX12) (N := 51) iq_X12_joined_X12 ha0 ka0 (by decide) rfl 14 (by decide) (by decide) (by decide +kernel) rfl (by decide) (v := (q_21.1 a0 14)) (ty := .int) tyX12 tyX12_ok nmX12 rfl (by decide +kernel) rfl rfl dX12_joined_153 (fun q_83 eq_83 => ?_)
                    have hV_q_83 : sx_V h L q_83 := by rw [eq_83]; exact hV_q_79.pI ka0 trivial
                    have hF_q_83 : sx_fr h L (fun a => h.1 a = 12 ∨ h.1 a = 113 ∨ h.1 a = 133 ∨ h.1 a = 134 ∨ h.1 a = 135 ∨ h.1 a = 138 ∨ h.1 a = 139 ∨ h.1 a = 140 ∨ h.1 a = 136 ∨ h.1 a = 137 ∨ h.1 a = 144 ∨ h.1 a = 245) q q_83 := hF_q_79.tr (by rw [eq_83]; exact sx_fr.pI (show h.1 a0 = 12 ∨ h.1 a0 = 113 ∨ h.1 a0 = 133 ∨ h.1 a0 = 134 ∨ h.1 a0 = 135 ∨ h.1 a0 = 138 ∨ h.1 a0 = 139 ∨ h.1 a0 = 140 ∨ h.1 a0 = 136 ∨ h.1 a0 = 137 ∨ h.1 a0 = 144 ∨ h.1 a0 = 245 from by omega))
                    have z_84 : q_83.1 a0 14 = (q_21.1 a0 14) := by rw [eq_83]; exact sg_pI_e
                    have hK_q_83 : sx_kf a0 [4, 14, 15, 32, 33, 36, 37, 38, 39, 5, 10, 6, 7, 8, 9, 11, 12, 13] q q_83 := hK_q_79.tr (by rw [eq_83]; exact sx_kf.pI (by decide))
                    have mN_q_83 : mv_N a0 q_83 := mv_N.eq ((show q_83.1 a0 8 = q_79.1 a0 8 from by rw [eq_83]; exact sg_pI_k (by decide))) ((show q_83.2.1 a0 11 = q_79.2.1 a0 11 from by rw [eq_83]; rfl)) mN_q_79
                    have mS_q_83 : mv_S m23 m26 m28 m29 q_83 := mv_S.eq ((show q_83.2.2.2.1 m23 = q_79.2.2.2.1 m23 from by rw [eq_83]; rfl)) ((show q_83.2.2.2.1 m26 = q_79.2.2.2.1 m26 from by rw [eq_83]; rfl)) ((show q_83.2.2.2.1 m28 = q_79.2.2.2.1 m28 from by rw [eq_83]; rfl)) ((show q_83.2.2.2.1 m29 = q_79.2.2.2.1 m29 from by rw [eq_83]; rfl)) mS_q_79
                    have mL_q_83 : mv_L m40 m41 m44 a0 q_83 := mv_L.eq ((show q_83.2.2.2.1 m40 = q_79.2.2.2.1 m40 from by rw [eq_83]; rfl)) ((show q_83.2.2.2.1 m41 = q_79.2.2.2.1 m41 from by rw [eq_83]; rfl)) ((show q_83.2.2.2.1 m44 = q_79.2.2.2.1 m44 from by rw [eq_83]; rfl)) ((show q_83.1 a0 45 = q_79.1 a0 45 from by rw [eq_83]; exact sg_pI_k (by decide))) mL_q_79
                    refine wa_aload_n B dX12_joined_156 rfl 5 rfl ?_
                    refine wa_iload B dX12_joined_157 1 rfl ?_
                    refine wa_putI B (C := RX12) (T := TX12) (N := 51) iq_X12_joined_X12 ha0 ka0 (by decide) rfl 15 (by decide) (by decide) (by decide +kernel) rfl (by decide) (v := (q_21.1 a0 15)) (ty := .int) tyX12 tyX12_ok nmX12 rfl (by decide +kernel) rfl rfl dX12_joined_159 (fun q_85 eq_85 => ?_)
                    have hV_q_85 : sx_V h L q_85 := by rw [eq_85]; exact hV_q_83.pI ka0 trivial
                    have hF_q_85 : sx_fr h L (fun a => h.1 a = 12 ∨ h.1 a = 113 ∨ h.1 a = 133 ∨ h.1 a = 134 ∨ h.1 a = 135 ∨ h.1 a = 138 ∨ h.1 a = 139 ∨ h.1 a = 140 ∨ h.1 a = 136 ∨ h.1 a = 137 ∨ h.1 a = 144 ∨ h.1 a = 245) q q_85 := hF_q_83.tr (by rw [eq_85]; exact sx_fr.pI (show h.1 a0 = 12 ∨ h.1 a0 = 113 ∨ h.1 a0 = 133 ∨ h.1 a0 = 134 ∨ h.1 a0 = 135 ∨ h.1 a0 = 138 ∨ h.1 a0 = 139 ∨ h.1 a0 = 140 ∨ h.1 a0 = 136 ∨ h.1 a0 = 137 ∨ h.1 a0 = 144 ∨ h.1 a0 = 245 from by omega))
                    have z_86 : q_85.1 a0 15 = (q_21.1 a0 15) := by rw [eq_85]; exact sg_pI_e
                    have hK_q_85 : sx_kf a0 [4, 14, 15, 32, 33, 36, 37, 38, 39, 5, 10, 6, 7, 8, 9, 11, 12, 13] q q_85 := hK_q_83.tr (by rw [eq_85]; exact sx_kf.pI (by decide))
                    have mN_q_85 : mv_N a0 q_85 := mv_N.eq ((show q_85.1 a0 8 = q_83.1 a0 8 from by rw [eq_85]; exact sg_pI_k (by decide))) ((show q_85.2.1 a0 11 = q_83.2.1 a0 11 from by rw [eq_85]; rfl)) mN_q_83
                    have mS_q_85 : mv_S m23 m26 m28 m29 q_85 := mv_S.eq ((show q_85.2.2.2.1 m23 = q_83.2.2.2.1 m23 from by rw [eq_85]; rfl)) ((show q_85.2.2.2.1 m26 = q_83.2.2.2.1 m26 from by rw [eq_85]; rfl)) ((show q_85.2.2.2.1 m28 = q_83.2.2.2.1 m28 from by rw [eq_85]; rfl)) ((show q_85.2.2.2.1 m29 = q_83.2.2.2.1 m29 from by rw [eq_85]; rfl)) mS_q_83
                    have mL_q_85 : mv_L m40 m41 m44 a0 q_85 := mv_L.eq ((show q_85.2.2.2.1 m40 = q_83.2.2.2.1 m40 from by rw [eq_85]; rfl)) ((show q_85.2.2.2.1 m41 = q_83.2.2.2.1 m41 from by rw [eq_85]; rfl)) ((show q_85.2.2.2.1 m44 = q_83.2.2.2.1 m44 from by rw [eq_85]; rfl)) ((show q_85.1 a0 45 = q_83.1 a0 45 from by rw [eq_85]; exact sg_pI_k (by decide))) mL_q_83
                    refine wa_iload B dX12_joined_162 0 rfl ?_
                    refine wa_if_eq B 178 dX12_joined_164 (by decide) (fun (t_87 : r_80.toInt = 0) => ?_) (fun (t_87 : ¬ r_80.toInt = 0) => ?_)
                    · refine wa_iconst B 1 dX12_joined_178 (by decide) ?_
                      exact hret _ _ _ _ dX12_joined_179 ⟨hV_q_85, hF_q_85, hK_q_85, mN_q_85, mS_q_85, mL_q_85⟩
                    · refine wa_aload_n B dX12_joined_167 rfl 5 rfl ?_
                      refine wa_getI B (C := RX12) (T := TX12) (N := 51) iq_X12_joined_X12 ha0 ka0 (by decide) rfl 36 (by decide) (by decide) (by decide +kernel) rfl (by decide) (v := (q_85.1 a0 36)) rfl dX12_joined_168 ?_
                      refine wa_if_le B 178 dX12_joined_171 (by decide) (fun (t_88 : (q_85.1 a0 36).toInt ≤ 0) => ?_) (fun (t_88 : ¬ (q_85.1 a0 36).toInt ≤ 0) => ?_)
                      · refine wa_iconst B 1 dX12_joined_178 (by decide) ?_
                        exact hret _ _ _ _ dX12_joined_179 ⟨hV_q_85, hF_q_85, hK_q_85, mN_q_85, mS_q_85, mL_q_85⟩
                      · refine wa_iconst B 2 dX12_joined_174 (by decide) ?_
                        refine wa_goto B 179 dX12_joined_175 (by decide) ?_
                        exact hret _ _ _ _ dX12_joined_179 ⟨hV_q_85, hF_q_85, hK_q_85, mN_q_85, mS_q_85, mL_q_85⟩
                  · refine wa_aload_n B dX12_joined_142 rfl 5 rfl ?_
                    refine wa_bipush B 8 dX12_joined_143 (by decide) ?_
                    refine wa_iconst B (-1) dX12_joined_145 (by decide) ?_
                    refine wa_iconst B (-1) dX12_joined_146 (by decide) ?_
                    have z_89 : q_79.2.2.1 a0 18 = m18 := (h2_q_79.R ha0 (show ¬ ((h.1 a0 = 12 ∨ h.1 a0 = 133 ∨ h.1 a0 = 134 ∨ h.1 a0 = 135 ∨ h.1 a0 = 138 ∨ h.1 a0 = 139 ∨ h.1 a0 = 140 ∨ h.1 a0 = 136 ∨ h.1 a0 = 137) ∧ (h.1 a0 = 8 ∨ h.1 a0 = 11)) from by omega) 18).trans (z_69)
                    have z_90 : q_79.2.2.1 a0 19 = m19 := (h2_q_79.R ha0 (show ¬ ((h.1 a0 = 12 ∨ h.1 a0 = 133 ∨ h.1 a0 = 134 ∨ h.1 a0 = 135 ∨ h.1 a0 = 138 ∨ h.1 a0 = 139 ∨ h.1 a0 = 140 ∨ h.1 a0 = 136 ∨ h.1 a0 = 137) ∧ (h.1 a0 = 8 ∨ h.1 a0 = 11)) from by omega) 19).trans (z_70)
                    have z_91 : q_79.2.2.1 a0 23 = m23 := (h2_q_79.R ha0 (show ¬ ((h.1 a0 = 12 ∨ h.1 a0 = 133 ∨ h.1 a0 = 134 ∨ h.1 a0 = 135 ∨ h.1 a0 = 138 ∨ h.1 a0 = 139 ∨ h.1 a0 = 140 ∨ h.1 a0 = 136 ∨ h.1 a0 = 137) ∧ (h.1 a0 = 8 ∨ h.1 a0 = 11)) from by omega) 23).trans (z_71)
                    have z_92 : q_79.2.2.1 a0 25 = m25 := (h2_q_79.R ha0 (show ¬ ((h.1 a0 = 12 ∨ h.1 a0 = 133 ∨ h.1 a0 = 134 ∨ h.1 a0 = 135 ∨ h.1 a0 = 138 ∨ h.1 a0 = 139 ∨ h.1 a0 = 140 ∨ h.1 a0 = 136 ∨ h.1 a0 = 137) ∧ (h.1 a0 = 8 ∨ h.1 a0 = 11)) from by omega) 25).trans (z_73)
                    have z_93 : q_79.2.2.1 a0 26 = m26 := (h2_q_79.R ha0 (show ¬ ((h.1 a0 = 12 ∨ h.1 a0 = 133 ∨ h.1 a0 = 134 ∨ h.1 a0 = 135 ∨ h.1 a0 = 138 ∨ h.1 a0 = 139 ∨ h.1 a0 = 140 ∨ h.1 a0 = 136 ∨ h.1 a0 = 137) ∧ (h.1 a0 = 8 ∨ h.1 a0 = 11)) from by omega) 26).trans (z_74)
                    have z_94 : q_79.2.2.1 a0 27 = m27 := (h2_q_79.R ha0 (show ¬ ((h.1 a0 = 12 ∨ h.1 a0 = 133 ∨ h.1 a0 = 134 ∨ h.1 a0 = 135 ∨ h.1 a0 = 138 ∨ h.1 a0 = 139 ∨ h.1 a0 = 140 ∨ h.1 a0 = 136 ∨ h.1 a0 = 137) ∧ (h.1 a0 = 8 ∨ h.1 a0 = 11)) from by omega) 27).trans (z_75)
                    have z_95 : q_79.2.2.1 a0 28 = m28 := (h2_q_79.R ha0 (show ¬ ((h.1 a0 = 12 ∨ h.1 a0 = 133 ∨ h.1 a0 = 134 ∨ h.1 a0 = 135 ∨ h.1 a0 = 138 ∨ h.1 a0 = 139 ∨ h.1 a0 = 140 ∨ h.1 a0 = 136 ∨ h.1 a0 = 137) ∧ (h.1 a0 = 8 ∨ h.1 a0 = 11)) from by omega) 28).trans (z_76)
                    have z_96 : q_79.2.2.1 a0 29 = m29 := (h2_q_79.R ha0 (show ¬ ((h.1 a0 = 12 ∨ h.1 a0 = 133 ∨ h.1 a0 = 134 ∨ h.1 a0 = 135 ∨ h.1 a0 = 138 ∨ h.1 a0 = 139 ∨ h.1 a0 = 140 ∨ h.1 a0 = 136 ∨ h.1 a0 = 137) ∧ (h.1 a0 = 8 ∨ h.1 a0 = 11)) from by omega) 29).trans (z_77)
                    have z_97 : q_79.2.2.1 a0 30 = m30 := (h2_q_79.R ha0 (show ¬ ((h.1 a0 = 12 ∨ h.1 a0 = 133 ∨ h.1 a0 = 134 ∨ h.1 a0 = 135 ∨ h.1 a0 = 138 ∨ h.1 a0 = 139 ∨ h.1 a0 = 140 ∨ h.1 a0 = 136 ∨ h.1 a0 = 137) ∧ (h.1 a0 = 8 ∨ h.1 a0 = 11)) from by omega) 30).trans (z_78)
                    have z_98 : q_79.2.2.1 a0 34 = m34 := (h2_q_79.R ha0 (show ¬ ((h.1 a0 = 12 ∨ h.1 a0 = 133 ∨ h.1 a0 = 134 ∨ h.1 a0 = 135 ∨ h.1 a0 = 138 ∨ h.1 a0 = 139 ∨ h.1 a0 = 140 ∨ h.1 a0 = 136 ∨ h.1 a0 = 137) ∧ (h.1 a0 = 8 ∨ h.1 a0 = 11)) from by omega) 34).trans ((h2_q_67.R ha0 (show ¬ ((h.1 a0 = 12) ∧ (h.1 a0 = 8 ∨ h.1 a0 = 11)) from by omega) 34).trans (p12_q_21))
                    have z_99 : q_79.2.2.1 a0 35 = m35 := (h2_q_79.R ha0 (show ¬ ((h.1 a0 = 12 ∨ h.1 a0 = 133 ∨ h.1 a0 = 134 ∨ h.1 a0 = 135 ∨ h.1 a0 = 138 ∨ h.1 a0 = 139 ∨ h.1 a0 = 140 ∨ h.1 a0 = 136 ∨ h.1 a0 = 137) ∧ (h.1 a0 = 8 ∨ h.1 a0 = 11)) from by omega) 35).trans ((h2_q_67.R ha0 (show ¬ ((h.1 a0 = 12) ∧ (h.1 a0 = 8 ∨ h.1 a0 = 11)) from by omega) 35).trans (p13_q_21))
                    refine wa_callVv B (x := (RX12, TX12, 51)) (As := [.int 8, .int (-1), .int (-1)]) (rest := []) (k_X12_readAll l dC dI h L hN q_79 hV_q_79 (a0 := a0) ha0 ka0 8 (-1) (-1) (m18 := m18) z_89 (m19 := m19) z_90 (m23 := m23) z_91 (m25 := m25) z_92 (m26 := m26) z_93 (m27 := m27) z_94 (m28 := m28) z_95 (m29 := m29) z_96 (m30 := m30) z_97 (m34 := m34) z_98 (m35 := m35) z_99 mS_q_79 (by first | assumption | omega | decide) (by first | assumption | omega | decide) (by first | assumption | omega | decide) (by first | assumption | omega | decide) (by first | assumption | omega | decide) (by first | assumption | omega | decide)) (cwV 3 B.1.2.2.2.2 gX12_joined_X12_readAll rfl rfl rfl (by decide +kernel) ⟨Nat.le_of_ble_eq_true rfl, Nat.le_of_ble_eq_true rfl⟩) ha0 ka0 (by decide) rfl rfl rfl (Nat.le_of_ble_eq_true rfl) dX12_joined_147 (fun q_100 w_101 => ?_)
                    obtain ⟨hV_q_100, h2_q_100, h3_q_100, mS_q_100⟩ := w_101
                    have hF_q_100 : sx_fr h L (fun a => h.1 a = 12 ∨ h.1 a = 113 ∨ h.1 a = 133 ∨ h.1 a = 134 ∨ h.1 a = 135 ∨ h.1 a = 138 ∨ h.1 a = 139 ∨ h.1 a = 140 ∨ h.1 a = 136 ∨ h.1 a = 137 ∨ h.1 a = 144 ∨ h.1 a = 245) q q_100 := hF_q_79.tr (h2_q_100.mono (fun a (z : h.1 a = 12 ∨ h.1 a = 144 ∨ h.1 a = 245) => (show h.1 a = 12 ∨ h.1 a = 113 ∨ h.1 a = 133 ∨ h.1 a = 134 ∨ h.1 a = 135 ∨ h.1 a = 138 ∨ h.1 a = 139 ∨ h.1 a = 140 ∨ h.1 a = 136 ∨ h.1 a = 137 ∨ h.1 a = 144 ∨ h.1 a = 245 from by omega)))
                    have hK_q_100 : sx_kf a0 [4, 14, 15, 32, 33, 36, 37, 38, 39, 5, 10, 6, 7, 8, 9, 11, 12, 13] q q_100 := hK_q_79.tr (h3_q_100.mono (by decide))
                    have mN_q_100 : mv_N a0 q_100 := mv_N.eq (h3_q_100.1 8 (by decide)) (h3_q_100.2 11 (by decide)) mN_q_79
                    have mL_q_100 : mv_L m40 m41 m44 a0 q_100 := mv_L.eq (h2_q_100.G hm40 (show ¬ (h.1 m40 = 12 ∨ h.1 m40 = 144 ∨ h.1 m40 = 245) from by omega) (by rw [km40]; decide)) (h2_q_100.G hm41 (show ¬ (h.1 m41 = 12 ∨ h.1 m41 = 144 ∨ h.1 m41 = 245) from by omega) (by rw [km41]; decide)) (h2_q_100.G hm44 (show ¬ (h.1 m44 = 12 ∨ h.1 m44 = 144 ∨ h.1 m44 = 245) from by omega) (by rw [km44]; decide)) (h3_q_100.1 45 (by decide)) mL_q_79
                    refine wa_aload_n B dX12_joined_150 rfl 5 rfl ?_
                    refine wa_iload B dX12_joined_151 2 rfl ?_
                    refine wa_putI B (C := RX12) (T := TX12) (N := 51) iq_X12_joined_X12 ha0 ka0 (by decide) rfl 14 (by decide) (by decide) (by decide +kernel) rfl (by decide) (v := (q_21.1 a0 14)) (ty := .int) tyX12 tyX12_ok nmX12 rfl (by decide +kernel) rfl rfl dX12_joined_153 (fun q_102 eq_102 => ?_)
                    have hV_q_102 : sx_V h L q_102 := by rw [eq_102]; exact hV_q_100.pI ka0 trivial
                    have hF_q_102 : sx_fr h L (fun a => h.1 a = 12 ∨ h.1 a = 113 ∨ h.1 a = 133 ∨ h.1 a = 134 ∨ h.1 a = 135 ∨ h.1 a = 138 ∨ h.1 a = 139 ∨ h.1 a = 140 ∨ h.1 a = 136 ∨ h.1 a = 137 ∨ h.1 a = 144 ∨ h.1 a = 245) q q_102 := hF_q_100.tr (by rw [eq_102]; exact sx_fr.pI (show h.1 a0 = 12 ∨ h.1 a0 = 113 ∨ h.1 a0 = 133 ∨ h.1 a0 = 134 ∨ h.1 a0 = 135 ∨ h.1 a0 = 138 ∨ h.1 a0 = 139 ∨ h.1 a0 = 140 ∨ h.1 a0 = 136 ∨ h.1 a0 = 137 ∨ h.1 a0 = 144 ∨ h.1 a0 = 245 from by omega))
                    have z_103 : q_102.1 a0 14 = (q_21.1 a0 14) := by rw [eq_102]; exact sg_pI_e
                    have hK_q_102 : sx_kf a0 [4, 14, 15, 32, 33, 36, 37, 38, 39, 5, 10, 6, 7, 8, 9, 11, 12, 13] q q_102 := hK_q_100.tr (by rw [eq_102]; exact sx_kf.pI (by decide))
                    have mN_q_102 : mv_N a0 q_102 := mv_N.eq ((show q_102.1 a0 8 = q_100.1 a0 8 from by rw [eq_102]; exact sg_pI_k (by decide))) ((show q_102.2.1 a0 11 = q_100.2.1 a0 11 from by rw [eq_102]; rfl)) mN_q_100
                    have mS_q_102 : mv_S m23 m26 m28 m29 q_102 := mv_S.eq ((show q_102.2.2.2.1 m23 = q_100.2.2.2.1 m23 from by rw [eq_102]; rfl)) ((show q_102.2.2.2.1 m26 = q_100.2.2.2.1 m26 from by rw [eq_102]; rfl)) ((show q_102.2.2.2.1 m28 = q_100.2.2.2.1 m28 from by rw [eq_102]; rfl)) ((show q_102.2.2.2.1 m29 = q_100.2.2.2.1 m29 from by rw [eq_102]; rfl)) mS_q_100
                    have mL_q_102 : mv_L m40 m41 m44 a0 q_102 := mv_L.eq ((show q_102.2.2.2.1 m40 = q_100.2.2.2.1 m40 from by rw [eq_102]; rfl)) ((show q_102.2.2.2.1 m41 = q_100.2.2.2.1 m41 from by rw [eq_102]; rfl)) ((show q_102.2.2.2.1 m44 = q_100.2.2.2.1 m44 from by rw [eq_102]; rfl)) ((show q_102.1 a0 45 = q_100.1 a0 45 from by rw [eq_102]; exact sg_pI_k (by decide))) mL_q_100
                    refine wa_aload_n B dX12_joined_156 rfl 5 rfl ?_
                    refine wa_iload B dX12_joined_157 1 rfl ?_
                    refine wa_putI B (C := RX12) (T := TX12) (N := 51) iq_X12_joined_X12 ha0 ka0 (by decide) rfl 15 (by decide) (by decide) (by decide +kernel) rfl (by decide) (v := (q_21.1 a0 15)) (ty := .int) tyX12 tyX12_ok nmX12 rfl (by decide +kernel) rfl rfl dX12_joined_159 (fun q_104 eq_104 => ?_)
                    have hV_q_104 : sx_V h L q_104 := by rw [eq_104]; exact hV_q_102.pI ka0 trivial
                    have hF_q_104 : sx_fr h L (fun a => h.1 a = 12 ∨ h.1 a = 113 ∨ h.1 a = 133 ∨ h.1 a = 134 ∨ h.1 a = 135 ∨ h.1 a = 138 ∨ h.1 a = 139 ∨ h.1 a = 140 ∨ h.1 a = 136 ∨ h.1 a = 137 ∨ h.1 a = 144 ∨ h.1 a = 245) q q_104 := hF_q_102.tr (by rw [eq_104]; exact sx_fr.pI (show h.1 a0 = 12 ∨ h.1 a0 = 113 ∨ h.1 a0 = 133 ∨ h.1 a0 = 134 ∨ h.1 a0 = 135 ∨ h.1 a0 = 138 ∨ h.1 a0 = 139 ∨ h.1 a0 = 140 ∨ h.1 a0 = 136 ∨ h.1 a0 = 137 ∨ h.1 a0 = 144 ∨ h.1 a0 = 245 from by omega))
                    have z_105 : q_104.1 a0 15 = (q_21.1 a0 15) := by rw [eq_104]; exact sg_pI_e
                    have hK_q_104 : sx_kf a0 [4, 14, 15, 32, 33, 36, 37, 38, 39, 5, 10, 6, 7, 8, 9, 11, 12, 13] q q_104 := hK_q_102.tr (by rw [eq_104]; exact sx_kf.pI (by decide))
                    have mN_q_104 : mv_N a0 q_104 := mv_N.eq ((show q_104.1 a0 8 = q_102.1 a0 8 from by rw [eq_104]; exact sg_pI_k (by decide))) ((show q_104.2.1 a0 11 = q_102.2.1 a0 11 from by rw [eq_104]; rfl)) mN_q_102
                    have mS_q_104 : mv_S m23 m26 m28 m29 q_104 := mv_S.eq ((show q_104.2.2.2.1 m23 = q_102.2.2.2.1 m23 from by rw [eq_104]; rfl)) ((show q_104.2.2.2.1 m26 = q_102.2.2.2.1 m26 from by rw [eq_104]; rfl)) ((show q_104.2.2.2.1 m28 = q_102.2.2.2.1 m28 from by rw [eq_104]; rfl)) ((show q_104.2.2.2.1 m29 = q_102.2.2.2.1 m29 from by rw [eq_104]; rfl)) mS_q_102
                    have mL_q_104 : mv_L m40 m41 m44 a0 q_104 := mv_L.eq ((show q_104.2.2.2.1 m40 = q_102.2.2.2.1 m40 from by rw [eq_104]; rfl)) ((show q_104.2.2.2.1 m41 = q_102.2.2.2.1 m41 from by rw [eq_104]; rfl)) ((show q_104.2.2.2.1 m44 = q_102.2.2.2.1 m44 from by rw [eq_104]; rfl)) ((show q_104.1 a0 45 = q_102.1 a0 45 from by rw [eq_104]; exact sg_pI_k (by decide))) mL_q_102
                    refine wa_iload B dX12_joined_162 0 rfl ?_
                    refine wa_if_eq B 178 dX12_joined_164 (by decide) (fun (t_106 : r_80.toInt = 0) => ?_) (fun (t_106 : ¬ r_80.toInt = 0) => ?_)
                    · refine wa_iconst B 1 dX12_joined_178 (by decide) ?_
                      exact hret _ _ _ _ dX12_joined_179 ⟨hV_q_104, hF_q_104, hK_q_104, mN_q_104, mS_q_104, mL_q_104⟩
                    · refine wa_aload_n B dX12_joined_167 rfl 5 rfl ?_
                      refine wa_getI B (C := RX12) (T := TX12) (N := 51) iq_X12_joined_X12 ha0 ka0 (by decide) rfl 36 (by decide) (by decide) (by decide +kernel) rfl (by decide) (v := (q_104.1 a0 36)) rfl dX12_joined_168 ?_
                      refine wa_if_le B 178 dX12_joined_171 (by decide) (fun (t_107 : (q_104.1 a0 36).toInt ≤ 0) => ?_) (fun (t_107 : ¬ (q_104.1 a0 36).toInt ≤ 0) => ?_)
                      · refine wa_iconst B 1 dX12_joined_178 (by decide) ?_
                        exact hret _ _ _ _ dX12_joined_179 ⟨hV_q_104, hF_q_104, hK_q_104, mN_q_104, mS_q_104, mL_q_104⟩
                      · refine wa_iconst B 2 dX12_joined_174 (by decide) ?_
                        refine wa_goto B 179 dX12_joined_175 (by decide) ?_
                        exact hret _ _ _ _ dX12_joined_179 ⟨hV_q_104, hF_q_104, hK_q_104, mN_q_104, mS_q_104, mL_q_104⟩
                · refine wa_aload_n B dX12_joined_87 rfl 3 rfl ?_
                  refine wa_iload_n B dX12_joined_88 rfl 4 rfl ?_
                  refine wa_iload_n B dX12_joined_89 rfl 2 rfl ?_
                  refine wa_callVi B (x := (RX12, TX12, 51)) (As := [.int n1, .int v_20]) (rest := []) (k_X12_sayRow l dC dI h L hN q_21 hV_q_21 (a0 := a0) ha0 ka0 n1 v_20 (m3 := m3) p1_q_21 (m40 := m40) p14_q_21 (m41 := m41) p15_q_21  (by first | assumption | omega | decide) (by first | assumption | omega | decide) (by first | assumption | omega | decide) (by rw [p31_q_21]; omega) (by rw [p31_q_21]; omega)) (cwV 2 B.1.2.2.2.2 gX12_joined_X12_sayRow rfl rfl rfl (by decide +kernel) ⟨Nat.le_of_ble_eq_true rfl, Nat.le_of_ble_eq_true rfl⟩) ha0 ka0 (by decide) rfl rfl rfl (Nat.le_of_ble_eq_true rfl) dX12_joined_90 (fun r_109 q_108 w_110 => ?_)
                  obtain ⟨hV_q_108, h2_q_108, h3_q_108, hw_110⟩ := w_110
                  have hF_q_108 : sx_fr h L (fun a => h.1 a = 12 ∨ h.1 a = 113 ∨ h.1 a = 133 ∨ h.1 a = 134 ∨ h.1 a = 135 ∨ h.1 a = 138 ∨ h.1 a = 139 ∨ h.1 a = 140 ∨ h.1 a = 136 ∨ h.1 a = 137 ∨ h.1 a = 144 ∨ h.1 a = 245) q q_108 := hF_q_21.tr (h2_q_108.mono (fun a (z : h.1 a = 12 ∨ h.1 a = 113) => (show h.1 a = 12 ∨ h.1 a = 113 ∨ h.1 a = 133 ∨ h.1 a = 134 ∨ h.1 a = 135 ∨ h.1 a = 138 ∨ h.1 a = 139 ∨ h.1 a = 140 ∨ h.1 a = 136 ∨ h.1 a = 137 ∨ h.1 a = 144 ∨ h.1 a = 245 from by omega)))
                  have hK_q_108 : sx_kf a0 [4, 14, 15, 32, 33, 36, 37, 38, 39, 5, 10, 6, 7, 8, 9, 11, 12, 13] q q_108 := hK_q_21.tr (h3_q_108.mono (by decide))
                  have mN_q_108 : mv_N a0 q_108 := mv_N.eq (h3_q_108.1 8 (by decide)) (h3_q_108.2 11 (by decide)) mN_q_21
                  have mS_q_108 : mv_S m23 m26 m28 m29 q_108 := mv_S.eq (h2_q_108.G hm23 (show ¬ (h.1 m23 = 12 ∨ h.1 m23 = 113) from by omega) (by rw [km23]; decide)) (h2_q_108.G hm26 (show ¬ (h.1 m26 = 12 ∨ h.1 m26 = 113) from by omega) (by rw [km26]; decide)) (h2_q_108.G hm28 (show ¬ (h.1 m28 = 12 ∨ h.1 m28 = 113) from by omega) (by rw [km28]; decide)) (h2_q_108.G hm29 (show ¬ (h.1 m29 = 12 ∨ h.1 m29 = 113) from by omega) (by rw [km29]; decide)) mS_q_21
                  have mL_q_108 : mv_L m40 m41 m44 a0 q_108 := mv_L.eq (h2_q_108.G hm40 (show ¬ (h.1 m40 = 12 ∨ h.1 m40 = 113) from by omega) (by rw [km40]; decide)) (h2_q_108.G hm41 (show ¬ (h.1 m41 = 12 ∨ h.1 m41 = 113) from by omega) (by rw [km41]; decide)) (h2_q_108.G hm44 (show ¬ (h.1 m44 = 12 ∨ h.1 m44 = 113) from by omega) (by rw [km44]; decide)) (h3_q_108.1 45 (by decide)) mL_q_21
                  rw [p30_q_21, p31_q_21] at hw_110
                  refine wa_istore_n B [(3, .int r_109), (5, .int v_18), (4, .int v_19), (0, .ref a0), (1, .int n1), (2, .int n2)] dX12_joined_93 rfl (by decide) rfl ?_
                  refine wa_aload_n B dX12_joined_94 rfl 3 rfl ?_
                  refine wa_iload_n B dX12_joined_95 rfl 5 rfl ?_
                  refine wa_iload B dX12_joined_96 2 rfl ?_
                  have z_111 : q_108.2.2.1 a0 3 = m3 := (h2_q_108.R ha0 (show ¬ ((h.1 a0 = 12 ∨ h.1 a0 = 113) ∧ (h.1 a0 = 8 ∨ h.1 a0 = 11)) from by omega) 3).trans (p1_q_21)
                  have z_112 : q_108.2.2.1 a0 40 = m40 := (h2_q_108.R ha0 (show ¬ ((h.1 a0 = 12 ∨ h.1 a0 = 113) ∧ (h.1 a0 = 8 ∨ h.1 a0 = 11)) from by omega) 40).trans (p14_q_21)
                  have z_113 : q_108.2.2.1 a0 41 = m41 := (h2_q_108.R ha0 (show ¬ ((h.1 a0 = 12 ∨ h.1 a0 = 113) ∧ (h.1 a0 = 8 ∨ h.1 a0 = 11)) from by omega) 41).trans (p15_q_21)
                  have z_114 : q_108.2.2.2.1 m40 = (q.2.2.2.1 m40) := (h2_q_108.G hm40 (show ¬ (h.1 m40 = 12 ∨ h.1 m40 = 113) from by omega) (by rw [km40]; decide)).trans (p30_q_21)
                  have z_115 : q_108.2.2.2.1 m41 = (q.2.2.2.1 m41) := (h2_q_108.G hm41 (show ¬ (h.1 m41 = 12 ∨ h.1 m41 = 113) from by omega) (by rw [km41]; decide)).trans (p31_q_21)
                  refine wa_callVi B (x := (RX12, TX12, 51)) (As := [.int n2, .int v_19]) (rest := []) (k_X12_sayRow l dC dI h L hN q_108 hV_q_108 (a0 := a0) ha0 ka0 n2 v_19 (m3 := m3) z_111 (m40 := m40) z_112 (m41 := m41) z_113  (by first | assumption | omega | decide) (by first | assumption | omega | decide) (by first | assumption | omega | decide) (by rw [z_115]; omega) (by rw [z_115]; omega)) (cwV 2 B.1.2.2.2.2 gX12_joined_X12_sayRow rfl rfl rfl (by decide +kernel) ⟨Nat.le_of_ble_eq_true rfl, Nat.le_of_ble_eq_true rfl⟩) ha0 ka0 (by decide) rfl rfl rfl (Nat.le_of_ble_eq_true rfl) dX12_joined_98 (fun r_117 q_116 w_118 => ?_)
                  obtain ⟨hV_q_116, h2_q_116, h3_q_116, hw_118⟩ := w_118
                  have hF_q_116 : sx_fr h L (fun a => h.1 a = 12 ∨ h.1 a = 113 ∨ h.1 a = 133 ∨ h.1 a = 134 ∨ h.1 a = 135 ∨ h.1 a = 138 ∨ h.1 a = 139 ∨ h.1 a = 140 ∨ h.1 a = 136 ∨ h.1 a = 137 ∨ h.1 a = 144 ∨ h.1 a = 245) q q_116 := hF_q_108.tr (h2_q_116.mono (fun a (z : h.1 a = 12 ∨ h.1 a = 113) => (show h.1 a = 12 ∨ h.1 a = 113 ∨ h.1 a = 133 ∨ h.1 a = 134 ∨ h.1 a = 135 ∨ h.1 a = 138 ∨ h.1 a = 139 ∨ h.1 a = 140 ∨ h.1 a = 136 ∨ h.1 a = 137 ∨ h.1 a = 144 ∨ h.1 a = 245 from by omega)))
                  have hK_q_116 : sx_kf a0 [4, 14, 15, 32, 33, 36, 37, 38, 39, 5, 10, 6, 7, 8, 9, 11, 12, 13] q q_116 := hK_q_108.tr (h3_q_116.mono (by decide))
                  have mN_q_116 : mv_N a0 q_116 := mv_N.eq (h3_q_116.1 8 (by decide)) (h3_q_116.2 11 (by decide)) mN_q_108
                  have mS_q_116 : mv_S m23 m26 m28 m29 q_116 := mv_S.eq (h2_q_116.G hm23 (show ¬ (h.1 m23 = 12 ∨ h.1 m23 = 113) from by omega) (by rw [km23]; decide)) (h2_q_116.G hm26 (show ¬ (h.1 m26 = 12 ∨ h.1 m26 = 113) from by omega) (by rw [km26]; decide)) (h2_q_116.G hm28 (show ¬ (h.1 m28 = 12 ∨ h.1 m28 = 113) from by omega) (by rw [km28]; decide)) (h2_q_116.G hm29 (show ¬ (h.1 m29 = 12 ∨ h.1 m29 = 113) from by omega) (by rw [km29]; decide)) mS_q_108
                  have mL_q_116 : mv_L m40 m41 m44 a0 q_116 := mv_L.eq (h2_q_116.G hm40 (show ¬ (h.1 m40 = 12 ∨ h.1 m40 = 113) from by omega) (by rw [km40]; decide)) (h2_q_116.G hm41 (show ¬ (h.1 m41 = 12 ∨ h.1 m41 = 113) from by omega) (by rw [km41]; decide)) (h2_q_116.G hm44 (show ¬ (h.1 m44 = 12 ∨ h.1 m44 = 113) from by omega) (by rw [km44]; decide)) (h3_q_116.1 45 (by decide)) mL_q_108
                  rw [z_114, z_115] at hw_118
                  refine wa_istore B [(4, .int r_117), (3, .int r_109), (5, .int v_18), (0, .ref a0), (1, .int n1), (2, .int n2)] dX12_joined_101 (by decide) rfl ?_
                  obtain ⟨v_119, ev_119⟩ : ∃ z : Int32, z = v_18 + 1 := ⟨_, rfl⟩
                  refine wa_iinc B [(5, .int v_119), (4, .int r_117), (3, .int r_109), (0, .ref a0), (1, .int n1), (2, .int n2)] v_119 dX12_joined_103 2 rfl (by rw [ev_119]; rfl) (by decide) rfl ?_
                  refine wa_goto B 76 dX12_joined_106 (by decide) ?_
                  have tv_119 : v_119.toInt = v_18.toInt + 1 := by have b0 := zx_bd v_18; rw [ev_119]; exact zx_add (show (-2147483648 : Int) ≤ v_18.toInt + 1 by omega) (show v_18.toInt + 1 < (2147483648 : Int) by omega)
                  have z_120 : q_116.1 a0 20 = (q.1 a0 20) := (h3_q_116.1 20 (by decide)).trans ((h3_q_108.1 20 (by decide)).trans (p0_q_21))
                  have z_121 : q_116.2.2.1 a0 3 = m3 := (h2_q_116.R ha0 (show ¬ ((h.1 a0 = 12 ∨ h.1 a0 = 113) ∧ (h.1 a0 = 8 ∨ h.1 a0 = 11)) from by omega) 3).trans (z_111)
                  have z_122 : q_116.2.2.1 a0 18 = m18 := (h2_q_116.R ha0 (show ¬ ((h.1 a0 = 12 ∨ h.1 a0 = 113) ∧ (h.1 a0 = 8 ∨ h.1 a0 = 11)) from by omega) 18).trans ((h2_q_108.R ha0 (show ¬ ((h.1 a0 = 12 ∨ h.1 a0 = 113) ∧ (h.1 a0 = 8 ∨ h.1 a0 = 11)) from by omega) 18).trans (p2_q_21))
                  have z_123 : q_116.2.2.1 a0 19 = m19 := (h2_q_116.R ha0 (show ¬ ((h.1 a0 = 12 ∨ h.1 a0 = 113) ∧ (h.1 a0 = 8 ∨ h.1 a0 = 11)) from by omega) 19).trans ((h2_q_108.R ha0 (show ¬ ((h.1 a0 = 12 ∨ h.1 a0 = 113) ∧ (h.1 a0 = 8 ∨ h.1 a0 = 11)) from by omega) 19).trans (p3_q_21))
                  have z_124 : q_116.2.2.1 a0 23 = m23 := (h2_q_116.R ha0 (show ¬ ((h.1 a0 = 12 ∨ h.1 a0 = 113) ∧ (h.1 a0 = 8 ∨ h.1 a0 = 11)) from by omega) 23).trans ((h2_q_108.R ha0 (show ¬ ((h.1 a0 = 12 ∨ h.1 a0 = 113) ∧ (h.1 a0 = 8 ∨ h.1 a0 = 11)) from by omega) 23).trans (p4_q_21))
                  have z_125 : q_116.2.2.1 a0 24 = m24 := (h2_q_116.R ha0 (show ¬ ((h.1 a0 = 12 ∨ h.1 a0 = 113) ∧ (h.1 a0 = 8 ∨ h.1 a0 = 11)) from by omega) 24).trans ((h2_q_108.R ha0 (show ¬ ((h.1 a0 = 12 ∨ h.1 a0 = 113) ∧ (h.1 a0 = 8 ∨ h.1 a0 = 11)) from by omega) 24).trans (p5_q_21))
                  have z_126 : q_116.2.2.1 a0 25 = m25 := (h2_q_116.R ha0 (show ¬ ((h.1 a0 = 12 ∨ h.1 a0 = 113) ∧ (h.1 a0 = 8 ∨ h.1 a0 = 11)) from by omega) 25).trans ((h2_q_108.R ha0 (show ¬ ((h.1 a0 = 12 ∨ h.1 a0 = 113) ∧ (h.1 a0 = 8 ∨ h.1 a0 = 11)) from by omega) 25).trans (p6_q_21))
                  have z_127 : q_116.2.2.1 a0 26 = m26 := (h2_q_116.R ha0 (show ¬ ((h.1 a0 = 12 ∨ h.1 a0 = 113) ∧ (h.1 a0 = 8 ∨ h.1 a0 = 11)) from by omega) 26).trans ((h2_q_108.R ha0 (show ¬ ((h.1 a0 = 12 ∨ h.1 a0 = 113) ∧ (h.1 a0 = 8 ∨ h.1 a0 = 11)) from by omega) 26).trans (p7_q_21))
                  have z_128 : q_116.2.2.1 a0 27 = m27 := (h2_q_116.R ha0 (show ¬ ((h.1 a0 = 12 ∨ h.1 a0 = 113) ∧ (h.1 a0 = 8 ∨ h.1 a0 = 11)) from by omega) 27).trans ((h2_q_108.R ha0 (show ¬ ((h.1 a0 = 12 ∨ h.1 a0 = 113) ∧ (h.1 a0 = 8 ∨ h.1 a0 = 11)) from by omega) 27).trans (p8_q_21))
                  have z_129 : q_116.2.2.1 a0 28 = m28 := (h2_q_116.R ha0 (show ¬ ((h.1 a0 = 12 ∨ h.1 a0 = 113) ∧ (h.1 a0 = 8 ∨ h.1 a0 = 11)) from by omega) 28).trans ((h2_q_108.R ha0 (show ¬ ((h.1 a0 = 12 ∨ h.1 a0 = 113) ∧ (h.1 a0 = 8 ∨ h.1 a0 = 11)) from by omega) 28).trans (p9_q_21))
                  have z_130 : q_116.2.2.1 a0 29 = m29 := (h2_q_116.R ha0 (show ¬ ((h.1 a0 = 12 ∨ h.1 a0 = 113) ∧ (h.1 a0 = 8 ∨ h.1 a0 = 11)) from by omega) 29).trans ((h2_q_108.R ha0 (show ¬ ((h.1 a0 = 12 ∨ h.1 a0 = 113) ∧ (h.1 a0 = 8 ∨ h.1 a0 = 11)) from by omega) 29).trans (p10_q_21))
                  have z_131 : q_116.2.2.1 a0 30 = m30 := (h2_q_116.R ha0 (show ¬ ((h.1 a0 = 12 ∨ h.1 a0 = 113) ∧ (h.1 a0 = 8 ∨ h.1 a0 = 11)) from by omega) 30).trans ((h2_q_108.R ha0 (show ¬ ((h.1 a0 = 12 ∨ h.1 a0 = 113) ∧ (h.1 a0 = 8 ∨ h.1 a0 = 11)) from by omega) 30).trans (p11_q_21))
                  have z_132 : q_116.2.2.1 a0 34 = m34 := (h2_q_116.R ha0 (show ¬ ((h.1 a0 = 12 ∨ h.1 a0 = 113) ∧ (h.1 a0 = 8 ∨ h.1 a0 = 11)) from by omega) 34).trans ((h2_q_108.R ha0 (show ¬ ((h.1 a0 = 12 ∨ h.1 a0 = 113) ∧ (h.1 a0 = 8 ∨ h.1 a0 = 11)) from by omega) 34).trans (p12_q_21))
                  have z_133 : q_116.2.2.1 a0 35 = m35 := (h2_q_116.R ha0 (show ¬ ((h.1 a0 = 12 ∨ h.1 a0 = 113) ∧ (h.1 a0 = 8 ∨ h.1 a0 = 11)) from by omega) 35).trans ((h2_q_108.R ha0 (show ¬ ((h.1 a0 = 12 ∨ h.1 a0 = 113) ∧ (h.1 a0 = 8 ∨ h.1 a0 = 11)) from by omega) 35).trans (p13_q_21))
                  have z_134 : q_116.2.2.1 a0 40 = m40 := (h2_q_116.R ha0 (show ¬ ((h.1 a0 = 12 ∨ h.1 a0 = 113) ∧ (h.1 a0 = 8 ∨ h.1 a0 = 11)) from by omega) 40).trans (z_112)
                  have z_135 : q_116.2.2.1 a0 41 = m41 := (h2_q_116.R ha0 (show ¬ ((h.1 a0 = 12 ∨ h.1 a0 = 113) ∧ (h.1 a0 = 8 ∨ h.1 a0 = 11)) from by omega) 41).trans (z_113)
                  have z_136 : q_116.2.2.1 a0 44 = m44 := (h2_q_116.R ha0 (show ¬ ((h.1 a0 = 12 ∨ h.1 a0 = 113) ∧ (h.1 a0 = 8 ∨ h.1 a0 = 11)) from by omega) 44).trans ((h2_q_108.R ha0 (show ¬ ((h.1 a0 = 12 ∨ h.1 a0 = 113) ∧ (h.1 a0 = 8 ∨ h.1 a0 = 11)) from by omega) 44).trans (p16_q_21))
                  have z_137 : q_116.2.2.1 a0 42 = m42 := (h2_q_116.R ha0 (show ¬ ((h.1 a0 = 12 ∨ h.1 a0 = 113) ∧ (h.1 a0 = 8 ∨ h.1 a0 = 11)) from by omega) 42).trans ((h2_q_108.R ha0 (show ¬ ((h.1 a0 = 12 ∨ h.1 a0 = 113) ∧ (h.1 a0 = 8 ∨ h.1 a0 = 11)) from by omega) 42).trans (p17_q_21))
                  have z_138 : q_116.2.2.1 a0 43 = m43 := (h2_q_116.R ha0 (show ¬ ((h.1 a0 = 12 ∨ h.1 a0 = 113) ∧ (h.1 a0 = 8 ∨ h.1 a0 = 11)) from by omega) 43).trans ((h2_q_108.R ha0 (show ¬ ((h.1 a0 = 12 ∨ h.1 a0 = 113) ∧ (h.1 a0 = 8 ∨ h.1 a0 = 11)) from by omega) 43).trans (p18_q_21))
                  have z_139 : q_116.2.2.2.1 m18 = (q.2.2.2.1 m18) := (h2_q_116.G hm18 (show ¬ (h.1 m18 = 12 ∨ h.1 m18 = 113) from by omega) (by rw [km18]; decide)).trans ((h2_q_108.G hm18 (show ¬ (h.1 m18 = 12 ∨ h.1 m18 = 113) from by omega) (by rw [km18]; decide)).trans (p19_q_21))
                  have z_140 : q_116.2.2.2.1 m19 = (q.2.2.2.1 m19) := (h2_q_116.G hm19 (show ¬ (h.1 m19 = 12 ∨ h.1 m19 = 113) from by omega) (by rw [km19]; decide)).trans ((h2_q_108.G hm19 (show ¬ (h.1 m19 = 12 ∨ h.1 m19 = 113) from by omega) (by rw [km19]; decide)).trans (p20_q_21))
                  have z_141 : q_116.2.2.2.1 m23 = (q.2.2.2.1 m23) := (h2_q_116.G hm23 (show ¬ (h.1 m23 = 12 ∨ h.1 m23 = 113) from by omega) (by rw [km23]; decide)).trans ((h2_q_108.G hm23 (show ¬ (h.1 m23 = 12 ∨ h.1 m23 = 113) from by omega) (by rw [km23]; decide)).trans (p21_q_21))
                  have z_142 : q_116.2.2.2.1 m24 = (q.2.2.2.1 m24) := (h2_q_116.G hm24 (show ¬ (h.1 m24 = 12 ∨ h.1 m24 = 113) from by omega) (by rw [km24]; decide)).trans ((h2_q_108.G hm24 (show ¬ (h.1 m24 = 12 ∨ h.1 m24 = 113) from by omega) (by rw [km24]; decide)).trans (p22_q_21))
                  have z_143 : q_116.2.2.2.1 m25 = (q.2.2.2.1 m25) := (h2_q_116.G hm25 (show ¬ (h.1 m25 = 12 ∨ h.1 m25 = 113) from by omega) (by rw [km25]; decide)).trans ((h2_q_108.G hm25 (show ¬ (h.1 m25 = 12 ∨ h.1 m25 = 113) from by omega) (by rw [km25]; decide)).trans (p23_q_21))
                  have z_144 : q_116.2.2.2.1 m26 = (q.2.2.2.1 m26) := (h2_q_116.G hm26 (show ¬ (h.1 m26 = 12 ∨ h.1 m26 = 113) from by omega) (by rw [km26]; decide)).trans ((h2_q_108.G hm26 (show ¬ (h.1 m26 = 12 ∨ h.1 m26 = 113) from by omega) (by rw [km26]; decide)).trans (p24_q_21))
                  have z_145 : q_116.2.2.2.1 m27 = (q.2.2.2.1 m27) := (h2_q_116.G hm27 (show ¬ (h.1 m27 = 12 ∨ h.1 m27 = 113) from by omega) (by rw [km27]; decide)).trans ((h2_q_108.G hm27 (show ¬ (h.1 m27 = 12 ∨ h.1 m27 = 113) from by omega) (by rw [km27]; decide)).trans (p25_q_21))
                  have z_146 : q_116.2.2.2.1 m28 = (q.2.2.2.1 m28) := (h2_q_116.G hm28 (show ¬ (h.1 m28 = 12 ∨ h.1 m28 = 113) from by omega) (by rw [km28]; decide)).trans ((h2_q_108.G hm28 (show ¬ (h.1 m28 = 12 ∨ h.1 m28 = 113) from by omega) (by rw [km28]; decide)).trans (p26_q_21))
                  have z_147 : q_116.2.2.2.1 m29 = (q.2.2.2.1 m29) := (h2_q_116.G hm29 (show ¬ (h.1 m29 = 12 ∨ h.1 m29 = 113) from by omega) (by rw [km29]; decide)).trans ((h2_q_108.G hm29 (show ¬ (h.1 m29 = 12 ∨ h.1 m29 = 113) from by omega) (by rw [km29]; decide)).trans (p27_q_21))
                  have z_148 : q_116.2.2.2.1 m30 = (q.2.2.2.1 m30) := (h2_q_116.G hm30 (show ¬ (h.1 m30 = 12 ∨ h.1 m30 = 113) from by omega) (by rw [km30]; decide)).trans ((h2_q_108.G hm30 (show ¬ (h.1 m30 = 12 ∨ h.1 m30 = 113) from by omega) (by rw [km30]; decide)).trans (p28_q_21))
                  have z_149 : q_116.2.2.2.1 m34 = (q.2.2.2.1 m34) := (h2_q_116.G hm34 (show ¬ (h.1 m34 = 12 ∨ h.1 m34 = 113) from by omega) (by rw [km34]; decide)).trans ((h2_q_108.G hm34 (show ¬ (h.1 m34 = 12 ∨ h.1 m34 = 113) from by omega) (by rw [km34]; decide)).trans (p29_q_21))
                  have z_150 : q_116.2.2.2.1 m40 = (q.2.2.2.1 m40) := (h2_q_116.G hm40 (show ¬ (h.1 m40 = 12 ∨ h.1 m40 = 113) from by omega) (by rw [km40]; decide)).trans (z_114)
                  have z_151 : q_116.2.2.2.1 m41 = (q.2.2.2.1 m41) := (h2_q_116.G hm41 (show ¬ (h.1 m41 = 12 ∨ h.1 m41 = 113) from by omega) (by rw [km41]; decide)).trans (z_115)
                  have z_152 : q_116.2.2.2.1 m44 = (q.2.2.2.1 m44) := (h2_q_116.G hm44 (show ¬ (h.1 m44 = 12 ∨ h.1 m44 = 113) from by omega) (by rw [km44]; decide)).trans ((h2_q_108.G hm44 (show ¬ (h.1 m44 = 12 ∨ h.1 m44 = 113) from by omega) (by rw [km44]; decide)).trans (p32_q_21))
                  have z_153 : q_116.2.2.2.1 m42 = (q.2.2.2.1 m42) := (h2_q_116.G hm42 (show ¬ (h.1 m42 = 12 ∨ h.1 m42 = 113) from by omega) (by rw [km42]; decide)).trans ((h2_q_108.G hm42 (show ¬ (h.1 m42 = 12 ∨ h.1 m42 = 113) from by omega) (by rw [km42]; decide)).trans (p33_q_21))
                  have z_154 : q_116.2.2.2.1 m43 = (q.2.2.2.1 m43) := (h2_q_116.G hm43 (show ¬ (h.1 m43 = 12 ∨ h.1 m43 = 113) from by omega) (by rw [km43]; decide)).trans ((h2_q_108.G hm43 (show ¬ (h.1 m43 = 12 ∨ h.1 m43 = 113) from by omega) (by rw [km43]; decide)).trans (p34_q_21))
                  have z_155 : q_116.2.2.2.2 m35 = (q.2.2.2.2 m35) := (h2_q_116.Lg hm35 (show ¬ (h.1 m35 = 12 ∨ h.1 m35 = 113) from by omega) (by rw [km35]; decide)).trans ((h2_q_108.Lg hm35 (show ¬ (h.1 m35 = 12 ∨ h.1 m35 = 113) from by omega) (by rw [km35]; decide)).trans (p35_q_21))
                  exact ih_64 v_119 r_117 r_109 q_116 hV_q_116 hF_q_116 hK_q_116 mN_q_116 mS_q_116 mL_q_116 z_120 z_121 z_122 z_123 z_124 z_125 z_126 z_127 z_128 z_129 z_130 z_131 z_132 z_133 z_134 z_135 z_136 z_137 z_138 z_139 z_140 z_141 z_142 z_143 z_144 z_145 z_146 z_147 z_148 z_149 z_150 z_151 z_152 z_153 z_154 z_155 (show 0 ≤ v_119.toInt from by first | assumption | omega | decide) (show (q_116.1 a0 4).toInt = r_109.toInt + r_117.toInt from by first | assumption | omega | decide) (show (0 ≤ r_109.toInt ∧ r_109.toInt ≤ (q.2.2.2.1 m41 (n1).toNatClampNeg).toInt ∧ ((mv_c (q.2.2.2.1 m40) (200 * (n1).toNatClampNeg) (r_109).toNatClampNeg : Nat) : Int) = v_119.toInt ∨ r_109.toInt = (q.2.2.2.1 m41 (n1).toNatClampNeg).toInt + 1 ∧ v_119.toInt = (q.2.2.2.1 m44 (n1).toNatClampNeg).toInt) from by omega) (show (0 ≤ r_117.toInt ∧ r_117.toInt ≤ (q.2.2.2.1 m41 (n2).toNatClampNeg).toInt ∧ ((mv_c (q.2.2.2.1 m40) (200 * (n2).toNatClampNeg) (r_117).toNatClampNeg : Nat) : Int) = v_119.toInt ∨ r_117.toInt = (q.2.2.2.1 m41 (n2).toNatClampNeg).toInt + 1 ∧ v_119.toInt = (q.2.2.2.1 m44 (n2).toNatClampNeg).toInt) from by omega) (show ((q.2.2.2.1 m44 (n1).toNatClampNeg).toInt - v_119.toInt : Int).toNat < _ from by omega)
            have y_156 : (q_16.1 a0 4).toInt = 0 := by rw [z_17]; rfl
            exact Lp_76_63 _ 0 0 0 q_16 hV_q_16 hF_q_16 hK_q_16 mN_q_16 mS_q_16 mL_q_16 z_22 z_23 z_24 z_25 z_26 z_27 z_28 z_29 z_30 z_31 z_32 z_33 z_34 z_35 z_36 z_37 z_38 z_39 z_40 z_42 z_43 z_44 z_45 z_46 z_47 z_48 z_49 z_50 z_51 z_52 z_53 z_54 z_55 z_56 z_57 z_58 (show 0 ≤ 0 from by first | assumption | omega | decide) (show (q_16.1 a0 4).toInt = 0 + 0 from by first | assumption | omega | decide) (show (0 ≤ 0 ∧ 0 ≤ (q.2.2.2.1 m41 (n1).toNatClampNeg).toInt ∧ ((mv_c (q.2.2.2.1 m40) (200 * (n1).toNatClampNeg) ((0 : Int32)).toNatClampNeg : Nat) : Int) = 0 ∨ 0 = (q.2.2.2.1 m41 (n1).toNatClampNeg).toInt + 1 ∧ 0 = (q.2.2.2.1 m44 (n1).toNatClampNeg).toInt) from by left; exact ⟨by decide, by omega, rfl⟩) (show (0 ≤ 0 ∧ 0 ≤ (q.2.2.2.1 m41 (n2).toNatClampNeg).toInt ∧ ((mv_c (q.2.2.2.1 m40) (200 * (n2).toNatClampNeg) ((0 : Int32)).toNatClampNeg : Nat) : Int) = 0 ∨ 0 = (q.2.2.2.1 m41 (n2).toNatClampNeg).toInt + 1 ∧ 0 = (q.2.2.2.1 m44 (n2).toNatClampNeg).toInt) from by left; exact ⟨by decide, by omega, rfl⟩) (Nat.lt_succ_self _)
          · refine wa_iconst B 1 dX12_joined_61 (by decide) ?_
            exact hret _ _ _ _ dX12_joined_62 ⟨hV, hF, hK, mN, mS, mL⟩
        · refine wa_iconst B 0 dX12_joined_52 (by decide) ?_
          exact hret _ _ _ _ dX12_joined_53 ⟨hV, hF, hK, mN, mS, mL⟩
theorem iq_X12_join_X12 : ∀ w ∈ wsX120, w ∈ wsX12_join := fun _ h => List.mem_cons_of_mem _ (List.mem_append_right _ h)
set_option maxHeartbeats 4000000 in
set_option maxRecDepth 100000 in
theorem k_X12_join (l : Launch) (dC : Nat → ClassId) (dI : Nat → Nat → Nat) (h : Sh) (L : List Nat) (hN : sx_nd L) (q : Sg) (hV : sx_V h L q) {a0 : Nat} (ha0 : a0 ∈ L) (ka0 : h.1 a0 = 12) (n1 : Int32) (n2 : Int32) {m3 : Nat} (em3 : q.2.2.1 a0 3 = m3) {m18 : Nat} (em18 : q.2.2.1 a0 18 = m18) {m19 : Nat} (em19 : q.2.2.1 a0 19 = m19) {m23 : Nat} (em23 : q.2.2.1 a0 23 = m23) {m24 : Nat} (em24 : q.2.2.1 a0 24 = m24) {m25 : Nat} (em25 : q.2.2.1 a0 25 = m25) {m26 : Nat} (em26 : q.2.2.1 a0 26 = m26) {m27 : Nat} (em27 : q.2.2.1 a0 27 = m27) {m28 : Nat} (em28 : q.2.2.1 a0 28 = m28) {m29 : Nat} (em29 : q.2.2.1 a0 29 = m29) {m30 : Nat} (em30 : q.2.2.1 a0 30 = m30) {m34 : Nat} (em34 : q.2.2.1 a0 34 = m34) {m35 : Nat} (em35 : q.2.2.1 a0 35 = m35) {m40 : Nat} (em40 : q.2.2.1 a0 40 = m40) {m41 : Nat} (em41 : q.2.2.1 a0 41 = m41) {m44 : Nat} (em44 : q.2.2.1 a0 44 = m44) {m42 : Nat} (em42 : q.2.2.1 a0 42 = m42) {m43 : Nat} (em43 : q.2.2.1 a0 43 = m43) (mN : mv_N a0 q) (mS : mv_S m23 m26 m28 m29 q) (mL : mv_L m40 m41 m44 a0 q)   : CMi l dC dI h L yX12_join wsX12_join ({ frames := 6, cells := 0, slots := 0, locals := 146 } : Room) q [.ref a0, .int n1, .int n2] (fun r q' => sx_V h L q' ∧ sx_fr h L (fun a => h.1 a = 12 ∨ h.1 a = 113 ∨ h.1 a = 133 ∨ h.1 a = 134 ∨ h.1 a = 135 ∨ h.1 a = 138 ∨ h.1 a = 139 ∨ h.1 a = 140 ∨ h.1 a = 136 ∨ h.1 a = 137 ∨ h.1 a = 144 ∨ h.1 a = 245) q q' ∧ sx_kf a0 [0, 4, 14, 15, 32, 33, 36, 37, 38, 39, 5, 10, 6, 7, 8, 9, 11, 12, 13] q q' ∧ mv_N a0 q' ∧ mv_S m23 m26 m28 m29 q' ∧ mv_L m40 m41 m44 a0 q') := by
  refine cm_i (cc := cX12_join) (mL := 3) (own := RX12) hN (by decide) rfl rfl (Nat.le_of_ble_eq_true rfl) (fun Z B hret => ?_)
  have hF : sx_fr h L (fun a => h.1 a = 12 ∨ h.1 a = 113 ∨ h.1 a = 133 ∨ h.1 a = 134 ∨ h.1 a = 135 ∨ h.1 a = 138 ∨ h.1 a = 139 ∨ h.1 a = 140 ∨ h.1 a = 136 ∨ h.1 a = 137 ∨ h.1 a = 144 ∨ h.1 a = 245) q q := sx_fr.rf
  have hK : sx_kf a0 [0, 4, 14, 15, 32, 33, 36, 37, 38, 39, 5, 10, 6, 7, 8, 9, 11, 12, 13] q q := sx_kf.rf
  obtain ⟨hm3, km3, lm3⟩ : m3 ∈ L ∧ h.1 m3 = 113 ∧ h.2.1 m3 = 500 := by obtain ⟨r9, e9, z1, z2, z3⟩ := hV.refn (t := 113) (n := 500) ha0 ka0 3 rfl (by decide) rfl (by decide); rw [← em3, e9]; exact ⟨z1, z2, z3⟩
  obtain ⟨hm18, km18, lm18⟩ : m18 ∈ L ∧ h.1 m18 = 128 ∧ h.2.1 m18 = 6 := by obtain ⟨r9, e9, z1, z2, z3⟩ := hV.refn (t := 128) (n := 6) ha0 ka0 18 rfl (by decide) rfl (by decide); rw [← em18, e9]; exact ⟨z1, z2, z3⟩
  obtain ⟨hm19, km19, lm19⟩ : m19 ∈ L ∧ h.1 m19 = 129 ∧ h.2.1 m19 = 30 := by obtain ⟨r9, e9, z1, z2, z3⟩ := hV.refn (t := 129) (n := 30) ha0 ka0 19 rfl (by decide) rfl (by decide); rw [← em19, e9]; exact ⟨z1, z2, z3⟩
  obtain ⟨hm23, km23, lm23⟩ : m23 ∈ L ∧ h.1 m23 = 133 ∧ h.2.1 m23 = 9 := by obtain ⟨r9, e9, z1, z2, z3⟩ := hV.refn (t := 133) (n := 9) ha0 ka0 23 rfl (by decide) rfl (by decide); rw [← em23, e9]; exact ⟨z1, z2, z3⟩
  obtain ⟨hm24, km24, lm24⟩ : m24 ∈ L ∧ h.1 m24 = 134 ∧ h.2.1 m24 = 108 := by obtain ⟨r9, e9, z1, z2, z3⟩ := hV.refn (t := 134) (n := 108) ha0 ka0 24 rfl (by decide) rfl (by decide); rw [← em24, e9]; exact ⟨z1, z2, z3⟩
  obtain ⟨hm25, km25, lm25⟩ : m25 ∈ L ∧ h.1 m25 = 135 ∧ h.2.1 m25 = 108 := by obtain ⟨r9, e9, z1, z2, z3⟩ := hV.refn (t := 135) (n := 108) ha0 ka0 25 rfl (by decide) rfl (by decide); rw [← em25, e9]; exact ⟨z1, z2, z3⟩
  obtain ⟨hm26, km26, lm26⟩ : m26 ∈ L ∧ h.1 m26 = 136 ∧ h.2.1 m26 = 108 := by obtain ⟨r9, e9, z1, z2, z3⟩ := hV.refn (t := 136) (n := 108) ha0 ka0 26 rfl (by decide) rfl (by decide); rw [← em26, e9]; exact ⟨z1, z2, z3⟩
  obtain ⟨hm27, km27, lm27⟩ : m27 ∈ L ∧ h.1 m27 = 137 ∧ h.2.1 m27 = 9 := by obtain ⟨r9, e9, z1, z2, z3⟩ := hV.refn (t := 137) (n := 9) ha0 ka0 27 rfl (by decide) rfl (by decide); rw [← em27, e9]; exact ⟨z1, z2, z3⟩
  obtain ⟨hm28, km28, lm28⟩ : m28 ∈ L ∧ h.1 m28 = 138 ∧ h.2.1 m28 = 540 := by obtain ⟨r9, e9, z1, z2, z3⟩ := hV.refn (t := 138) (n := 540) ha0 ka0 28 rfl (by decide) rfl (by decide); rw [← em28, e9]; exact ⟨z1, z2, z3⟩
  obtain ⟨hm29, km29, lm29⟩ : m29 ∈ L ∧ h.1 m29 = 139 ∧ h.2.1 m29 = 540 := by obtain ⟨r9, e9, z1, z2, z3⟩ := hV.refn (t := 139) (n := 540) ha0 ka0 29 rfl (by decide) rfl (by decide); rw [← em29, e9]; exact ⟨z1, z2, z3⟩
  obtain ⟨hm30, km30, lm30⟩ : m30 ∈ L ∧ h.1 m30 = 140 ∧ h.2.1 m30 = 540 := by obtain ⟨r9, e9, z1, z2, z3⟩ := hV.refn (t := 140) (n := 540) ha0 ka0 30 rfl (by decide) rfl (by decide); rw [← em30, e9]; exact ⟨z1, z2, z3⟩
  obtain ⟨hm34, km34, lm34⟩ : m34 ∈ L ∧ h.1 m34 = 144 ∧ h.2.1 m34 = 4 := by obtain ⟨r9, e9, z1, z2, z3⟩ := hV.refn (t := 144) (n := 4) ha0 ka0 34 rfl (by decide) rfl (by decide); rw [← em34, e9]; exact ⟨z1, z2, z3⟩
  obtain ⟨hm35, km35, lm35⟩ : m35 ∈ L ∧ h.1 m35 = 245 ∧ h.2.1 m35 = 12 := by obtain ⟨r9, e9, z1, z2, z3⟩ := hV.refn (t := 245) (n := 12) ha0 ka0 35 rfl (by decide) rfl (by decide); rw [← em35, e9]; exact ⟨z1, z2, z3⟩
  obtain ⟨hm40, km40, lm40⟩ : m40 ∈ L ∧ h.1 m40 = 150 ∧ h.2.1 m40 = 2400 := by obtain ⟨r9, e9, z1, z2, z3⟩ := hV.refn (t := 150) (n := 2400) ha0 ka0 40 rfl (by decide) rfl (by decide); rw [← em40, e9]; exact ⟨z1, z2, z3⟩
  obtain ⟨hm41, km41, lm41⟩ : m41 ∈ L ∧ h.1 m41 = 151 ∧ h.2.1 m41 = 12 := by obtain ⟨r9, e9, z1, z2, z3⟩ := hV.refn (t := 151) (n := 12) ha0 ka0 41 rfl (by decide) rfl (by decide); rw [← em41, e9]; exact ⟨z1, z2, z3⟩
  obtain ⟨hm44, km44, lm44⟩ : m44 ∈ L ∧ h.1 m44 = 154 ∧ h.2.1 m44 = 12 := by obtain ⟨r9, e9, z1, z2, z3⟩ := hV.refn (t := 154) (n := 12) ha0 ka0 44 rfl (by decide) rfl (by decide); rw [← em44, e9]; exact ⟨z1, z2, z3⟩
  obtain ⟨hm42, km42, lm42⟩ : m42 ∈ L ∧ h.1 m42 = 152 ∧ h.2.1 m42 = 12 := by obtain ⟨r9, e9, z1, z2, z3⟩ := hV.refn (t := 152) (n := 12) ha0 ka0 42 rfl (by decide) rfl (by decide); rw [← em42, e9]; exact ⟨z1, z2, z3⟩
  obtain ⟨hm43, km43, lm43⟩ : m43 ∈ L ∧ h.1 m43 = 153 ∧ h.2.1 m43 = 12 := by obtain ⟨r9, e9, z1, z2, z3⟩ := hV.refn (t := 153) (n := 12) ha0 ka0 43 rfl (by decide) rfl (by decide); rw [← em43, e9]; exact ⟨z1, z2, z3⟩
  show WA l dC dI h L ({ frames := 6, cells := 0, slots := 0, locals := 146 } : Room) 3 Z q 0 [(0, .ref a0), (1, .int n1), (2, .int n2)] []
  refine wa_aload_n B dX12_join_0 rfl 0 rfl ?_
  refine wa_iconst B 0 dX12_join_1 (by decide) ?_
  refine wa_putI B (C := RX12) (T := TX12) (N := 51) iq_X12_join_X12 ha0 ka0 (by decide) rfl 0 (by decide) (by decide) (by decide +kernel) rfl (by decide) (v := 0) (ty := .int) tyX12 tyX12_ok nmX12 rfl (by decide +kernel) rfl rfl dX12_join_2 (fun q_1 eq_1 => ?_)
  have hV_q_1 : sx_V h L q_1 := by rw [eq_1]; exact hV.pI ka0 trivial
  have hF_q_1 : sx_fr h L (fun a => h.1 a = 12 ∨ h.1 a = 113 ∨ h.1 a = 133 ∨ h.1 a = 134 ∨ h.1 a = 135 ∨ h.1 a = 138 ∨ h.1 a = 139 ∨ h.1 a = 140 ∨ h.1 a = 136 ∨ h.1 a = 137 ∨ h.1 a = 144 ∨ h.1 a = 245) q q_1 := hF.tr (by rw [eq_1]; exact sx_fr.pI (show h.1 a0 = 12 ∨ h.1 a0 = 113 ∨ h.1 a0 = 133 ∨ h.1 a0 = 134 ∨ h.1 a0 = 135 ∨ h.1 a0 = 138 ∨ h.1 a0 = 139 ∨ h.1 a0 = 140 ∨ h.1 a0 = 136 ∨ h.1 a0 = 137 ∨ h.1 a0 = 144 ∨ h.1 a0 = 245 from by omega))
  have z_2 : q_1.1 a0 0 = 0 := by rw [eq_1]; exact sg_pI_e
  have hK_q_1 : sx_kf a0 [0, 4, 14, 15, 32, 33, 36, 37, 38, 39, 5, 10, 6, 7, 8, 9, 11, 12, 13] q q_1 := hK.tr (by rw [eq_1]; exact sx_kf.pI (by decide))
  have mN_q_1 : mv_N a0 q_1 := mv_N.eq ((show q_1.1 a0 8 = q.1 a0 8 from by rw [eq_1]; exact sg_pI_k (by decide))) ((show q_1.2.1 a0 11 = q.2.1 a0 11 from by rw [eq_1]; rfl)) mN
  have mS_q_1 : mv_S m23 m26 m28 m29 q_1 := mv_S.eq ((show q_1.2.2.2.1 m23 = q.2.2.2.1 m23 from by rw [eq_1]; rfl)) ((show q_1.2.2.2.1 m26 = q.2.2.2.1 m26 from by rw [eq_1]; rfl)) ((show q_1.2.2.2.1 m28 = q.2.2.2.1 m28 from by rw [eq_1]; rfl)) ((show q_1.2.2.2.1 m29 = q.2.2.2.1 m29 from by rw [eq_1]; rfl)) mS
  have mL_q_1 : mv_L m40 m41 m44 a0 q_1 := mv_L.eq ((show q_1.2.2.2.1 m40 = q.2.2.2.1 m40 from by rw [eq_1]; rfl)) ((show q_1.2.2.2.1 m41 = q.2.2.2.1 m41 from by rw [eq_1]; rfl)) ((show q_1.2.2.2.1 m44 = q.2.2.2.1 m44 from by rw [eq_1]; rfl)) ((show q_1.1 a0 45 = q.1 a0 45 from by rw [eq_1]; exact sg_pI_k (by decide))) mL
  refine wa_aload_n B dX12_join_5 rfl 0 rfl ?_
  refine wa_iload_n B dX12_join_6 rfl 1 rfl ?_
  refine wa_callVi B (x := (RX12, TX12, 51)) (As := [.int n1]) (rest := []) (k_X12_isFragment l dC dI h L hN q_1 hV_q_1 (a0 := a0) ha0 ka0 n1  ) (cwV 1 B.1.2.2.2.2 gX12_join_X12_isFragment rfl rfl rfl (by decide +kernel) ⟨Nat.le_of_ble_eq_true rfl, Nat.le_of_ble_eq_true rfl⟩) ha0 ka0 (by decide) rfl rfl rfl (Nat.le_of_ble_eq_true rfl) dX12_join_7 (fun r_4 q_3 w_5 => ?_)
  obtain ⟨ew_5, hw_5⟩ := w_5
  subst ew_5
  refine wa_if_eq B 26 dX12_join_10 (by decide) (fun (t_6 : r_4.toInt = 0) => ?_) (fun (t_6 : ¬ r_4.toInt = 0) => ?_)
  · refine wa_iconst B (-1) dX12_join_26 (by decide) ?_
    refine wa_goto B 36 dX12_join_27 (by decide) ?_
    exact hret _ _ _ _ dX12_join_36 ⟨hV_q_1, hF_q_1, hK_q_1, mN_q_1, mS_q_1, mL_q_1⟩
  · refine wa_aload_n B dX12_join_13 rfl 0 rfl ?_
    refine wa_iload_n B dX12_join_14 rfl 2 rfl ?_
    refine wa_callVi B (x := (RX12, TX12, 51)) (As := [.int n2]) (rest := []) (k_X12_isFragment l dC dI h L hN q_1 hV_q_1 (a0 := a0) ha0 ka0 n2  ) (cwV 1 B.1.2.2.2.2 gX12_join_X12_isFragment rfl rfl rfl (by decide +kernel) ⟨Nat.le_of_ble_eq_true rfl, Nat.le_of_ble_eq_true rfl⟩) ha0 ka0 (by decide) rfl rfl rfl (Nat.le_of_ble_eq_true rfl) dX12_join_15 (fun r_8 q_7 w_9 => ?_)
    obtain ⟨ew_9, hw_9⟩ := w_9
    subst ew_9
    refine wa_if_eq B 26 dX12_join_18 (by decide) (fun (t_10 : r_8.toInt = 0) => ?_) (fun (t_10 : ¬ r_8.toInt = 0) => ?_)
    · refine wa_iconst B (-1) dX12_join_26 (by decide) ?_
      refine wa_goto B 36 dX12_join_27 (by decide) ?_
      exact hret _ _ _ _ dX12_join_36 ⟨hV_q_1, hF_q_1, hK_q_1, mN_q_1, mS_q_1, mL_q_1⟩
    · refine wa_iload_n B dX12_join_21 rfl 1 rfl ?_
      refine wa_iload_n B dX12_join_22 rfl 2 rfl ?_
      refine wa_icmp_ne B 30 dX12_join_23 (by decide) (fun (t_11 : ¬ n1.toInt = n2.toInt) => ?_) (fun (t_11 : n1.toInt = n2.toInt) => ?_)
      · refine wa_aload_n B dX12_join_30 rfl 0 rfl ?_
        refine wa_iload_n B dX12_join_31 rfl 1 rfl ?_
        refine wa_iload_n B dX12_join_32 rfl 2 rfl ?_
        have z_12 : q_1.2.2.1 a0 3 = m3 := ((show q_1.2.2.1 a0 3 = q.2.2.1 a0 3 from by rw [eq_1]; rfl)).trans (em3)
        have z_13 : q_1.2.2.1 a0 18 = m18 := ((show q_1.2.2.1 a0 18 = q.2.2.1 a0 18 from by rw [eq_1]; rfl)).trans (em18)
        have z_14 : q_1.2.2.1 a0 19 = m19 := ((show q_1.2.2.1 a0 19 = q.2.2.1 a0 19 from by rw [eq_1]; rfl)).trans (em19)
        have z_15 : q_1.2.2.1 a0 23 = m23 := ((show q_1.2.2.1 a0 23 = q.2.2.1 a0 23 from by rw [eq_1]; rfl)).trans (em23)
        have z_16 : q_1.2.2.1 a0 24 = m24 := ((show q_1.2.2.1 a0 24 = q.2.2.1 a0 24 from by rw [eq_1]; rfl)).trans (em24)
        have z_17 : q_1.2.2.1 a0 25 = m25 := ((show q_1.2.2.1 a0 25 = q.2.2.1 a0 25 from by rw [eq_1]; rfl)).trans (em25)
        have z_18 : q_1.2.2.1 a0 26 = m26 := ((show q_1.2.2.1 a0 26 = q.2.2.1 a0 26 from by rw [eq_1]; rfl)).trans (em26)
        have z_19 : q_1.2.2.1 a0 27 = m27 := ((show q_1.2.2.1 a0 27 = q.2.2.1 a0 27 from by rw [eq_1]; rfl)).trans (em27)
        have z_20 : q_1.2.2.1 a0 28 = m28 := ((show q_1.2.2.1 a0 28 = q.2.2.1 a0 28 from by rw [eq_1]; rfl)).trans (em28)
        have z_21 : q_1.2.2.1 a0 29 = m29 := ((show q_1.2.2.1 a0 29 = q.2.2.1 a0 29 from by rw [eq_1]; rfl)).trans (em29)
        have z_22 : q_1.2.2.1 a0 30 = m30 := ((show q_1.2.2.1 a0 30 = q.2.2.1 a0 30 from by rw [eq_1]; rfl)).trans (em30)
        have z_23 : q_1.2.2.1 a0 34 = m34 := ((show q_1.2.2.1 a0 34 = q.2.2.1 a0 34 from by rw [eq_1]; rfl)).trans (em34)
        have z_24 : q_1.2.2.1 a0 35 = m35 := ((show q_1.2.2.1 a0 35 = q.2.2.1 a0 35 from by rw [eq_1]; rfl)).trans (em35)
        have z_25 : q_1.2.2.1 a0 40 = m40 := ((show q_1.2.2.1 a0 40 = q.2.2.1 a0 40 from by rw [eq_1]; rfl)).trans (em40)
        have z_26 : q_1.2.2.1 a0 41 = m41 := ((show q_1.2.2.1 a0 41 = q.2.2.1 a0 41 from by rw [eq_1]; rfl)).trans (em41)
        have z_27 : q_1.2.2.1 a0 44 = m44 := ((show q_1.2.2.1 a0 44 = q.2.2.1 a0 44 from by rw [eq_1]; rfl)).trans (em44)
        have z_28 : q_1.2.2.1 a0 42 = m42 := ((show q_1.2.2.1 a0 42 = q.2.2.1 a0 42 from by rw [eq_1]; rfl)).trans (em42)
        have z_29 : q_1.2.2.1 a0 43 = m43 := ((show q_1.2.2.1 a0 43 = q.2.2.1 a0 43 from by rw [eq_1]; rfl)).trans (em43)
        refine wa_callVi B (x := (RX12, TX12, 51)) (As := [.int n1, .int n2]) (rest := []) (k_X12_joined l dC dI h L hN q_1 hV_q_1 (a0 := a0) ha0 ka0 n1 n2 (m3 := m3) z_12 (m18 := m18) z_13 (m19 := m19) z_14 (m23 := m23) z_15 (m24 := m24) z_16 (m25 := m25) z_17 (m26 := m26) z_18 (m27 := m27) z_19 (m28 := m28) z_20 (m29 := m29) z_21 (m30 := m30) z_22 (m34 := m34) z_23 (m35 := m35) z_24 (m40 := m40) z_25 (m41 := m41) z_26 (m44 := m44) z_27 (m42 := m42) z_28 (m43 := m43) z_29 mN_q_1 mS_q_1 mL_q_1 (by first | assumption | omega | decide) (by first | assumption | omega | decide) (by first | assumption | omega | decide) (by first | assumption | omega | decide) (by first | assumption | omega | decide) (by first | assumption | omega | decide)) (cwV 2 B.1.2.2.2.2 gX12_join_X12_joined rfl rfl rfl (by decide +kernel) ⟨Nat.le_of_ble_eq_true rfl, Nat.le_of_ble_eq_true rfl⟩) ha0 ka0 (by decide) rfl rfl rfl (Nat.le_of_ble_eq_true rfl) dX12_join_33 (fun r_31 q_30 w_32 => ?_)
        obtain ⟨hV_q_30, h2_q_30, h3_q_30, mN_q_30, mS_q_30, mL_q_30⟩ := w_32
        have hF_q_30 : sx_fr h L (fun a => h.1 a = 12 ∨ h.1 a = 113 ∨ h.1 a = 133 ∨ h.1 a = 134 ∨ h.1 a = 135 ∨ h.1 a = 138 ∨ h.1 a = 139 ∨ h.1 a = 140 ∨ h.1 a = 136 ∨ h.1 a = 137 ∨ h.1 a = 144 ∨ h.1 a = 245) q q_30 := hF_q_1.tr (h2_q_30.mono (fun a (z : h.1 a = 12 ∨ h.1 a = 113 ∨ h.1 a = 133 ∨ h.1 a = 134 ∨ h.1 a = 135 ∨ h.1 a = 138 ∨ h.1 a = 139 ∨ h.1 a = 140 ∨ h.1 a = 136 ∨ h.1 a = 137 ∨ h.1 a = 144 ∨ h.1 a = 245) => (show h.1 a = 12 ∨ h.1 a = 113 ∨ h.1 a = 133 ∨ h.1 a = 134 ∨ h.1 a = 135 ∨ h.1 a = 138 ∨ h.1 a = 139 ∨ h.1 a = 140 ∨ h.1 a = 136 ∨ h.1 a = 137 ∨ h.1 a = 144 ∨ h.1 a = 245 from by omega)))
        have hK_q_30 : sx_kf a0 [0, 4, 14, 15, 32, 33, 36, 37, 38, 39, 5, 10, 6, 7, 8, 9, 11, 12, 13] q q_30 := hK_q_1.tr (h3_q_30.mono (by decide))
        exact hret _ _ _ _ dX12_join_36 ⟨hV_q_30, hF_q_30, hK_q_30, mN_q_30, mS_q_30, mL_q_30⟩
      · refine wa_iconst B (-1) dX12_join_26 (by decide) ?_
        refine wa_goto B 36 dX12_join_27 (by decide) ?_
        exact hret _ _ _ _ dX12_join_36 ⟨hV_q_1, hF_q_1, hK_q_1, mN_q_1, mS_q_1, mL_q_1⟩
set_option maxHeartbeats 4000000 in
set_option maxRecDepth 100000 in
theorem k_X12_lowest (l : Launch) (dC : Nat → ClassId) (dI : Nat → Nat → Nat) (h : Sh) (L : List Nat) (hN : sx_nd L) (q : Sg) (hV : sx_V h L q) (n1 : Int32)   (hy0 : 1 ≤ n1.toInt) (hy1 : n1.toInt ≤ 4095) : CMi l dC dI h L yX12_lowest wsX12_lowest ({ frames := 0, cells := 0, slots := 0, locals := 0 } : Room) q [.int n1] (fun r q' => q = q' ∧ (0 ≤ r.toInt ∧ r.toInt ≤ 11 ∧ zx_d n1.toInt r.toInt % 2 = 1)) := by
  refine cm_i (cc := cX12_lowest) (mL := 2) (own := RX12) hN (by decide) rfl rfl (Nat.le_of_ble_eq_true rfl) (fun Z B hret => ?_)
  show WA l dC dI h L ({ frames := 0, cells := 0, slots := 0, locals := 0 } : Room) 2 Z q 0 [(0, .int n1)] []
  refine wa_iconst B 0 dX12_lowest_0 (by decide) ?_
  refine wa_istore_n B [(1, .int 0), (0, .int n1)] dX12_lowest_1 rfl (by decide) rfl ?_
  have Lp_2_5 : ∀ (n : Nat) (v_1 : Int32), 0 ≤ v_1.toInt → v_1.toInt ≤ 11 → 1 ≤ zx_d n1.toInt v_1.toInt → (12 - v_1.toInt : Int).toNat < n → WA l dC dI h L ({ frames := 0, cells := 0, slots := 0, locals := 0 } : Room) 2 Z q 2 [(1, .int v_1), (0, .int n1)] [] := by
    intro n
    induction n with
    | zero =>
      intro v_1 x_2 x_3 x_4 hn
      exact absurd hn (Nat.not_lt_zero _)
    | succ n ih_6 =>
      intro v_1 x_2 x_3 x_4 hn
      refine wa_iload_n B dX12_lowest_2 rfl 1 rfl ?_
      refine wa_iload_n B dX12_lowest_3 rfl 0 rfl ?_
      refine wa_ishr B dX12_lowest_4 (fun v_7 ev_7 => ?_)
      refine wa_iconst B 1 dX12_lowest_5 (by decide) ?_
      refine wa_iand B dX12_lowest_6 (fun v_8 ev_8 => ?_)
      have gv_7 : v_7.toInt = zx_d n1.toInt v_1.toInt := by rw [ev_7]; exact zx_shr (by omega) (by omega)
      have gv_8 : v_8.toInt = v_7.toInt % 2 := by rw [ev_8]; exact zx_and1 (by omega)
      refine wa_if_ne B 16 dX12_lowest_7 (by decide) (fun (t_9 : ¬ v_8.toInt = 0) => ?_) (fun (t_9 : v_8.toInt = 0) => ?_)
      · refine wa_iload_n B dX12_lowest_16 rfl 0 rfl ?_
        exact hret _ _ _ _ dX12_lowest_17 ⟨rfl, (by first | omega | (refine ⟨?_, ?_⟩ <;> omega) | trivial)⟩
      · obtain ⟨v_10, ev_10⟩ : ∃ z : Int32, z = v_1 + 1 := ⟨_, rfl⟩
        refine wa_iinc B [(1, .int v_10), (0, .int n1)] v_10 dX12_lowest_10 0 rfl (by rw [ev_10]; rfl) (by decide) rfl ?_
        refine wa_goto B 2 dX12_lowest_13 (by decide) ?_
        have tv_10 : v_10.toInt = v_1.toInt + 1 := by have b0 := zx_bd v_1; rw [ev_10]; exact zx_add (show (-2147483648 : Int) ≤ v_1.toInt + 1 by omega) (show v_1.toInt + 1 < (2147483648 : Int) by omega)
        exact ih_6 v_10 (show 0 ≤ v_10.toInt from by first | assumption | omega | decide) (show v_10.toInt ≤ 11 from by by_cases e9 : v_1.toInt = 11; (have z9 : zx_d n1.toInt 12 = zx_d n1.toInt 11 / 2 := zx_d_s (k := 11) (by decide); rw [zx_d_12 (by omega) (by omega)] at z9; have z8 : zx_d n1.toInt v_1.toInt = zx_d n1.toInt 11 := (by rw [e9]); omega); omega) (show 1 ≤ zx_d n1.toInt v_10.toInt from by rw [show v_10.toInt = v_1.toInt + 1 by omega, zx_d_s (by omega)]; omega) (show (12 - v_10.toInt : Int).toNat < _ from by omega)
  exact Lp_2_5 _ 0 (show 0 ≤ 0 from by first | assumption | omega | decide) (show 0 ≤ 11 from by decide) (show 1 ≤ zx_d n1.toInt 0 from by rw [zx_d_0]; omega) (Nat.lt_succ_self _)
