theorem iq_X12_readUnit_X12 : ∀ w ∈ wsX120, w ∈ wsX12_readUnit := fun _ h => List.mem_cons_of_mem _ (List.mem_append_right _ h)
set_option maxHeartbeats 4000000 in
set_option maxRecDepth 100000 in
theorem k_X12_readUnit (l : Launch) (dC : Nat → ClassId) (dI : Nat → Nat → Nat) (h : Sh) (L : List Nat) (hN : sx_nd L) (q : Sg) (hV : sx_V h L q) {a0 : Nat} (ha0 : a0 ∈ L) (ka0 : h.1 a0 = 12) (n1 : Int32) {m17 : Nat} (em17 : q.2.2.1 a0 17 = m17) {m18 : Nat} (em18 : q.2.2.1 a0 18 = m18) {m19 : Nat} (em19 : q.2.2.1 a0 19 = m19) (mN : mv_N a0 q) (mF : mv_F m18 m19 q) (mU : mv_U m17 q)  (hy0 : 0 ≤ n1.toInt) (hy1 : n1.toInt ≤ 2) (hy2 : (q.2.2.2.1 m18 (3 + n1).toNatClampNeg).toInt ≤ 4) (hy3 : (q.2.2.2.1 m18 (3 + n1).toNatClampNeg).toInt = 0 ∨ 2 ≤ (q.2.2.2.1 m19 (5 * (3 + n1).toNatClampNeg + (q.2.2.2.1 m18 (3 + n1).toNatClampNeg).toInt.toNat)).toInt ∧ (q.2.2.2.1 m19 (5 * (3 + n1).toNatClampNeg + (q.2.2.2.1 m18 (3 + n1).toNatClampNeg).toInt.toNat)).toInt ≤ 60) : CMi l dC dI h L yX12_readUnit wsX12_readUnit ({ frames := 3, cells := 0, slots := 0, locals := 65 } : Room) q [.ref a0, .int n1] (fun r q' => sx_V h L q' ∧ sx_fr h L (fun a => h.1 a = 12 ∨ h.1 a = 227 ∨ h.1 a = 128) q q' ∧ sx_kf a0 [6, 7, 8, 9, 11, 12, 13, 14, 15] q q' ∧ mv_N a0 q' ∧ mv_F m18 m19 q' ∧ mv_U m17 q' ∧ (r.toInt = 1 ∧ (q'.2.2.2.1 m18 (3 + n1).toNatClampNeg).toInt = (q.2.2.2.1 m18 (3 + n1).toNatClampNeg).toInt + 1 ∨ r.toInt = 0)) := by
  refine cm_z (cc := cX12_readUnit) (mL := 3) (own := RX12) hN (by decide) rfl rfl (Nat.le_of_ble_eq_true rfl) (fun Z B hret => ?_)
  have hF : sx_fr h L (fun a => h.1 a = 12 ∨ h.1 a = 227 ∨ h.1 a = 128) q q := sx_fr.rf
  have hK : sx_kf a0 [6, 7, 8, 9, 11, 12, 13, 14, 15] q q := sx_kf.rf
  obtain ⟨hm17, km17, lm17⟩ : m17 ∈ L ∧ h.1 m17 = 227 ∧ h.2.1 m17 = 30 := by obtain ⟨r9, e9, z1, z2, z3⟩ := hV.refn (t := 227) (n := 30) ha0 ka0 17 rfl (by decide) rfl (by decide); rw [← em17, e9]; exact ⟨z1, z2, z3⟩
  obtain ⟨hm18, km18, lm18⟩ : m18 ∈ L ∧ h.1 m18 = 128 ∧ h.2.1 m18 = 6 := by obtain ⟨r9, e9, z1, z2, z3⟩ := hV.refn (t := 128) (n := 6) ha0 ka0 18 rfl (by decide) rfl (by decide); rw [← em18, e9]; exact ⟨z1, z2, z3⟩
  obtain ⟨hm19, km19, lm19⟩ : m19 ∈ L ∧ h.1 m19 = 129 ∧ h.2.1 m19 = 30 := by obtain ⟨r9, e9, z1, z2, z3⟩ := hV.refn (t := 129) (n := 30) ha0 ka0 19 rfl (by decide) rfl (by decide); rw [← em19, e9]; exact ⟨z1, z2, z3⟩
  show WA l dC dI h L ({ frames := 3, cells := 0, slots := 0, locals := 65 } : Room) 3 Z q 0 [(0, .ref a0), (1, .int n1)] []
  refine wa_iconst B 3 dX12_readUnit_0 (by decide) ?_
  refine wa_iload_n B dX12_readUnit_1 rfl 1 rfl ?_
  refine wa_iadd B dX12_readUnit_2 (fun v_1 ev_1 => ?_)
  subst ev_1
  refine wa_istore_n B [(2, .int (3 + n1)), (0, .ref a0), (1, .int n1)] dX12_readUnit_3 rfl (by decide) rfl ?_
  have t_2 : (3 + n1).toInt = 3 + n1.toInt := by have b1 := zx_bd n1; exact zx_add (show (-2147483648 : Int) ≤ 3 + n1.toInt by omega) (show 3 + n1.toInt < (2147483648 : Int) by omega)
  refine wa_aload_n B dX12_readUnit_4 rfl 1 rfl ?_
  refine wa_callVi B (x := (RX12, TX12, 51)) (As := []) (rest := []) (k_X12_isFree l dC dI h L hN q hV (a0 := a0) ha0 ka0  ) (cwV 0 B.1.2.2.2.2 gX12_readUnit_X12_isFree rfl rfl rfl (by decide +kernel) ⟨Nat.le_of_ble_eq_true rfl, Nat.le_of_ble_eq_true rfl⟩) ha0 ka0 (by decide) rfl rfl rfl (Nat.le_of_ble_eq_true rfl) dX12_readUnit_5 (fun r_4 q_3 w_5 => ?_)
  obtain ⟨ew_5, hw_5⟩ := w_5
  subst ew_5
  refine wa_if_ne B 17 dX12_readUnit_8 (by decide) (fun (t_6 : ¬ r_4.toInt = 0) => ?_) (fun (t_6 : r_4.toInt = 0) => ?_)
  · refine wa_aload_n B dX12_readUnit_17 rfl 1 rfl ?_
    refine wa_iload_n B dX12_readUnit_18 rfl 2 rfl ?_
    refine wa_callVi B (x := (RX12, TX12, 51)) (As := [.int n1]) (rest := []) (k_X12_isTaken l dC dI h L hN q hV (a0 := a0) ha0 ka0 n1  (by first | assumption | omega | decide) (by first | assumption | omega | decide)) (cwV 1 B.1.2.2.2.2 gX12_readUnit_X12_isTaken rfl rfl rfl (by decide +kernel) ⟨Nat.le_of_ble_eq_true rfl, Nat.le_of_ble_eq_true rfl⟩) ha0 ka0 (by decide) rfl rfl rfl (Nat.le_of_ble_eq_true rfl) dX12_readUnit_19 (fun r_8 q_7 w_9 => ?_)
    obtain ⟨ew_9, hw_9⟩ := w_9
    subst ew_9
    refine wa_if_eq B 31 dX12_readUnit_22 (by decide) (fun (t_10 : r_8.toInt = 0) => ?_) (fun (t_10 : ¬ r_8.toInt = 0) => ?_)
    · refine wa_aload_n B dX12_readUnit_31 rfl 1 rfl ?_
      refine wa_getR B (C := RX12) (T := TX12) (N := 51) iq_X12_readUnit_X12 ha0 ka0 (by decide) rfl 17 (by decide) (by decide) (by decide +kernel) rfl (fun _ _ _ => rfl) (v := m17) em17 dX12_readUnit_32 ?_
      refine wa_iconst B 5 dX12_readUnit_35 (by decide) ?_
      refine wa_iload_n B dX12_readUnit_36 rfl 0 rfl ?_
      refine wa_imul B dX12_readUnit_37 (fun v_11 ev_11 => ?_)
      refine wa_aload_n B dX12_readUnit_38 rfl 1 rfl ?_
      refine wa_getR B (C := RX12) (T := TX12) (N := 51) iq_X12_readUnit_X12 ha0 ka0 (by decide) rfl 18 (by decide) (by decide) (by decide +kernel) rfl (fun _ _ _ => rfl) (v := m18) em18 dX12_readUnit_39 ?_
      refine wa_iload_n B dX12_readUnit_42 rfl 0 rfl ?_
      refine wa_iaload B hm18 km18 (by decide) (by decide) (show 0 ≤ (3 + n1).toInt by omega) (show (3 + n1).toInt < (h.2.1 m18 : Int) by omega) (v := (q.2.2.2.1 m18 ((3 + n1) : Int32).toNatClampNeg)) rfl dX12_readUnit_43 ?_
      have g_12 : (0 : Int) ≤ ((q.2.2.2.1 m18 ((3 + n1) : Int32).toNatClampNeg)).toInt ∧ ((q.2.2.2.1 m18 ((3 + n1) : Int32).toNatClampNeg)).toInt ≤ 5 := hV.cnt hm18 km18 _
      refine wa_iadd B dX12_readUnit_44 (fun v_13 ev_13 => ?_)
      refine wa_aload_n B dX12_readUnit_45 rfl 1 rfl ?_
      refine wa_getJ B (C := RX12) (T := TX12) (N := 51) iq_X12_readUnit_X12 ha0 ka0 (by decide) rfl 11 (by decide) (by decide) (by decide +kernel) rfl (by decide) (v := (q.2.1 a0 11)) rfl dX12_readUnit_46 ?_
      have tv_11 : v_11.toInt = 5 * (3 + n1).toInt := by have b1 := zx_bd (3 + n1); rw [ev_11]; exact zx_mul (show (-2147483648 : Int) ≤ 5 * (3 + n1).toInt by omega) (show 5 * (3 + n1).toInt < (2147483648 : Int) by omega)
      have tv_13 : v_13.toInt = v_11.toInt + ((q.2.2.2.1 m18 ((3 + n1) : Int32).toNatClampNeg)).toInt := by have b0 := zx_bd v_11; have b1 := zx_bd ((q.2.2.2.1 m18 ((3 + n1) : Int32).toNatClampNeg)); rw [ev_13]; exact zx_add (show (-2147483648 : Int) ≤ v_11.toInt + ((q.2.2.2.1 m18 ((3 + n1) : Int32).toNatClampNeg)).toInt by omega) (show v_11.toInt + ((q.2.2.2.1 m18 ((3 + n1) : Int32).toNatClampNeg)).toInt < (2147483648 : Int) by omega)
      refine wa_lastore B hm17 km17 (by decide) (by decide) (show 0 ≤ v_13.toInt by omega) (show v_13.toInt < (h.2.1 m17 : Int) by omega) dX12_readUnit_49 (fun q_14 eq_14 => ?_)
      have hV_q_14 : sx_V h L q_14 := by rw [eq_14]; exact hV.pL
      have hF_q_14 : sx_fr h L (fun a => h.1 a = 12 ∨ h.1 a = 227 ∨ h.1 a = 128) q q_14 := hF.tr (by rw [eq_14]; exact sx_fr.pL (show h.1 m17 = 200 ∨ (h.1 m17 = 12 ∨ h.1 m17 = 227 ∨ h.1 m17 = 128) from by omega))
      have z_15 : q_14.2.2.2.2 m17 = (vp_updL (q.2.2.2.2 m17) (v_13 : Int32).toNatClampNeg (q.2.1 a0 11)) := by rw [eq_14, sg_pL_e]
      have z_16 : q_14.2.2.2.2 m17 (v_13 : Int32).toNatClampNeg = (q.2.1 a0 11) := by rw [eq_14, sg_pL_e]; exact if_pos rfl
      have hK_q_14 : sx_kf a0 [6, 7, 8, 9, 11, 12, 13, 14, 15] q q_14 := hK.tr (sx_kf.eq (by rw [eq_14]; rfl) (by rw [eq_14]; rfl))
      have mN_q_14 : mv_N a0 q_14 := mv_N.eq ((show q_14.1 a0 8 = q.1 a0 8 from by rw [eq_14]; rfl)) ((show q_14.2.1 a0 11 = q.2.1 a0 11 from by rw [eq_14]; rfl)) mN
      have mF_q_14 : mv_F m18 m19 q_14 := mv_F.eq ((show q_14.2.2.2.1 m18 = q.2.2.2.1 m18 from by rw [eq_14]; rfl)) ((show q_14.2.2.2.1 m19 = q.2.2.2.1 m19 from by rw [eq_14]; rfl)) mF
      have mU_q_14 : mv_U m17 q_14 := mv_U.up (show q_14.2.2.2.2 m17 = _ from by rw [eq_14]; exact sg_pL_e) (mU) (by exact mN (by omega))
      refine wa_aload_n B dX12_readUnit_50 rfl 1 rfl ?_
      have z_17 : q_14.2.2.1 a0 18 = m18 := ((show q_14.2.2.1 a0 18 = q.2.2.1 a0 18 from by rw [eq_14]; rfl)).trans (em18)
      refine wa_getR B (C := RX12) (T := TX12) (N := 51) iq_X12_readUnit_X12 ha0 ka0 (by decide) rfl 18 (by decide) (by decide) (by decide +kernel) rfl (fun _ _ _ => rfl) (v := m18) z_17 dX12_readUnit_51 ?_
      refine wa_iload_n B dX12_readUnit_54 rfl 0 rfl ?_
      refine wa_dup2 B dX12_readUnit_55 rfl rfl ?_
      have z_18 : q_14.2.2.2.1 m18 ((3 + n1) : Int32).toNatClampNeg = (q.2.2.2.1 m18 ((3 + n1) : Int32).toNatClampNeg) := (congrFun ((show q_14.2.2.2.1 m18 = q.2.2.2.1 m18 from by rw [eq_14]; rfl)) _).trans rfl
      refine wa_iaload B hm18 km18 (by decide) (by decide) (show 0 ≤ (3 + n1).toInt by omega) (show (3 + n1).toInt < (h.2.1 m18 : Int) by omega) (v := (q.2.2.2.1 m18 ((3 + n1) : Int32).toNatClampNeg)) z_18 dX12_readUnit_56 ?_
      refine wa_iconst B 1 dX12_readUnit_57 (by decide) ?_
      refine wa_iadd B dX12_readUnit_58 (fun v_19 ev_19 => ?_)
      have z_20 : q_14.2.2.2.1 m18 = q.2.2.2.1 m18 := (show q_14.2.2.2.1 m18 = q.2.2.2.1 m18 from by rw [eq_14]; rfl)
      have z_21 : q_14.2.2.2.1 m19 = q.2.2.2.1 m19 := (show q_14.2.2.2.1 m19 = q.2.2.2.1 m19 from by rw [eq_14]; rfl)
      refine wa_iastore B hm18 km18 (by decide) (by decide) (show 0 ≤ (3 + n1).toInt by omega) (show (3 + n1).toInt < (h.2.1 m18 : Int) by omega) dX12_readUnit_59 (fun q_22 eq_22 => ?_)
      have tv_19 : v_19.toInt = ((q.2.2.2.1 m18 ((3 + n1) : Int32).toNatClampNeg)).toInt + 1 := by have b0 := zx_bd ((q.2.2.2.1 m18 ((3 + n1) : Int32).toNatClampNeg)); rw [ev_19]; exact zx_add (show (-2147483648 : Int) ≤ ((q.2.2.2.1 m18 ((3 + n1) : Int32).toNatClampNeg)).toInt + 1 by omega) (show ((q.2.2.2.1 m18 ((3 + n1) : Int32).toNatClampNeg)).toInt + 1 < (2147483648 : Int) by omega)
      have hV_q_22 : sx_V h L q_22 := by rw [eq_22]; exact hV_q_14.up1 hm18 km18 (show sx_in v_19 (0) 5 from ⟨by omega, by omega⟩)
      have hF_q_22 : sx_fr h L (fun a => h.1 a = 12 ∨ h.1 a = 227 ∨ h.1 a = 128) q q_22 := hF_q_14.tr (by rw [eq_22]; exact sx_fr.pG (show h.1 m18 = 100 ∨ (h.1 m18 = 12 ∨ h.1 m18 = 227 ∨ h.1 m18 = 128) from by omega))
      have z_23 : q_22.2.2.2.1 m18 = (upd (q.2.2.2.1 m18) ((3 + n1) : Int32).toNatClampNeg v_19) := by rw [eq_22, sg_pG_e, z_20]
      have z_24 : q_22.2.2.2.1 m18 ((3 + n1) : Int32).toNatClampNeg = v_19 := by rw [eq_22, sg_pG_e]; exact if_pos rfl
      have hK_q_22 : sx_kf a0 [6, 7, 8, 9, 11, 12, 13, 14, 15] q q_22 := hK_q_14.tr (sx_kf.eq (by rw [eq_22]; rfl) (by rw [eq_22]; rfl))
      have mN_q_22 : mv_N a0 q_22 := mv_N.eq ((show q_22.1 a0 8 = q_14.1 a0 8 from by rw [eq_22]; rfl)) ((show q_22.2.1 a0 11 = q_14.2.1 a0 11 from by rw [eq_22]; rfl)) mN_q_14
      have mF_q_22 : mv_F m18 m19 q_22 := mv_f.F (mv_f.inc (s := (3 + n1 : Int32).toNatClampNeg) (v := v_19) ((mF_q_14).f rfl rfl) (by rw [zx_nc]; omega) (by rw [z_20]; omega) (by rw [z_20]; omega) (by rw [z_20]; rw [z_21]; exact hy3)) (show q_22.2.2.2.1 m18 = _ from by rw [eq_22]; exact sg_pG_e) ((show q_22.2.2.2.1 m19 = q_14.2.2.2.1 m19 from by rw [eq_22]; exact sg_pG_a (sx_ka h km19 km18 (by decide))))
      have mU_q_22 : mv_U m17 q_22 := mv_U.eq ((show q_22.2.2.2.2 m17 = q_14.2.2.2.2 m17 from by rw [eq_22]; rfl)) mU_q_14
      refine wa_aload_n B dX12_readUnit_60 rfl 1 rfl ?_
      refine wa_callVv B (x := (RX12, TX12, 51)) (As := []) (rest := []) (k_X12_go l dC dI h L hN q_22 hV_q_22 (a0 := a0) ha0 ka0  ) (cwV 0 B.1.2.2.2.2 gX12_readUnit_X12_go rfl rfl rfl (by decide +kernel) ⟨Nat.le_of_ble_eq_true rfl, Nat.le_of_ble_eq_true rfl⟩) ha0 ka0 (by decide) rfl rfl rfl (Nat.le_of_ble_eq_true rfl) dX12_readUnit_61 (fun q_25 w_26 => ?_)
      obtain ⟨hV_q_25, h2_q_25, h3_q_25, mN_q_25⟩ := w_26
      have hF_q_25 : sx_fr h L (fun a => h.1 a = 12 ∨ h.1 a = 227 ∨ h.1 a = 128) q q_25 := hF_q_22.tr (h2_q_25.mono (fun a (z : h.1 a = 12) => (show h.1 a = 12 ∨ h.1 a = 227 ∨ h.1 a = 128 from by omega)))
      have hK_q_25 : sx_kf a0 [6, 7, 8, 9, 11, 12, 13, 14, 15] q q_25 := hK_q_22.tr (h3_q_25.mono (by decide))
      have mF_q_25 : mv_F m18 m19 q_25 := mv_F.eq (h2_q_25.G hm18 (show ¬ (h.1 m18 = 12) from by omega) (by rw [km18]; decide)) (h2_q_25.G hm19 (show ¬ (h.1 m19 = 12) from by omega) (by rw [km19]; decide)) mF_q_22
      have mU_q_25 : mv_U m17 q_25 := mv_U.eq (h2_q_25.Lg hm17 (show ¬ (h.1 m17 = 12) from by omega) (by rw [km17]; decide)) mU_q_22
      refine wa_iconst B 1 dX12_readUnit_64 (by decide) ?_
      have z_27 : q_25.2.2.2.1 m18 ((3 + n1) : Int32).toNatClampNeg = v_19 := (congrFun (h2_q_25.G hm18 (show ¬ (h.1 m18 = 12) from by omega) (by rw [km18]; decide)) _).trans z_24
      exact hret _ _ _ _ dX12_readUnit_65 (Or.inr rfl) ⟨hV_q_25, hF_q_25, hK_q_25, mN_q_25, mF_q_25, mU_q_25, (Or.inl ⟨rfl, by rw [z_27]; omega⟩)⟩
    · refine wa_aload_n B dX12_readUnit_25 rfl 1 rfl ?_
      refine wa_iconst B 3 dX12_readUnit_26 (by decide) ?_
      refine wa_callVi B (x := (RX12, TX12, 51)) (As := [.int 3]) (rest := []) (k_X12_bad l dC dI h L hN q hV (a0 := a0) ha0 ka0 3  ) (cwV 1 B.1.2.2.2.2 gX12_readUnit_X12_bad rfl rfl rfl (by decide +kernel) ⟨Nat.le_of_ble_eq_true rfl, Nat.le_of_ble_eq_true rfl⟩) ha0 ka0 (by decide) rfl rfl rfl (Nat.le_of_ble_eq_true rfl) dX12_readUnit_27 (fun r_29 q_28 w_30 => ?_)
      obtain ⟨hV_q_28, h2_q_28, h3_q_28, hw_30⟩ := w_30
      have hF_q_28 : sx_fr h L (fun a => h.1 a = 12 ∨ h.1 a = 227 ∨ h.1 a = 128) q q_28 := hF.tr (h2_q_28.mono (fun a (z : h.1 a = 12) => (show h.1 a = 12 ∨ h.1 a = 227 ∨ h.1 a = 128 from by omega)))
      have hK_q_28 : sx_kf a0 [6, 7, 8, 9, 11, 12, 13, 14, 15] q q_28 := hK.tr (h3_q_28.mono (by decide))
      have mN_q_28 : mv_N a0 q_28 := mv_N.eq (h3_q_28.1 8 (by decide)) (h3_q_28.2 11 (by decide)) mN
      have mF_q_28 : mv_F m18 m19 q_28 := mv_F.eq (h2_q_28.G hm18 (show ¬ (h.1 m18 = 12) from by omega) (by rw [km18]; decide)) (h2_q_28.G hm19 (show ¬ (h.1 m19 = 12) from by omega) (by rw [km19]; decide)) mF
      have mU_q_28 : mv_U m17 q_28 := mv_U.eq (h2_q_28.Lg hm17 (show ¬ (h.1 m17 = 12) from by omega) (by rw [km17]; decide)) mU
      exact hret _ _ _ _ dX12_readUnit_30 (zx_01 (by omega)) ⟨hV_q_28, hF_q_28, hK_q_28, mN_q_28, mF_q_28, mU_q_28, (Or.inr (by omega))⟩
  · refine wa_aload_n B dX12_readUnit_11 rfl 1 rfl ?_
    refine wa_iconst B 1 dX12_readUnit_12 (by decide) ?_
    refine wa_callVi B (x := (RX12, TX12, 51)) (As := [.int 1]) (rest := []) (k_X12_bad l dC dI h L hN q hV (a0 := a0) ha0 ka0 1  ) (cwV 1 B.1.2.2.2.2 gX12_readUnit_X12_bad rfl rfl rfl (by decide +kernel) ⟨Nat.le_of_ble_eq_true rfl, Nat.le_of_ble_eq_true rfl⟩) ha0 ka0 (by decide) rfl rfl rfl (Nat.le_of_ble_eq_true rfl) dX12_readUnit_13 (fun r_32 q_31 w_33 => ?_)
    obtain ⟨hV_q_31, h2_q_31, h3_q_31, hw_33⟩ := w_33
    have hF_q_31 : sx_fr h L (fun a => h.1 a = 12 ∨ h.1 a = 227 ∨ h.1 a = 128) q q_31 := hF.tr (h2_q_31.mono (fun a (z : h.1 a = 12) => (show h.1 a = 12 ∨ h.1 a = 227 ∨ h.1 a = 128 from by omega)))
    have hK_q_31 : sx_kf a0 [6, 7, 8, 9, 11, 12, 13, 14, 15] q q_31 := hK.tr (h3_q_31.mono (by decide))
    have mN_q_31 : mv_N a0 q_31 := mv_N.eq (h3_q_31.1 8 (by decide)) (h3_q_31.2 11 (by decide)) mN
    have mF_q_31 : mv_F m18 m19 q_31 := mv_F.eq (h2_q_31.G hm18 (show ¬ (h.1 m18 = 12) from by omega) (by rw [km18]; decide)) (h2_q_31.G hm19 (show ¬ (h.1 m19 = 12) from by omega) (by rw [km19]; decide)) mF
    have mU_q_31 : mv_U m17 q_31 := mv_U.eq (h2_q_31.Lg hm17 (show ¬ (h.1 m17 = 12) from by omega) (by rw [km17]; decide)) mU
    exact hret _ _ _ _ dX12_readUnit_16 (zx_01 (by omega)) ⟨hV_q_31, hF_q_31, hK_q_31, mN_q_31, mF_q_31, mU_q_31, (Or.inr (by omega))⟩
theorem iq_X12_readSystem_X12 : ∀ w ∈ wsX120, w ∈ wsX12_readSystem := fun _ h => List.mem_cons_of_mem _ (List.mem_append_right _ h)
set_option maxHeartbeats 4000000 in
set_option maxRecDepth 100000 in
theorem k_X12_readSystem (l : Launch) (dC : Nat → ClassId) (dI : Nat → Nat → Nat) (h : Sh) (L : List Nat) (hN : sx_nd L) (q : Sg) (hV : sx_V h L q) {a0 : Nat} (ha0 : a0 ∈ L) (ka0 : h.1 a0 = 12) (n1 : Int32) {m16 : Nat} (em16 : q.2.2.1 a0 16 = m16) {m17 : Nat} (em17 : q.2.2.1 a0 17 = m17) {m18 : Nat} (em18 : q.2.2.1 a0 18 = m18) {m19 : Nat} (em19 : q.2.2.1 a0 19 = m19) (mN : mv_N a0 q) (mF : mv_F m18 m19 q) (mU : mv_U m17 q)  (hy0 : 0 ≤ n1.toInt) (hy1 : n1.toInt ≤ 2) : CMi l dC dI h L yX12_readSystem wsX12_readSystem ({ frames := 4, cells := 0, slots := 0, locals := 87 } : Room) q [.ref a0, .int n1] (fun r q' => sx_V h L q' ∧ sx_fr h L (fun a => h.1 a = 12 ∨ h.1 a = 226 ∨ h.1 a = 227 ∨ h.1 a = 128 ∨ h.1 a = 129) q q' ∧ sx_kf a0 [6, 7, 8, 9, 11, 12, 13, 14, 15] q q' ∧ mv_N a0 q' ∧ mv_F m18 m19 q' ∧ mv_U m17 q' ∧ (r.toInt = 0 ∨ r.toInt = 1)) := by
  refine cm_z (cc := cX12_readSystem) (mL := 3) (own := RX12) hN (by decide) rfl rfl (Nat.le_of_ble_eq_true rfl) (fun Z B hret => ?_)
  have hF : sx_fr h L (fun a => h.1 a = 12 ∨ h.1 a = 226 ∨ h.1 a = 227 ∨ h.1 a = 128 ∨ h.1 a = 129) q q := sx_fr.rf
  have hK : sx_kf a0 [6, 7, 8, 9, 11, 12, 13, 14, 15] q q := sx_kf.rf
  obtain ⟨hm16, km16, lm16⟩ : m16 ∈ L ∧ h.1 m16 = 226 ∧ h.2.1 m16 = 6 := by obtain ⟨r9, e9, z1, z2, z3⟩ := hV.refn (t := 226) (n := 6) ha0 ka0 16 rfl (by decide) rfl (by decide); rw [← em16, e9]; exact ⟨z1, z2, z3⟩
  obtain ⟨hm17, km17, lm17⟩ : m17 ∈ L ∧ h.1 m17 = 227 ∧ h.2.1 m17 = 30 := by obtain ⟨r9, e9, z1, z2, z3⟩ := hV.refn (t := 227) (n := 30) ha0 ka0 17 rfl (by decide) rfl (by decide); rw [← em17, e9]; exact ⟨z1, z2, z3⟩
  obtain ⟨hm18, km18, lm18⟩ : m18 ∈ L ∧ h.1 m18 = 128 ∧ h.2.1 m18 = 6 := by obtain ⟨r9, e9, z1, z2, z3⟩ := hV.refn (t := 128) (n := 6) ha0 ka0 18 rfl (by decide) rfl (by decide); rw [← em18, e9]; exact ⟨z1, z2, z3⟩
  obtain ⟨hm19, km19, lm19⟩ : m19 ∈ L ∧ h.1 m19 = 129 ∧ h.2.1 m19 = 30 := by obtain ⟨r9, e9, z1, z2, z3⟩ := hV.refn (t := 129) (n := 30) ha0 ka0 19 rfl (by decide) rfl (by decide); rw [← em19, e9]; exact ⟨z1, z2, z3⟩
  show WA l dC dI h L ({ frames := 4, cells := 0, slots := 0, locals := 87 } : Room) 3 Z q 0 [(0, .ref a0), (1, .int n1)] []
  refine wa_iconst B 3 dX12_readSystem_0 (by decide) ?_
  refine wa_iload_n B dX12_readSystem_1 rfl 1 rfl ?_
  refine wa_iadd B dX12_readSystem_2 (fun v_1 ev_1 => ?_)
  subst ev_1
  refine wa_istore_n B [(2, .int (3 + n1)), (0, .ref a0), (1, .int n1)] dX12_readSystem_3 rfl (by decide) rfl ?_
  have t_2 : (3 + n1).toInt = 3 + n1.toInt := by have b1 := zx_bd n1; exact zx_add (show (-2147483648 : Int) ≤ 3 + n1.toInt by omega) (show 3 + n1.toInt < (2147483648 : Int) by omega)
  refine wa_aload_n B dX12_readSystem_4 rfl 1 rfl ?_
  refine wa_getR B (C := RX12) (T := TX12) (N := 51) iq_X12_readSystem_X12 ha0 ka0 (by decide) rfl 16 (by decide) (by decide) (by decide +kernel) rfl (fun _ _ _ => rfl) (v := m16) em16 dX12_readSystem_5 ?_
  refine wa_iload_n B dX12_readSystem_8 rfl 0 rfl ?_
  refine wa_lconst B 0 dX12_readSystem_9 (by decide) ?_
  refine wa_lastore B hm16 km16 (by decide) (by decide) (show 0 ≤ (3 + n1).toInt by omega) (show (3 + n1).toInt < (h.2.1 m16 : Int) by omega) dX12_readSystem_10 (fun q_3 eq_3 => ?_)
  have hV_q_3 : sx_V h L q_3 := by rw [eq_3]; exact hV.pL
  have hF_q_3 : sx_fr h L (fun a => h.1 a = 12 ∨ h.1 a = 226 ∨ h.1 a = 227 ∨ h.1 a = 128 ∨ h.1 a = 129) q q_3 := hF.tr (by rw [eq_3]; exact sx_fr.pL (show h.1 m16 = 200 ∨ (h.1 m16 = 12 ∨ h.1 m16 = 226 ∨ h.1 m16 = 227 ∨ h.1 m16 = 128 ∨ h.1 m16 = 129) from by omega))
  have z_4 : q_3.2.2.2.2 m16 = (vp_updL (q.2.2.2.2 m16) ((3 + n1) : Int32).toNatClampNeg 0) := by rw [eq_3, sg_pL_e]
  have z_5 : q_3.2.2.2.2 m16 ((3 + n1) : Int32).toNatClampNeg = 0 := by rw [eq_3, sg_pL_e]; exact if_pos rfl
  have hK_q_3 : sx_kf a0 [6, 7, 8, 9, 11, 12, 13, 14, 15] q q_3 := hK.tr (sx_kf.eq (by rw [eq_3]; rfl) (by rw [eq_3]; rfl))
  have mN_q_3 : mv_N a0 q_3 := mv_N.eq ((show q_3.1 a0 8 = q.1 a0 8 from by rw [eq_3]; rfl)) ((show q_3.2.1 a0 11 = q.2.1 a0 11 from by rw [eq_3]; rfl)) mN
  have mF_q_3 : mv_F m18 m19 q_3 := mv_F.eq ((show q_3.2.2.2.1 m18 = q.2.2.2.1 m18 from by rw [eq_3]; rfl)) ((show q_3.2.2.2.1 m19 = q.2.2.2.1 m19 from by rw [eq_3]; rfl)) mF
  have mU_q_3 : mv_U m17 q_3 := mv_U.eq ((show q_3.2.2.2.2 m17 = q.2.2.2.2 m17 from by rw [eq_3]; exact sg_pL_a (sx_ka h km17 km16 (by decide)))) mU
  refine wa_aload_n B dX12_readSystem_11 rfl 1 rfl ?_
  have z_6 : q_3.2.2.1 a0 18 = m18 := ((show q_3.2.2.1 a0 18 = q.2.2.1 a0 18 from by rw [eq_3]; rfl)).trans (em18)
  refine wa_getR B (C := RX12) (T := TX12) (N := 51) iq_X12_readSystem_X12 ha0 ka0 (by decide) rfl 18 (by decide) (by decide) (by decide +kernel) rfl (fun _ _ _ => rfl) (v := m18) z_6 dX12_readSystem_12 ?_
  refine wa_iload_n B dX12_readSystem_15 rfl 0 rfl ?_
  refine wa_iconst B 0 dX12_readSystem_16 (by decide) ?_
  refine wa_iastore B hm18 km18 (by decide) (by decide) (show 0 ≤ (3 + n1).toInt by omega) (show (3 + n1).toInt < (h.2.1 m18 : Int) by omega) dX12_readSystem_17 (fun q_7 eq_7 => ?_)
  have hV_q_7 : sx_V h L q_7 := by rw [eq_7]; exact hV_q_3.up1 hm18 km18 (show sx_in 0 (0) 5 from ⟨by decide, by decide⟩)
  have hF_q_7 : sx_fr h L (fun a => h.1 a = 12 ∨ h.1 a = 226 ∨ h.1 a = 227 ∨ h.1 a = 128 ∨ h.1 a = 129) q q_7 := hF_q_3.tr (by rw [eq_7]; exact sx_fr.pG (show h.1 m18 = 100 ∨ (h.1 m18 = 12 ∨ h.1 m18 = 226 ∨ h.1 m18 = 227 ∨ h.1 m18 = 128 ∨ h.1 m18 = 129) from by omega))
  have z_8 : q_3.2.2.2.1 m18 = q.2.2.2.1 m18 := (show q_3.2.2.2.1 m18 = q.2.2.2.1 m18 from by rw [eq_3]; rfl)
  have z_9 : q_7.2.2.2.1 m18 = (upd (q.2.2.2.1 m18) ((3 + n1) : Int32).toNatClampNeg 0) := by rw [eq_7, sg_pG_e, z_8]
  have z_10 : q_7.2.2.2.1 m18 ((3 + n1) : Int32).toNatClampNeg = 0 := by rw [eq_7, sg_pG_e]; exact if_pos rfl
  have hK_q_7 : sx_kf a0 [6, 7, 8, 9, 11, 12, 13, 14, 15] q q_7 := hK_q_3.tr (sx_kf.eq (by rw [eq_7]; rfl) (by rw [eq_7]; rfl))
  have mN_q_7 : mv_N a0 q_7 := mv_N.eq ((show q_7.1 a0 8 = q_3.1 a0 8 from by rw [eq_7]; rfl)) ((show q_7.2.1 a0 11 = q_3.2.1 a0 11 from by rw [eq_7]; rfl)) mN_q_3
  have mF_q_7 : mv_F m18 m19 q_7 := mv_f.F (mv_f.up (s := (3 + n1 : Int32).toNatClampNeg) (v := 0) ((mF_q_3).f rfl rfl) (fun k h1 h2 => absurd h2 (show ¬ ((k : Int) < 0) from by omega))) (show q_7.2.2.2.1 m18 = _ from by rw [eq_7]; exact sg_pG_e) ((show q_7.2.2.2.1 m19 = q_3.2.2.2.1 m19 from by rw [eq_7]; exact sg_pG_a (sx_ka h km19 km18 (by decide))))
  have mU_q_7 : mv_U m17 q_7 := mv_U.eq ((show q_7.2.2.2.2 m17 = q_3.2.2.2.2 m17 from by rw [eq_7]; rfl)) mU_q_3
  refine wa_aload_n B dX12_readSystem_18 rfl 1 rfl ?_
  refine wa_callVi B (x := (RX12, TX12, 51)) (As := []) (rest := []) (k_X12_isFree l dC dI h L hN q_7 hV_q_7 (a0 := a0) ha0 ka0  ) (cwV 0 B.1.2.2.2.2 gX12_readSystem_X12_isFree rfl rfl rfl (by decide +kernel) ⟨Nat.le_of_ble_eq_true rfl, Nat.le_of_ble_eq_true rfl⟩) ha0 ka0 (by decide) rfl rfl rfl (Nat.le_of_ble_eq_true rfl) dX12_readSystem_19 (fun r_12 q_11 w_13 => ?_)
  obtain ⟨ew_13, hw_13⟩ := w_13
  subst ew_13
  refine wa_if_ne B 31 dX12_readSystem_22 (by decide) (fun (t_14 : ¬ r_12.toInt = 0) => ?_) (fun (t_14 : r_12.toInt = 0) => ?_)
  · refine wa_aload_n B dX12_readSystem_31 rfl 1 rfl ?_
    refine wa_iload_n B dX12_readSystem_32 rfl 2 rfl ?_
    refine wa_callVi B (x := (RX12, TX12, 51)) (As := [.int n1]) (rest := []) (k_X12_isTaken l dC dI h L hN q_7 hV_q_7 (a0 := a0) ha0 ka0 n1  (by first | assumption | omega | decide) (by first | assumption | omega | decide)) (cwV 1 B.1.2.2.2.2 gX12_readSystem_X12_isTaken rfl rfl rfl (by decide +kernel) ⟨Nat.le_of_ble_eq_true rfl, Nat.le_of_ble_eq_true rfl⟩) ha0 ka0 (by decide) rfl rfl rfl (Nat.le_of_ble_eq_true rfl) dX12_readSystem_33 (fun r_16 q_15 w_17 => ?_)
    obtain ⟨ew_17, hw_17⟩ := w_17
    subst ew_17
    refine wa_if_eq B 45 dX12_readSystem_36 (by decide) (fun (t_18 : r_16.toInt = 0) => ?_) (fun (t_18 : ¬ r_16.toInt = 0) => ?_)
    · refine wa_aload_n B dX12_readSystem_45 rfl 1 rfl ?_
      have z_19 : q_7.2.2.1 a0 16 = m16 := ((show q_7.2.2.1 a0 16 = q_3.2.2.1 a0 16 from by rw [eq_7]; rfl)).trans (((show q_3.2.2.1 a0 16 = q.2.2.1 a0 16 from by rw [eq_3]; rfl)).trans (em16))
      refine wa_getR B (C := RX12) (T := TX12) (N := 51) iq_X12_readSystem_X12 ha0 ka0 (by decide) rfl 16 (by decide) (by decide) (by decide +kernel) rfl (fun _ _ _ => rfl) (v := m16) z_19 dX12_readSystem_46 ?_
      refine wa_iload_n B dX12_readSystem_49 rfl 0 rfl ?_
      refine wa_aload_n B dX12_readSystem_50 rfl 1 rfl ?_
      refine wa_getJ B (C := RX12) (T := TX12) (N := 51) iq_X12_readSystem_X12 ha0 ka0 (by decide) rfl 11 (by decide) (by decide) (by decide +kernel) rfl (by decide) (v := (q_7.2.1 a0 11)) rfl dX12_readSystem_51 ?_
      refine wa_lastore B hm16 km16 (by decide) (by decide) (show 0 ≤ (3 + n1).toInt by omega) (show (3 + n1).toInt < (h.2.1 m16 : Int) by omega) dX12_readSystem_54 (fun q_20 eq_20 => ?_)
      have hV_q_20 : sx_V h L q_20 := by rw [eq_20]; exact hV_q_7.pL
      have hF_q_20 : sx_fr h L (fun a => h.1 a = 12 ∨ h.1 a = 226 ∨ h.1 a = 227 ∨ h.1 a = 128 ∨ h.1 a = 129) q q_20 := hF_q_7.tr (by rw [eq_20]; exact sx_fr.pL (show h.1 m16 = 200 ∨ (h.1 m16 = 12 ∨ h.1 m16 = 226 ∨ h.1 m16 = 227 ∨ h.1 m16 = 128 ∨ h.1 m16 = 129) from by omega))
      have z_21 : q_7.2.2.2.2 m16 = (vp_updL (q.2.2.2.2 m16) ((3 + n1) : Int32).toNatClampNeg 0) := ((show q_7.2.2.2.2 m16 = q_3.2.2.2.2 m16 from by rw [eq_7]; rfl)).trans (z_4)
      have z_22 : q_20.2.2.2.2 m16 = (vp_updL (vp_updL (q.2.2.2.2 m16) ((3 + n1) : Int32).toNatClampNeg 0) ((3 + n1) : Int32).toNatClampNeg (q_7.2.1 a0 11)) := by rw [eq_20, sg_pL_e, z_21]
      have z_23 : q_20.2.2.2.2 m16 ((3 + n1) : Int32).toNatClampNeg = (q_7.2.1 a0 11) := by rw [eq_20, sg_pL_e]; exact if_pos rfl
      have hK_q_20 : sx_kf a0 [6, 7, 8, 9, 11, 12, 13, 14, 15] q q_20 := hK_q_7.tr (sx_kf.eq (by rw [eq_20]; rfl) (by rw [eq_20]; rfl))
      have mN_q_20 : mv_N a0 q_20 := mv_N.eq ((show q_20.1 a0 8 = q_7.1 a0 8 from by rw [eq_20]; rfl)) ((show q_20.2.1 a0 11 = q_7.2.1 a0 11 from by rw [eq_20]; rfl)) mN_q_7
      have mF_q_20 : mv_F m18 m19 q_20 := mv_F.eq ((show q_20.2.2.2.1 m18 = q_7.2.2.2.1 m18 from by rw [eq_20]; rfl)) ((show q_20.2.2.2.1 m19 = q_7.2.2.2.1 m19 from by rw [eq_20]; rfl)) mF_q_7
      have mU_q_20 : mv_U m17 q_20 := mv_U.eq ((show q_20.2.2.2.2 m17 = q_7.2.2.2.2 m17 from by rw [eq_20]; exact sg_pL_a (sx_ka h km17 km16 (by decide)))) mU_q_7
      refine wa_aload_n B dX12_readSystem_55 rfl 1 rfl ?_
      refine wa_callVv B (x := (RX12, TX12, 51)) (As := []) (rest := []) (k_X12_go l dC dI h L hN q_20 hV_q_20 (a0 := a0) ha0 ka0  ) (cwV 0 B.1.2.2.2.2 gX12_readSystem_X12_go rfl rfl rfl (by decide +kernel) ⟨Nat.le_of_ble_eq_true rfl, Nat.le_of_ble_eq_true rfl⟩) ha0 ka0 (by decide) rfl rfl rfl (Nat.le_of_ble_eq_true rfl) dX12_readSystem_56 (fun q_24 w_25 => ?_)
      obtain ⟨hV_q_24, h2_q_24, h3_q_24, mN_q_24⟩ := w_25
      have hF_q_24 : sx_fr h L (fun a => h.1 a = 12 ∨ h.1 a = 226 ∨ h.1 a = 227 ∨ h.1 a = 128 ∨ h.1 a = 129) q q_24 := hF_q_20.tr (h2_q_24.mono (fun a (z : h.1 a = 12) => (show h.1 a = 12 ∨ h.1 a = 226 ∨ h.1 a = 227 ∨ h.1 a = 128 ∨ h.1 a = 129 from by omega)))
      have hK_q_24 : sx_kf a0 [6, 7, 8, 9, 11, 12, 13, 14, 15] q q_24 := hK_q_20.tr (h3_q_24.mono (by decide))
      have mF_q_24 : mv_F m18 m19 q_24 := mv_F.eq (h2_q_24.G hm18 (show ¬ (h.1 m18 = 12) from by omega) (by rw [km18]; decide)) (h2_q_24.G hm19 (show ¬ (h.1 m19 = 12) from by omega) (by rw [km19]; decide)) mF_q_20
      have mU_q_24 : mv_U m17 q_24 := mv_U.eq (h2_q_24.Lg hm17 (show ¬ (h.1 m17 = 12) from by omega) (by rw [km17]; decide)) mU_q_20
      refine wa_aload_n B dX12_readSystem_59 rfl 1 rfl ?_
      refine wa_bipush B 58 dX12_readSystem_60 (by decide) ?_
      refine wa_callVi B (x := (RX12, TX12, 51)) (As := [.int 58]) (rest := []) (k_X12_isSign l dC dI h L hN q_24 hV_q_24 (a0 := a0) ha0 ka0 58  ) (cwV 1 B.1.2.2.2.2 gX12_readSystem_X12_isSign rfl rfl rfl (by decide +kernel) ⟨Nat.le_of_ble_eq_true rfl, Nat.le_of_ble_eq_true rfl⟩) ha0 ka0 (by decide) rfl rfl rfl (Nat.le_of_ble_eq_true rfl) dX12_readSystem_62 (fun r_27 q_26 w_28 => ?_)
      obtain ⟨ew_28, hw_28⟩ := w_28
      subst ew_28
      refine wa_if_ne B 74 dX12_readSystem_65 (by decide) (fun (t_29 : ¬ r_27.toInt = 0) => ?_) (fun (t_29 : r_27.toInt = 0) => ?_)
      · refine wa_aload_n B dX12_readSystem_74 rfl 1 rfl ?_
        refine wa_callVv B (x := (RX12, TX12, 51)) (As := []) (rest := []) (k_X12_go l dC dI h L hN q_24 hV_q_24 (a0 := a0) ha0 ka0  ) (cwV 0 B.1.2.2.2.2 gX12_readSystem_X12_go rfl rfl rfl (by decide +kernel) ⟨Nat.le_of_ble_eq_true rfl, Nat.le_of_ble_eq_true rfl⟩) ha0 ka0 (by decide) rfl rfl rfl (Nat.le_of_ble_eq_true rfl) dX12_readSystem_75 (fun q_30 w_31 => ?_)
        obtain ⟨hV_q_30, h2_q_30, h3_q_30, mN_q_30⟩ := w_31
        have hF_q_30 : sx_fr h L (fun a => h.1 a = 12 ∨ h.1 a = 226 ∨ h.1 a = 227 ∨ h.1 a = 128 ∨ h.1 a = 129) q q_30 := hF_q_24.tr (h2_q_30.mono (fun a (z : h.1 a = 12) => (show h.1 a = 12 ∨ h.1 a = 226 ∨ h.1 a = 227 ∨ h.1 a = 128 ∨ h.1 a = 129 from by omega)))
        have hK_q_30 : sx_kf a0 [6, 7, 8, 9, 11, 12, 13, 14, 15] q q_30 := hK_q_24.tr (h3_q_30.mono (by decide))
        have mF_q_30 : mv_F m18 m19 q_30 := mv_F.eq (h2_q_30.G hm18 (show ¬ (h.1 m18 = 12) from by omega) (by rw [km18]; decide)) (h2_q_30.G hm19 (show ¬ (h.1 m19 = 12) from by omega) (by rw [km19]; decide)) mF_q_24
        have mU_q_30 : mv_U m17 q_30 := mv_U.eq (h2_q_30.Lg hm17 (show ¬ (h.1 m17 = 12) from by omega) (by rw [km17]; decide)) mU_q_24
        refine wa_aload_n B dX12_readSystem_78 rfl 1 rfl ?_
        refine wa_iload_n B dX12_readSystem_79 rfl 2 rfl ?_
        have z_32 : q_30.2.2.2.1 m18 ((3 + n1) : Int32).toNatClampNeg = 0 := (congrFun ((h2_q_30.G hm18 (show ¬ (h.1 m18 = 12) from by omega) (by rw [km18]; decide)).trans ((h2_q_24.G hm18 (show ¬ (h.1 m18 = 12) from by omega) (by rw [km18]; decide)).trans ((show q_20.2.2.2.1 m18 = q_7.2.2.2.1 m18 from by rw [eq_20]; rfl)))) _).trans z_10
        have y_33 : (q_30.2.2.2.1 m18 (3 + n1).toNatClampNeg).toInt = 0 := by rw [z_32]; rfl
        have z_34 : q_30.2.2.1 a0 17 = m17 := (h2_q_30.R ha0 (show ¬ ((h.1 a0 = 12) ∧ (h.1 a0 = 8 ∨ h.1 a0 = 11)) from by omega) 17).trans ((h2_q_24.R ha0 (show ¬ ((h.1 a0 = 12) ∧ (h.1 a0 = 8 ∨ h.1 a0 = 11)) from by omega) 17).trans (((show q_20.2.2.1 a0 17 = q_7.2.2.1 a0 17 from by rw [eq_20]; rfl)).trans (((show q_7.2.2.1 a0 17 = q_3.2.2.1 a0 17 from by rw [eq_7]; rfl)).trans (((show q_3.2.2.1 a0 17 = q.2.2.1 a0 17 from by rw [eq_3]; rfl)).trans (em17)))))
        have z_35 : q_30.2.2.1 a0 18 = m18 := (h2_q_30.R ha0 (show ¬ ((h.1 a0 = 12) ∧ (h.1 a0 = 8 ∨ h.1 a0 = 11)) from by omega) 18).trans ((h2_q_24.R ha0 (show ¬ ((h.1 a0 = 12) ∧ (h.1 a0 = 8 ∨ h.1 a0 = 11)) from by omega) 18).trans (((show q_20.2.2.1 a0 18 = q_7.2.2.1 a0 18 from by rw [eq_20]; rfl)).trans (((show q_7.2.2.1 a0 18 = q_3.2.2.1 a0 18 from by rw [eq_7]; rfl)).trans (z_6))))
        have z_36 : q_30.2.2.1 a0 19 = m19 := (h2_q_30.R ha0 (show ¬ ((h.1 a0 = 12) ∧ (h.1 a0 = 8 ∨ h.1 a0 = 11)) from by omega) 19).trans ((h2_q_24.R ha0 (show ¬ ((h.1 a0 = 12) ∧ (h.1 a0 = 8 ∨ h.1 a0 = 11)) from by omega) 19).trans (((show q_20.2.2.1 a0 19 = q_7.2.2.1 a0 19 from by rw [eq_20]; rfl)).trans (((show q_7.2.2.1 a0 19 = q_3.2.2.1 a0 19 from by rw [eq_7]; rfl)).trans (((show q_3.2.2.1 a0 19 = q.2.2.1 a0 19 from by rw [eq_3]; rfl)).trans (em19)))))
        refine wa_callVi B (x := (RX12, TX12, 51)) (As := [.int n1]) (rest := []) (k_X12_readUnit l dC dI h L hN q_30 hV_q_30 (a0 := a0) ha0 ka0 n1 (m17 := m17) z_34 (m18 := m18) z_35 (m19 := m19) z_36 mN_q_30 mF_q_30 mU_q_30 (by first | assumption | omega | decide) (by first | assumption | omega | decide) (by rw [z_32]; decide) (Or.inl (by rw [z_32]; rfl))) (cwV 1 B.1.2.2.2.2 gX12_readSystem_X12_readUnit rfl rfl rfl (by decide +kernel) ⟨Nat.le_of_ble_eq_true rfl, Nat.le_of_ble_eq_true rfl⟩) ha0 ka0 (by decide) rfl rfl rfl (Nat.le_of_ble_eq_true rfl) dX12_readSystem_80 (fun r_38 q_37 w_39 => ?_)
        obtain ⟨hV_q_37, h2_q_37, h3_q_37, mN_q_37, mF_q_37, mU_q_37, hw_39⟩ := w_39
        have hF_q_37 : sx_fr h L (fun a => h.1 a = 12 ∨ h.1 a = 226 ∨ h.1 a = 227 ∨ h.1 a = 128 ∨ h.1 a = 129) q q_37 := hF_q_30.tr (h2_q_37.mono (fun a (z : h.1 a = 12 ∨ h.1 a = 227 ∨ h.1 a = 128) => (show h.1 a = 12 ∨ h.1 a = 226 ∨ h.1 a = 227 ∨ h.1 a = 128 ∨ h.1 a = 129 from by omega)))
        have hK_q_37 : sx_kf a0 [6, 7, 8, 9, 11, 12, 13, 14, 15] q q_37 := hK_q_30.tr (h3_q_37.mono (by decide))
        refine wa_if_ne B 88 dX12_readSystem_83 (by decide) (fun (t_40 : ¬ r_38.toInt = 0) => ?_) (fun (t_40 : r_38.toInt = 0) => ?_)
        · have z_42 : q_37.2.2.1 a0 16 = m16 := (h2_q_37.R ha0 (show ¬ ((h.1 a0 = 12 ∨ h.1 a0 = 227 ∨ h.1 a0 = 128) ∧ (h.1 a0 = 8 ∨ h.1 a0 = 11)) from by omega) 16).trans ((h2_q_30.R ha0 (show ¬ ((h.1 a0 = 12) ∧ (h.1 a0 = 8 ∨ h.1 a0 = 11)) from by omega) 16).trans ((h2_q_24.R ha0 (show ¬ ((h.1 a0 = 12) ∧ (h.1 a0 = 8 ∨ h.1 a0 = 11)) from by omega) 16).trans (((show q_20.2.2.1 a0 16 = q_7.2.2.1 a0 16 from by rw [eq_20]; rfl)).trans (z_19))))
          have z_43 : q_37.2.2.1 a0 17 = m17 := (h2_q_37.R ha0 (show ¬ ((h.1 a0 = 12 ∨ h.1 a0 = 227 ∨ h.1 a0 = 128) ∧ (h.1 a0 = 8 ∨ h.1 a0 = 11)) from by omega) 17).trans (z_34)
          have z_44 : q_37.2.2.1 a0 18 = m18 := (h2_q_37.R ha0 (show ¬ ((h.1 a0 = 12 ∨ h.1 a0 = 227 ∨ h.1 a0 = 128) ∧ (h.1 a0 = 8 ∨ h.1 a0 = 11)) from by omega) 18).trans (z_35)
          have z_45 : q_37.2.2.1 a0 19 = m19 := (h2_q_37.R ha0 (show ¬ ((h.1 a0 = 12 ∨ h.1 a0 = 227 ∨ h.1 a0 = 128) ∧ (h.1 a0 = 8 ∨ h.1 a0 = 11)) from by omega) 19).trans (z_36)
          have z_46 : q_37.2.2.2.1 m19 = q.2.2.2.1 m19 := (h2_q_37.G hm19 (show ¬ (h.1 m19 = 12 ∨ h.1 m19 = 227 ∨ h.1 m19 = 128) from by omega) (by rw [km19]; decide)).trans ((h2_q_30.G hm19 (show ¬ (h.1 m19 = 12) from by omega) (by rw [km19]; decide)).trans ((h2_q_24.G hm19 (show ¬ (h.1 m19 = 12) from by omega) (by rw [km19]; decide)).trans (((show q_20.2.2.2.1 m19 = q_7.2.2.2.1 m19 from by rw [eq_20]; rfl)).trans (((show q_7.2.2.2.1 m19 = q_3.2.2.2.1 m19 from by rw [eq_7]; exact sg_pG_a (sx_ka h km19 km18 (by decide)))).trans ((show q_3.2.2.2.1 m19 = q.2.2.2.1 m19 from by rw [eq_3]; rfl))))))
          have z_47 : q_37.2.2.2.2 m16 = (vp_updL (vp_updL (q.2.2.2.2 m16) ((3 + n1) : Int32).toNatClampNeg 0) ((3 + n1) : Int32).toNatClampNeg (q_7.2.1 a0 11)) := (h2_q_37.Lg hm16 (show ¬ (h.1 m16 = 12 ∨ h.1 m16 = 227 ∨ h.1 m16 = 128) from by omega) (by rw [km16]; decide)).trans ((h2_q_30.Lg hm16 (show ¬ (h.1 m16 = 12) from by omega) (by rw [km16]; decide)).trans ((h2_q_24.Lg hm16 (show ¬ (h.1 m16 = 12) from by omega) (by rw [km16]; decide)).trans (z_22)))
          have Lp_88_48 : ∀ (n : Nat) (q_41 : Sg), sx_V h L q_41 → sx_fr h L (fun a => h.1 a = 12 ∨ h.1 a = 226 ∨ h.1 a = 227 ∨ h.1 a = 128 ∨ h.1 a = 129) q q_41 → sx_kf a0 [6, 7, 8, 9, 11, 12, 13, 14, 15] q q_41 → mv_N a0 q_41 → mv_F m18 m19 q_41 → mv_U m17 q_41 → q_41.2.2.1 a0 16 = m16 → q_41.2.2.1 a0 17 = m17 → q_41.2.2.1 a0 18 = m18 → q_41.2.2.1 a0 19 = m19 → q_41.2.2.2.2 m16 = (vp_updL (vp_updL (q.2.2.2.2 m16) ((3 + n1) : Int32).toNatClampNeg 0) ((3 + n1) : Int32).toNatClampNeg (q_7.2.1 a0 11)) → (5 - (q_41.2.2.2.1 m18 (3 + n1).toNatClampNeg).toInt : Int).toNat < n → WA l dC dI h L ({ frames := 4, cells := 0, slots := 0, locals := 87 } : Room) 3 Z q_41 88 [(2, .int (3 + n1)), (0, .ref a0), (1, .int n1)] [] := by
            intro n
            induction n with
            | zero =>
              intro q_41 hV_q_41 hF_q_41 hK_q_41 mN_q_41 mF_q_41 mU_q_41 p0_q_41 p1_q_41 p2_q_41 p3_q_41 p4_q_41 hn
              exact absurd hn (Nat.not_lt_zero _)
            | succ n ih_49 =>
              intro q_41 hV_q_41 hF_q_41 hK_q_41 mN_q_41 mF_q_41 mU_q_41 p0_q_41 p1_q_41 p2_q_41 p3_q_41 p4_q_41 hn
              refine wa_aload_n B dX12_readSystem_88 rfl 1 rfl ?_
              refine wa_getI B (C := RX12) (T := TX12) (N := 51) iq_X12_readSystem_X12 ha0 ka0 (by decide) rfl 8 (by decide) (by decide) (by decide +kernel) rfl (by decide) (v := (q_41.1 a0 8)) rfl dX12_readSystem_89 ?_
              refine wa_iconst B 3 dX12_readSystem_92 (by decide) ?_
              refine wa_icmp_ne B 181 dX12_readSystem_93 (by decide) (fun (t_50 : ¬ (q_41.1 a0 8).toInt = 3) => ?_) (fun (t_50 : (q_41.1 a0 8).toInt = 3) => ?_)
              · refine wa_aload_n B dX12_readSystem_181 rfl 1 rfl ?_
                refine wa_bipush B 59 dX12_readSystem_182 (by decide) ?_
                refine wa_callVi B (x := (RX12, TX12, 51)) (As := [.int 59]) (rest := []) (k_X12_isSign l dC dI h L hN q_41 hV_q_41 (a0 := a0) ha0 ka0 59  ) (cwV 1 B.1.2.2.2.2 gX12_readSystem_X12_isSign rfl rfl rfl (by decide +kernel) ⟨Nat.le_of_ble_eq_true rfl, Nat.le_of_ble_eq_true rfl⟩) ha0 ka0 (by decide) rfl rfl rfl (Nat.le_of_ble_eq_true rfl) dX12_readSystem_184 (fun r_52 q_51 w_53 => ?_)
                obtain ⟨ew_53, hw_53⟩ := w_53
                subst ew_53
                refine wa_if_ne B 196 dX12_readSystem_187 (by decide) (fun (t_54 : ¬ r_52.toInt = 0) => ?_) (fun (t_54 : r_52.toInt = 0) => ?_)
                · refine wa_aload_n B dX12_readSystem_196 rfl 1 rfl ?_
                  refine wa_callVv B (x := (RX12, TX12, 51)) (As := []) (rest := []) (k_X12_go l dC dI h L hN q_41 hV_q_41 (a0 := a0) ha0 ka0  ) (cwV 0 B.1.2.2.2.2 gX12_readSystem_X12_go rfl rfl rfl (by decide +kernel) ⟨Nat.le_of_ble_eq_true rfl, Nat.le_of_ble_eq_true rfl⟩) ha0 ka0 (by decide) rfl rfl rfl (Nat.le_of_ble_eq_true rfl) dX12_readSystem_197 (fun q_55 w_56 => ?_)
                  obtain ⟨hV_q_55, h2_q_55, h3_q_55, mN_q_55⟩ := w_56
                  have hF_q_55 : sx_fr h L (fun a => h.1 a = 12 ∨ h.1 a = 226 ∨ h.1 a = 227 ∨ h.1 a = 128 ∨ h.1 a = 129) q q_55 := hF_q_41.tr (h2_q_55.mono (fun a (z : h.1 a = 12) => (show h.1 a = 12 ∨ h.1 a = 226 ∨ h.1 a = 227 ∨ h.1 a = 128 ∨ h.1 a = 129 from by omega)))
                  have hK_q_55 : sx_kf a0 [6, 7, 8, 9, 11, 12, 13, 14, 15] q q_55 := hK_q_41.tr (h3_q_55.mono (by decide))
                  have mF_q_55 : mv_F m18 m19 q_55 := mv_F.eq (h2_q_55.G hm18 (show ¬ (h.1 m18 = 12) from by omega) (by rw [km18]; decide)) (h2_q_55.G hm19 (show ¬ (h.1 m19 = 12) from by omega) (by rw [km19]; decide)) mF_q_41
                  have mU_q_55 : mv_U m17 q_55 := mv_U.eq (h2_q_55.Lg hm17 (show ¬ (h.1 m17 = 12) from by omega) (by rw [km17]; decide)) mU_q_41
                  refine wa_iconst B 1 dX12_readSystem_200 (by decide) ?_
                  exact hret _ _ _ _ dX12_readSystem_201 (Or.inr rfl) ⟨hV_q_55, hF_q_55, hK_q_55, mN_q_55, mF_q_55, mU_q_55, (by have h9 : (1 : Int32).toInt = 1 := rfl; first | omega | (refine ⟨?_, ?_⟩ <;> omega) | trivial)⟩
                · refine wa_aload_n B dX12_readSystem_190 rfl 1 rfl ?_
                  refine wa_iconst B 1 dX12_readSystem_191 (by decide) ?_
                  refine wa_callVi B (x := (RX12, TX12, 51)) (As := [.int 1]) (rest := []) (k_X12_bad l dC dI h L hN q_41 hV_q_41 (a0 := a0) ha0 ka0 1  ) (cwV 1 B.1.2.2.2.2 gX12_readSystem_X12_bad rfl rfl rfl (by decide +kernel) ⟨Nat.le_of_ble_eq_true rfl, Nat.le_of_ble_eq_true rfl⟩) ha0 ka0 (by decide) rfl rfl rfl (Nat.le_of_ble_eq_true rfl) dX12_readSystem_192 (fun r_58 q_57 w_59 => ?_)
                  obtain ⟨hV_q_57, h2_q_57, h3_q_57, hw_59⟩ := w_59
                  have hF_q_57 : sx_fr h L (fun a => h.1 a = 12 ∨ h.1 a = 226 ∨ h.1 a = 227 ∨ h.1 a = 128 ∨ h.1 a = 129) q q_57 := hF_q_41.tr (h2_q_57.mono (fun a (z : h.1 a = 12) => (show h.1 a = 12 ∨ h.1 a = 226 ∨ h.1 a = 227 ∨ h.1 a = 128 ∨ h.1 a = 129 from by omega)))
                  have hK_q_57 : sx_kf a0 [6, 7, 8, 9, 11, 12, 13, 14, 15] q q_57 := hK_q_41.tr (h3_q_57.mono (by decide))
                  have mN_q_57 : mv_N a0 q_57 := mv_N.eq (h3_q_57.1 8 (by decide)) (h3_q_57.2 11 (by decide)) mN_q_41
                  have mF_q_57 : mv_F m18 m19 q_57 := mv_F.eq (h2_q_57.G hm18 (show ¬ (h.1 m18 = 12) from by omega) (by rw [km18]; decide)) (h2_q_57.G hm19 (show ¬ (h.1 m19 = 12) from by omega) (by rw [km19]; decide)) mF_q_41
                  have mU_q_57 : mv_U m17 q_57 := mv_U.eq (h2_q_57.Lg hm17 (show ¬ (h.1 m17 = 12) from by omega) (by rw [km17]; decide)) mU_q_41
                  exact hret _ _ _ _ dX12_readSystem_195 (zx_01 (by omega)) ⟨hV_q_57, hF_q_57, hK_q_57, mN_q_57, mF_q_57, mU_q_57, (by first | omega | (refine ⟨?_, ?_⟩ <;> omega) | trivial)⟩
              · refine wa_aload_n B dX12_readSystem_96 rfl 1 rfl ?_
                refine wa_callVi B (x := (RX12, TX12, 51)) (As := []) (rest := []) (k_X12_isFactor l dC dI h L hN q_41 hV_q_41 (a0 := a0) ha0 ka0  ) (cwV 0 B.1.2.2.2.2 gX12_readSystem_X12_isFactor rfl rfl rfl (by decide +kernel) ⟨Nat.le_of_ble_eq_true rfl, Nat.le_of_ble_eq_true rfl⟩) ha0 ka0 (by decide) rfl rfl rfl (Nat.le_of_ble_eq_true rfl) dX12_readSystem_97 (fun r_61 q_60 w_62 => ?_)
                obtain ⟨ew_62, hw_62⟩ := w_62
                subst ew_62
                refine wa_if_ne B 109 dX12_readSystem_100 (by decide) (fun (t_63 : ¬ r_61.toInt = 0) => ?_) (fun (t_63 : r_61.toInt = 0) => ?_)
                · refine wa_aload_n B dX12_readSystem_109 rfl 1 rfl ?_
                  refine wa_getR B (C := RX12) (T := TX12) (N := 51) iq_X12_readSystem_X12 ha0 ka0 (by decide) rfl 18 (by decide) (by decide) (by decide +kernel) rfl (fun _ _ _ => rfl) (v := m18) p2_q_41 dX12_readSystem_110 ?_
                  refine wa_iload_n B dX12_readSystem_113 rfl 0 rfl ?_
                  refine wa_iaload B hm18 km18 (by decide) (by decide) (show 0 ≤ (3 + n1).toInt by omega) (show (3 + n1).toInt < (h.2.1 m18 : Int) by omega) (v := (q_41.2.2.2.1 m18 ((3 + n1) : Int32).toNatClampNeg)) rfl dX12_readSystem_114 ?_
                  have g_64 : (0 : Int) ≤ ((q_41.2.2.2.1 m18 ((3 + n1) : Int32).toNatClampNeg)).toInt ∧ ((q_41.2.2.2.1 m18 ((3 + n1) : Int32).toNatClampNeg)).toInt ≤ 5 := hV_q_41.cnt hm18 km18 _
                  refine wa_iconst B 5 dX12_readSystem_115 (by decide) ?_
                  refine wa_icmp_ne B 125 dX12_readSystem_116 (by decide) (fun (t_65 : ¬ ((q_41.2.2.2.1 m18 ((3 + n1) : Int32).toNatClampNeg)).toInt = 5) => ?_) (fun (t_65 : ((q_41.2.2.2.1 m18 ((3 + n1) : Int32).toNatClampNeg)).toInt = 5) => ?_)
                  · refine wa_aload_n B dX12_readSystem_125 rfl 1 rfl ?_
                    refine wa_getR B (C := RX12) (T := TX12) (N := 51) iq_X12_readSystem_X12 ha0 ka0 (by decide) rfl 19 (by decide) (by decide) (by decide +kernel) rfl (fun _ _ _ => rfl) (v := m19) p3_q_41 dX12_readSystem_126 ?_
                    refine wa_iconst B 5 dX12_readSystem_129 (by decide) ?_
                    refine wa_iload_n B dX12_readSystem_130 rfl 0 rfl ?_
                    refine wa_imul B dX12_readSystem_131 (fun v_66 ev_66 => ?_)
                    refine wa_aload_n B dX12_readSystem_132 rfl 1 rfl ?_
                    refine wa_getR B (C := RX12) (T := TX12) (N := 51) iq_X12_readSystem_X12 ha0 ka0 (by decide) rfl 18 (by decide) (by decide) (by decide +kernel) rfl (fun _ _ _ => rfl) (v := m18) p2_q_41 dX12_readSystem_133 ?_
                    refine wa_iload_n B dX12_readSystem_136 rfl 0 rfl ?_
                    refine wa_iaload B hm18 km18 (by decide) (by decide) (show 0 ≤ (3 + n1).toInt by omega) (show (3 + n1).toInt < (h.2.1 m18 : Int) by omega) (v := (q_41.2.2.2.1 m18 ((3 + n1) : Int32).toNatClampNeg)) rfl dX12_readSystem_137 ?_
                    refine wa_iadd B dX12_readSystem_138 (fun v_67 ev_67 => ?_)
                    refine wa_aload_n B dX12_readSystem_139 rfl 1 rfl ?_
                    refine wa_getI B (C := RX12) (T := TX12) (N := 51) iq_X12_readSystem_X12 ha0 ka0 (by decide) rfl 13 (by decide) (by decide) (by decide +kernel) rfl (by decide) (v := (q_41.1 a0 13)) rfl dX12_readSystem_140 ?_
                    have g_68 : (-48 : Int) ≤ (q_41.1 a0 13).toInt ∧ (q_41.1 a0 13).toInt ≤ 207 := hV_q_41.int ha0 ka0 13
                    refine wa_iconst B (-1) dX12_readSystem_143 (by decide) ?_
                    refine wa_icmp_ne B 154 dX12_readSystem_144 (by decide) (fun (t_69 : ¬ (q_41.1 a0 13).toInt = (-1)) => ?_) (fun (t_69 : (q_41.1 a0 13).toInt = (-1)) => ?_)
                    · refine wa_bipush B 10 dX12_readSystem_154 (by decide) ?_
                      refine wa_aload_n B dX12_readSystem_156 rfl 1 rfl ?_
                      refine wa_getI B (C := RX12) (T := TX12) (N := 51) iq_X12_readSystem_X12 ha0 ka0 (by decide) rfl 12 (by decide) (by decide) (by decide +kernel) rfl (by decide) (v := (q_41.1 a0 12)) rfl dX12_readSystem_157 ?_
                      have g_70 : (-48 : Int) ≤ (q_41.1 a0 12).toInt ∧ (q_41.1 a0 12).toInt ≤ 207 := hV_q_41.int ha0 ka0 12
                      refine wa_imul B dX12_readSystem_160 (fun v_71 ev_71 => ?_)
                      refine wa_aload_n B dX12_readSystem_161 rfl 1 rfl ?_
                      refine wa_getI B (C := RX12) (T := TX12) (N := 51) iq_X12_readSystem_X12 ha0 ka0 (by decide) rfl 13 (by decide) (by decide) (by decide +kernel) rfl (by decide) (v := (q_41.1 a0 13)) rfl dX12_readSystem_162 ?_
                      refine wa_iadd B dX12_readSystem_165 (fun v_72 ev_72 => ?_)
                      have tv_71 : v_71.toInt = 10 * (q_41.1 a0 12).toInt := by have b1 := zx_bd (q_41.1 a0 12); rw [ev_71]; exact zx_mul (show (-2147483648 : Int) ≤ 10 * (q_41.1 a0 12).toInt by omega) (show 10 * (q_41.1 a0 12).toInt < (2147483648 : Int) by omega)
                      have tv_72 : v_72.toInt = v_71.toInt + (q_41.1 a0 13).toInt := by have b0 := zx_bd v_71; have b1 := zx_bd (q_41.1 a0 13); rw [ev_72]; exact zx_add (show (-2147483648 : Int) ≤ v_71.toInt + (q_41.1 a0 13).toInt by omega) (show v_71.toInt + (q_41.1 a0 13).toInt < (2147483648 : Int) by omega)
                      have tv_66 : v_66.toInt = 5 * (3 + n1).toInt := by have b1 := zx_bd (3 + n1); rw [ev_66]; exact zx_mul (show (-2147483648 : Int) ≤ 5 * (3 + n1).toInt by omega) (show 5 * (3 + n1).toInt < (2147483648 : Int) by omega)
                      have tv_67 : v_67.toInt = v_66.toInt + ((q_41.2.2.2.1 m18 ((3 + n1) : Int32).toNatClampNeg)).toInt := by have b0 := zx_bd v_66; have b1 := zx_bd ((q_41.2.2.2.1 m18 ((3 + n1) : Int32).toNatClampNeg)); rw [ev_67]; exact zx_add (show (-2147483648 : Int) ≤ v_66.toInt + ((q_41.2.2.2.1 m18 ((3 + n1) : Int32).toNatClampNeg)).toInt by omega) (show v_66.toInt + ((q_41.2.2.2.1 m18 ((3 + n1) : Int32).toNatClampNeg)).toInt < (2147483648 : Int) by omega)
                      refine wa_iastore B hm19 km19 (by decide) (by decide) (show 0 ≤ v_67.toInt by omega) (show v_67.toInt < (h.2.1 m19 : Int) by omega) dX12_readSystem_166 (fun q_73 eq_73 => ?_)
                      have hV_q_73 : sx_V h L q_73 := by rw [eq_73]; exact hV_q_41.up1 hm19 km19 trivial
                      have hF_q_73 : sx_fr h L (fun a => h.1 a = 12 ∨ h.1 a = 226 ∨ h.1 a = 227 ∨ h.1 a = 128 ∨ h.1 a = 129) q q_73 := hF_q_41.tr (by rw [eq_73]; exact sx_fr.pG (show h.1 m19 = 100 ∨ (h.1 m19 = 12 ∨ h.1 m19 = 226 ∨ h.1 m19 = 227 ∨ h.1 m19 = 128 ∨ h.1 m19 = 129) from by omega))
                      have z_74 : q_73.2.2.2.1 m19 = (upd (q_41.2.2.2.1 m19) (v_67 : Int32).toNatClampNeg v_72) := by rw [eq_73, sg_pG_e]
                      have z_75 : q_73.2.2.2.1 m19 (v_67 : Int32).toNatClampNeg = v_72 := by rw [eq_73, sg_pG_e]; exact if_pos rfl
                      have hK_q_73 : sx_kf a0 [6, 7, 8, 9, 11, 12, 13, 14, 15] q q_73 := hK_q_41.tr (sx_kf.eq (by rw [eq_73]; rfl) (by rw [eq_73]; rfl))
                      have mN_q_73 : mv_N a0 q_73 := mv_N.eq ((show q_73.1 a0 8 = q_41.1 a0 8 from by rw [eq_73]; rfl)) ((show q_73.2.1 a0 11 = q_41.2.1 a0 11 from by rw [eq_73]; rfl)) mN_q_41
                      have mF_q_73 : mv_F m18 m19 q_73 := mv_f.F (mv_f.new (s0 := (3 + n1 : Int32).toNatClampNeg) (i := (v_67 : Int32).toNatClampNeg) ((mF_q_41).f rfl rfl) (fun j => (hV_q_41.cnt hm18 km18 j : sx_in _ 0 5).2) (by omega) (by omega) (by have a9 := zx_nc (3 + n1); have a8 := zx_nc v_67; omega)) ((show q_73.2.2.2.1 m18 = q_41.2.2.2.1 m18 from by rw [eq_73]; exact sg_pG_a (sx_ka h km18 km19 (by decide)))) (show q_73.2.2.2.1 m19 = _ from by rw [eq_73]; exact sg_pG_e)
                      have mU_q_73 : mv_U m17 q_73 := mv_U.eq ((show q_73.2.2.2.2 m17 = q_41.2.2.2.2 m17 from by rw [eq_73]; rfl)) mU_q_41
                      refine wa_aload_n B dX12_readSystem_167 rfl 1 rfl ?_
                      refine wa_callVv B (x := (RX12, TX12, 51)) (As := []) (rest := []) (k_X12_go l dC dI h L hN q_73 hV_q_73 (a0 := a0) ha0 ka0  ) (cwV 0 B.1.2.2.2.2 gX12_readSystem_X12_go rfl rfl rfl (by decide +kernel) ⟨Nat.le_of_ble_eq_true rfl, Nat.le_of_ble_eq_true rfl⟩) ha0 ka0 (by decide) rfl rfl rfl (Nat.le_of_ble_eq_true rfl) dX12_readSystem_168 (fun q_76 w_77 => ?_)
                      obtain ⟨hV_q_76, h2_q_76, h3_q_76, mN_q_76⟩ := w_77
                      have hF_q_76 : sx_fr h L (fun a => h.1 a = 12 ∨ h.1 a = 226 ∨ h.1 a = 227 ∨ h.1 a = 128 ∨ h.1 a = 129) q q_76 := hF_q_73.tr (h2_q_76.mono (fun a (z : h.1 a = 12) => (show h.1 a = 12 ∨ h.1 a = 226 ∨ h.1 a = 227 ∨ h.1 a = 128 ∨ h.1 a = 129 from by omega)))
                      have hK_q_76 : sx_kf a0 [6, 7, 8, 9, 11, 12, 13, 14, 15] q q_76 := hK_q_73.tr (h3_q_76.mono (by decide))
                      have mF_q_76 : mv_F m18 m19 q_76 := mv_F.eq (h2_q_76.G hm18 (show ¬ (h.1 m18 = 12) from by omega) (by rw [km18]; decide)) (h2_q_76.G hm19 (show ¬ (h.1 m19 = 12) from by omega) (by rw [km19]; decide)) mF_q_73
                      have mU_q_76 : mv_U m17 q_76 := mv_U.eq (h2_q_76.Lg hm17 (show ¬ (h.1 m17 = 12) from by omega) (by rw [km17]; decide)) mU_q_73
                      refine wa_aload_n B dX12_readSystem_171 rfl 1 rfl ?_
                      refine wa_iload_n B dX12_readSystem_172 rfl 2 rfl ?_
                      have z_78 : q_76.2.2.2.1 m18 ((3 + n1) : Int32).toNatClampNeg = (q_41.2.2.2.1 m18 ((3 + n1) : Int32).toNatClampNeg) := (congrFun ((h2_q_76.G hm18 (show ¬ (h.1 m18 = 12) from by omega) (by rw [km18]; decide)).trans ((show q_73.2.2.2.1 m18 = q_41.2.2.2.1 m18 from by rw [eq_73]; exact sg_pG_a (sx_ka h km18 km19 (by decide))))) _).trans rfl
                      have y_79 : (q_76.2.2.2.1 m18 (3 + n1).toNatClampNeg).toInt = ((q_41.2.2.2.1 m18 ((3 + n1) : Int32).toNatClampNeg)).toInt := by rw [z_78]
                      have z_80 : q_76.2.2.1 a0 17 = m17 := (h2_q_76.R ha0 (show ¬ ((h.1 a0 = 12) ∧ (h.1 a0 = 8 ∨ h.1 a0 = 11)) from by omega) 17).trans (((show q_73.2.2.1 a0 17 = q_41.2.2.1 a0 17 from by rw [eq_73]; rfl)).trans (p1_q_41))
                      have z_81 : q_76.2.2.1 a0 18 = m18 := (h2_q_76.R ha0 (show ¬ ((h.1 a0 = 12) ∧ (h.1 a0 = 8 ∨ h.1 a0 = 11)) from by omega) 18).trans (((show q_73.2.2.1 a0 18 = q_41.2.2.1 a0 18 from by rw [eq_73]; rfl)).trans (p2_q_41))
                      have z_82 : q_76.2.2.1 a0 19 = m19 := (h2_q_76.R ha0 (show ¬ ((h.1 a0 = 12) ∧ (h.1 a0 = 8 ∨ h.1 a0 = 11)) from by omega) 19).trans (((show q_73.2.2.1 a0 19 = q_41.2.2.1 a0 19 from by rw [eq_73]; rfl)).trans (p3_q_41))
                      have z_83 : q_76.2.2.2.1 m19 (v_67 : Int32).toNatClampNeg = v_72 := (congrFun (h2_q_76.G hm19 (show ¬ (h.1 m19 = 12) from by omega) (by rw [km19]; decide)) _).trans z_75
                      refine wa_callVi B (x := (RX12, TX12, 51)) (As := [.int n1]) (rest := []) (k_X12_readUnit l dC dI h L hN q_76 hV_q_76 (a0 := a0) ha0 ka0 n1 (m17 := m17) z_80 (m18 := m18) z_81 (m19 := m19) z_82 mN_q_76 mF_q_76 mU_q_76 (by first | assumption | omega | decide) (by first | assumption | omega | decide) (by rw [z_78]; omega) (Or.inr (by rw [z_78]; rw [show 5 * (3 + n1 : Int32).toNatClampNeg + ((q_41.2.2.2.1 m18 ((3 + n1) : Int32).toNatClampNeg)).toInt.toNat = (v_67 : Int32).toNatClampNeg from by have a9 := zx_nc (3 + n1); have a8 := zx_nc v_67; omega, z_83]; omega))) (cwV 1 B.1.2.2.2.2 gX12_readSystem_X12_readUnit rfl rfl rfl (by decide +kernel) ⟨Nat.le_of_ble_eq_true rfl, Nat.le_of_ble_eq_true rfl⟩) ha0 ka0 (by decide) rfl rfl rfl (Nat.le_of_ble_eq_true rfl) dX12_readSystem_173 (fun r_85 q_84 w_86 => ?_)
                      obtain ⟨hV_q_84, h2_q_84, h3_q_84, mN_q_84, mF_q_84, mU_q_84, hw_86⟩ := w_86
                      have hF_q_84 : sx_fr h L (fun a => h.1 a = 12 ∨ h.1 a = 226 ∨ h.1 a = 227 ∨ h.1 a = 128 ∨ h.1 a = 129) q q_84 := hF_q_76.tr (h2_q_84.mono (fun a (z : h.1 a = 12 ∨ h.1 a = 227 ∨ h.1 a = 128) => (show h.1 a = 12 ∨ h.1 a = 226 ∨ h.1 a = 227 ∨ h.1 a = 128 ∨ h.1 a = 129 from by omega)))
                      have hK_q_84 : sx_kf a0 [6, 7, 8, 9, 11, 12, 13, 14, 15] q q_84 := hK_q_76.tr (h3_q_84.mono (by decide))
                      refine wa_if_ne B 88 dX12_readSystem_176 (by decide) (fun (t_87 : ¬ r_85.toInt = 0) => ?_) (fun (t_87 : r_85.toInt = 0) => ?_)
                      · have z_88 : q_84.2.2.1 a0 16 = m16 := (h2_q_84.R ha0 (show ¬ ((h.1 a0 = 12 ∨ h.1 a0 = 227 ∨ h.1 a0 = 128) ∧ (h.1 a0 = 8 ∨ h.1 a0 = 11)) from by omega) 16).trans ((h2_q_76.R ha0 (show ¬ ((h.1 a0 = 12) ∧ (h.1 a0 = 8 ∨ h.1 a0 = 11)) from by omega) 16).trans (((show q_73.2.2.1 a0 16 = q_41.2.2.1 a0 16 from by rw [eq_73]; rfl)).trans (p0_q_41)))
                        have z_89 : q_84.2.2.1 a0 17 = m17 := (h2_q_84.R ha0 (show ¬ ((h.1 a0 = 12 ∨ h.1 a0 = 227 ∨ h.1 a0 = 128) ∧ (h.1 a0 = 8 ∨ h.1 a0 = 11)) from by omega) 17).trans (z_80)
                        have z_90 : q_84.2.2.1 a0 18 = m18 := (h2_q_84.R ha0 (show ¬ ((h.1 a0 = 12 ∨ h.1 a0 = 227 ∨ h.1 a0 = 128) ∧ (h.1 a0 = 8 ∨ h.1 a0 = 11)) from by omega) 18).trans (z_81)
                        have z_91 : q_84.2.2.1 a0 19 = m19 := (h2_q_84.R ha0 (show ¬ ((h.1 a0 = 12 ∨ h.1 a0 = 227 ∨ h.1 a0 = 128) ∧ (h.1 a0 = 8 ∨ h.1 a0 = 11)) from by omega) 19).trans (z_82)
                        have z_92 : q_84.2.2.2.2 m16 = (vp_updL (vp_updL (q.2.2.2.2 m16) ((3 + n1) : Int32).toNatClampNeg 0) ((3 + n1) : Int32).toNatClampNeg (q_7.2.1 a0 11)) := (h2_q_84.Lg hm16 (show ¬ (h.1 m16 = 12 ∨ h.1 m16 = 227 ∨ h.1 m16 = 128) from by omega) (by rw [km16]; decide)).trans ((h2_q_76.Lg hm16 (show ¬ (h.1 m16 = 12) from by omega) (by rw [km16]; decide)).trans (((show q_73.2.2.2.2 m16 = q_41.2.2.2.2 m16 from by rw [eq_73]; rfl)).trans (p4_q_41)))
                        exact ih_49 q_84 hV_q_84 hF_q_84 hK_q_84 mN_q_84 mF_q_84 mU_q_84 z_88 z_89 z_90 z_91 z_92 (show (5 - (q_84.2.2.2.1 m18 (3 + n1).toNatClampNeg).toInt : Int).toNat < _ from by omega)
                      · refine wa_iconst B 0 dX12_readSystem_179 (by decide) ?_
                        exact hret _ _ _ _ dX12_readSystem_180 (Or.inl rfl) ⟨hV_q_84, hF_q_84, hK_q_84, mN_q_84, mF_q_84, mU_q_84, (by have h9 : (0 : Int32).toInt = 0 := rfl; first | omega | (refine ⟨?_, ?_⟩ <;> omega) | trivial)⟩
                    · refine wa_aload_n B dX12_readSystem_147 rfl 1 rfl ?_
                      refine wa_getI B (C := RX12) (T := TX12) (N := 51) iq_X12_readSystem_X12 ha0 ka0 (by decide) rfl 12 (by decide) (by decide) (by decide +kernel) rfl (by decide) (v := (q_41.1 a0 12)) rfl dX12_readSystem_148 ?_
                      have g_93 : (-48 : Int) ≤ (q_41.1 a0 12).toInt ∧ (q_41.1 a0 12).toInt ≤ 207 := hV_q_41.int ha0 ka0 12
                      refine wa_goto B 166 dX12_readSystem_151 (by decide) ?_
                      have tv_66 : v_66.toInt = 5 * (3 + n1).toInt := by have b1 := zx_bd (3 + n1); rw [ev_66]; exact zx_mul (show (-2147483648 : Int) ≤ 5 * (3 + n1).toInt by omega) (show 5 * (3 + n1).toInt < (2147483648 : Int) by omega)
                      have tv_67 : v_67.toInt = v_66.toInt + ((q_41.2.2.2.1 m18 ((3 + n1) : Int32).toNatClampNeg)).toInt := by have b0 := zx_bd v_66; have b1 := zx_bd ((q_41.2.2.2.1 m18 ((3 + n1) : Int32).toNatClampNeg)); rw [ev_67]; exact zx_add (show (-2147483648 : Int) ≤ v_66.toInt + ((q_41.2.2.2.1 m18 ((3 + n1) : Int32).toNatClampNeg)).toInt by omega) (show v_66.toInt + ((q_41.2.2.2.1 m18 ((3 + n1) : Int32).toNatClampNeg)).toInt < (2147483648 : Int) by omega)
                      refine wa_iastore B hm19 km19 (by decide) (by decide) (show 0 ≤ v_67.toInt by omega) (show v_67.toInt < (h.2.1 m19 : Int) by omega) dX12_readSystem_166 (fun q_94 eq_94 => ?_)
                      have hV_q_94 : sx_V h L q_94 := by rw [eq_94]; exact hV_q_41.up1 hm19 km19 trivial
                      have hF_q_94 : sx_fr h L (fun a => h.1 a = 12 ∨ h.1 a = 226 ∨ h.1 a = 227 ∨ h.1 a = 128 ∨ h.1 a = 129) q q_94 := hF_q_41.tr (by rw [eq_94]; exact sx_fr.pG (show h.1 m19 = 100 ∨ (h.1 m19 = 12 ∨ h.1 m19 = 226 ∨ h.1 m19 = 227 ∨ h.1 m19 = 128 ∨ h.1 m19 = 129) from by omega))
                      have z_95 : q_94.2.2.2.1 m19 = (upd (q_41.2.2.2.1 m19) (v_67 : Int32).toNatClampNeg (q_41.1 a0 12)) := by rw [eq_94, sg_pG_e]
                      have z_96 : q_94.2.2.2.1 m19 (v_67 : Int32).toNatClampNeg = (q_41.1 a0 12) := by rw [eq_94, sg_pG_e]; exact if_pos rfl
                      have hK_q_94 : sx_kf a0 [6, 7, 8, 9, 11, 12, 13, 14, 15] q q_94 := hK_q_41.tr (sx_kf.eq (by rw [eq_94]; rfl) (by rw [eq_94]; rfl))
                      have mN_q_94 : mv_N a0 q_94 := mv_N.eq ((show q_94.1 a0 8 = q_41.1 a0 8 from by rw [eq_94]; rfl)) ((show q_94.2.1 a0 11 = q_41.2.1 a0 11 from by rw [eq_94]; rfl)) mN_q_41
                      have mF_q_94 : mv_F m18 m19 q_94 := mv_f.F (mv_f.new (s0 := (3 + n1 : Int32).toNatClampNeg) (i := (v_67 : Int32).toNatClampNeg) ((mF_q_41).f rfl rfl) (fun j => (hV_q_41.cnt hm18 km18 j : sx_in _ 0 5).2) (by omega) (by omega) (by have a9 := zx_nc (3 + n1); have a8 := zx_nc v_67; omega)) ((show q_94.2.2.2.1 m18 = q_41.2.2.2.1 m18 from by rw [eq_94]; exact sg_pG_a (sx_ka h km18 km19 (by decide)))) (show q_94.2.2.2.1 m19 = _ from by rw [eq_94]; exact sg_pG_e)
                      have mU_q_94 : mv_U m17 q_94 := mv_U.eq ((show q_94.2.2.2.2 m17 = q_41.2.2.2.2 m17 from by rw [eq_94]; rfl)) mU_q_41
                      refine wa_aload_n B dX12_readSystem_167 rfl 1 rfl ?_
                      refine wa_callVv B (x := (RX12, TX12, 51)) (As := []) (rest := []) (k_X12_go l dC dI h L hN q_94 hV_q_94 (a0 := a0) ha0 ka0  ) (cwV 0 B.1.2.2.2.2 gX12_readSystem_X12_go rfl rfl rfl (by decide +kernel) ⟨Nat.le_of_ble_eq_true rfl, Nat.le_of_ble_eq_true rfl⟩) ha0 ka0 (by decide) rfl rfl rfl (Nat.le_of_ble_eq_true rfl) dX12_readSystem_168 (fun q_97 w_98 => ?_)
                      obtain ⟨hV_q_97, h2_q_97, h3_q_97, mN_q_97⟩ := w_98
                      have hF_q_97 : sx_fr h L (fun a => h.1 a = 12 ∨ h.1 a = 226 ∨ h.1 a = 227 ∨ h.1 a = 128 ∨ h.1 a = 129) q q_97 := hF_q_94.tr (h2_q_97.mono (fun a (z : h.1 a = 12) => (show h.1 a = 12 ∨ h.1 a = 226 ∨ h.1 a = 227 ∨ h.1 a = 128 ∨ h.1 a = 129 from by omega)))
                      have hK_q_97 : sx_kf a0 [6, 7, 8, 9, 11, 12, 13, 14, 15] q q_97 := hK_q_94.tr (h3_q_97.mono (by decide))
                      have mF_q_97 : mv_F m18 m19 q_97 := mv_F.eq (h2_q_97.G hm18 (show ¬ (h.1 m18 = 12) from by omega) (by rw [km18]; decide)) (h2_q_97.G hm19 (show ¬ (h.1 m19 = 12) from by omega) (by rw [km19]; decide)) mF_q_94
                      have mU_q_97 : mv_U m17 q_97 := mv_U.eq (h2_q_97.Lg hm17 (show ¬ (h.1 m17 = 12) from by omega) (by rw [km17]; decide)) mU_q_94
                      refine wa_aload_n B dX12_readSystem_171 rfl 1 rfl ?_
                      refine wa_iload_n B dX12_readSystem_172 rfl 2 rfl ?_
                      have z_99 : q_97.2.2.2.1 m18 ((3 + n1) : Int32).toNatClampNeg = (q_41.2.2.2.1 m18 ((3 + n1) : Int32).toNatClampNeg) := (congrFun ((h2_q_97.G hm18 (show ¬ (h.1 m18 = 12) from by omega) (by rw [km18]; decide)).trans ((show q_94.2.2.2.1 m18 = q_41.2.2.2.1 m18 from by rw [eq_94]; exact sg_pG_a (sx_ka h km18 km19 (by decide))))) _).trans rfl
                      have y_100 : (q_97.2.2.2.1 m18 (3 + n1).toNatClampNeg).toInt = ((q_41.2.2.2.1 m18 ((3 + n1) : Int32).toNatClampNeg)).toInt := by rw [z_99]
                      have z_101 : q_97.2.2.1 a0 17 = m17 := (h2_q_97.R ha0 (show ¬ ((h.1 a0 = 12) ∧ (h.1 a0 = 8 ∨ h.1 a0 = 11)) from by omega) 17).trans (((show q_94.2.2.1 a0 17 = q_41.2.2.1 a0 17 from by rw [eq_94]; rfl)).trans (p1_q_41))
                      have z_102 : q_97.2.2.1 a0 18 = m18 := (h2_q_97.R ha0 (show ¬ ((h.1 a0 = 12) ∧ (h.1 a0 = 8 ∨ h.1 a0 = 11)) from by omega) 18).trans (((show q_94.2.2.1 a0 18 = q_41.2.2.1 a0 18 from by rw [eq_94]; rfl)).trans (p2_q_41))
                      have z_103 : q_97.2.2.1 a0 19 = m19 := (h2_q_97.R ha0 (show ¬ ((h.1 a0 = 12) ∧ (h.1 a0 = 8 ∨ h.1 a0 = 11)) from by omega) 19).trans (((show q_94.2.2.1 a0 19 = q_41.2.2.1 a0 19 from by rw [eq_94]; rfl)).trans (p3_q_41))
                      have z_104 : q_97.2.2.2.1 m19 (v_67 : Int32).toNatClampNeg = (q_41.1 a0 12) := (congrFun (h2_q_97.G hm19 (show ¬ (h.1 m19 = 12) from by omega) (by rw [km19]; decide)) _).trans z_96
                      refine wa_callVi B (x := (RX12, TX12, 51)) (As := [.int n1]) (rest := []) (k_X12_readUnit l dC dI h L hN q_97 hV_q_97 (a0 := a0) ha0 ka0 n1 (m17 := m17) z_101 (m18 := m18) z_102 (m19 := m19) z_103 mN_q_97 mF_q_97 mU_q_97 (by first | assumption | omega | decide) (by first | assumption | omega | decide) (by rw [z_99]; omega) (Or.inr (by rw [z_99]; rw [show 5 * (3 + n1 : Int32).toNatClampNeg + ((q_41.2.2.2.1 m18 ((3 + n1) : Int32).toNatClampNeg)).toInt.toNat = (v_67 : Int32).toNatClampNeg from by have a9 := zx_nc (3 + n1); have a8 := zx_nc v_67; omega, z_104]; omega))) (cwV 1 B.1.2.2.2.2 gX12_readSystem_X12_readUnit rfl rfl rfl (by decide +kernel) ⟨Nat.le_of_ble_eq_true rfl, Nat.le_of_ble_eq_true rfl⟩) ha0 ka0 (by decide) rfl rfl rfl (Nat.le_of_ble_eq_true rfl) dX12_readSystem_173 (fun r_106 q_105 w_107 => ?_)
                      obtain ⟨hV_q_105, h2_q_105, h3_q_105, mN_q_105, mF_q_105, mU_q_105, hw_107⟩ := w_107
                      have hF_q_105 : sx_fr h L (fun a => h.1 a = 12 ∨ h.1 a = 226 ∨ h.1 a = 227 ∨ h.1 a = 128 ∨ h.1 a = 129) q q_105 := hF_q_97.tr (h2_q_105.mono (fun a (z : h.1 a = 12 ∨ h.1 a = 227 ∨ h.1 a = 128) => (show h.1 a = 12 ∨ h.1 a = 226 ∨ h.1 a = 227 ∨ h.1 a = 128 ∨ h.1 a = 129 from by omega)))
                      have hK_q_105 : sx_kf a0 [6, 7, 8, 9, 11, 12, 13, 14, 15] q q_105 := hK_q_97.tr (h3_q_105.mono (by decide))
                      refine wa_if_ne B 88 dX12_readSystem_176 (by decide) (fun (t_108 : ¬ r_106.toInt = 0) => ?_) (fun (t_108 : r_106.toInt = 0) => ?_)
                      · have z_109 : q_105.2.2.1 a0 16 = m16 := (h2_q_105.R ha0 (show ¬ ((h.1 a0 = 12 ∨ h.1 a0 = 227 ∨ h.1 a0 = 128) ∧ (h.1 a0 = 8 ∨ h.1 a0 = 11)) from by omega) 16).trans ((h2_q_97.R ha0 (show ¬ ((h.1 a0 = 12) ∧ (h.1 a0 = 8 ∨ h.1 a0 = 11)) from by omega) 16).trans (((show q_94.2.2.1 a0 16 = q_41.2.2.1 a0 16 from by rw [eq_94]; rfl)).trans (p0_q_41)))
                        have z_110 : q_105.2.2.1 a0 17 = m17 := (h2_q_105.R ha0 (show ¬ ((h.1 a0 = 12 ∨ h.1 a0 = 227 ∨ h.1 a0 = 128) ∧ (h.1 a0 = 8 ∨ h.1 a0 = 11)) from by omega) 17).trans (z_101)
                        have z_111 : q_105.2.2.1 a0 18 = m18 := (h2_q_105.R ha0 (show ¬ ((h.1 a0 = 12 ∨ h.1 a0 = 227 ∨ h.1 a0 = 128) ∧ (h.1 a0 = 8 ∨ h.1 a0 = 11)) from by omega) 18).trans (z_102)
                        have z_112 : q_105.2.2.1 a0 19 = m19 := (h2_q_105.R ha0 (show ¬ ((h.1 a0 = 12 ∨ h.1 a0 = 227 ∨ h.1 a0 = 128) ∧ (h.1 a0 = 8 ∨ h.1 a0 = 11)) from by omega) 19).trans (z_103)
                        have z_113 : q_105.2.2.2.2 m16 = (vp_updL (vp_updL (q.2.2.2.2 m16) ((3 + n1) : Int32).toNatClampNeg 0) ((3 + n1) : Int32).toNatClampNeg (q_7.2.1 a0 11)) := (h2_q_105.Lg hm16 (show ¬ (h.1 m16 = 12 ∨ h.1 m16 = 227 ∨ h.1 m16 = 128) from by omega) (by rw [km16]; decide)).trans ((h2_q_97.Lg hm16 (show ¬ (h.1 m16 = 12) from by omega) (by rw [km16]; decide)).trans (((show q_94.2.2.2.2 m16 = q_41.2.2.2.2 m16 from by rw [eq_94]; rfl)).trans (p4_q_41)))
                        exact ih_49 q_105 hV_q_105 hF_q_105 hK_q_105 mN_q_105 mF_q_105 mU_q_105 z_109 z_110 z_111 z_112 z_113 (show (5 - (q_105.2.2.2.1 m18 (3 + n1).toNatClampNeg).toInt : Int).toNat < _ from by omega)
                      · refine wa_iconst B 0 dX12_readSystem_179 (by decide) ?_
                        exact hret _ _ _ _ dX12_readSystem_180 (Or.inl rfl) ⟨hV_q_105, hF_q_105, hK_q_105, mN_q_105, mF_q_105, mU_q_105, (by have h9 : (0 : Int32).toInt = 0 := rfl; first | omega | (refine ⟨?_, ?_⟩ <;> omega) | trivial)⟩
                  · refine wa_aload_n B dX12_readSystem_119 rfl 1 rfl ?_
                    refine wa_iconst B 4 dX12_readSystem_120 (by decide) ?_
                    refine wa_callVi B (x := (RX12, TX12, 51)) (As := [.int 4]) (rest := []) (k_X12_bad l dC dI h L hN q_41 hV_q_41 (a0 := a0) ha0 ka0 4  ) (cwV 1 B.1.2.2.2.2 gX12_readSystem_X12_bad rfl rfl rfl (by decide +kernel) ⟨Nat.le_of_ble_eq_true rfl, Nat.le_of_ble_eq_true rfl⟩) ha0 ka0 (by decide) rfl rfl rfl (Nat.le_of_ble_eq_true rfl) dX12_readSystem_121 (fun r_115 q_114 w_116 => ?_)
                    obtain ⟨hV_q_114, h2_q_114, h3_q_114, hw_116⟩ := w_116
                    have hF_q_114 : sx_fr h L (fun a => h.1 a = 12 ∨ h.1 a = 226 ∨ h.1 a = 227 ∨ h.1 a = 128 ∨ h.1 a = 129) q q_114 := hF_q_41.tr (h2_q_114.mono (fun a (z : h.1 a = 12) => (show h.1 a = 12 ∨ h.1 a = 226 ∨ h.1 a = 227 ∨ h.1 a = 128 ∨ h.1 a = 129 from by omega)))
                    have hK_q_114 : sx_kf a0 [6, 7, 8, 9, 11, 12, 13, 14, 15] q q_114 := hK_q_41.tr (h3_q_114.mono (by decide))
                    have mN_q_114 : mv_N a0 q_114 := mv_N.eq (h3_q_114.1 8 (by decide)) (h3_q_114.2 11 (by decide)) mN_q_41
                    have mF_q_114 : mv_F m18 m19 q_114 := mv_F.eq (h2_q_114.G hm18 (show ¬ (h.1 m18 = 12) from by omega) (by rw [km18]; decide)) (h2_q_114.G hm19 (show ¬ (h.1 m19 = 12) from by omega) (by rw [km19]; decide)) mF_q_41
                    have mU_q_114 : mv_U m17 q_114 := mv_U.eq (h2_q_114.Lg hm17 (show ¬ (h.1 m17 = 12) from by omega) (by rw [km17]; decide)) mU_q_41
                    exact hret _ _ _ _ dX12_readSystem_124 (zx_01 (by omega)) ⟨hV_q_114, hF_q_114, hK_q_114, mN_q_114, mF_q_114, mU_q_114, (by first | omega | (refine ⟨?_, ?_⟩ <;> omega) | trivial)⟩
                · refine wa_aload_n B dX12_readSystem_103 rfl 1 rfl ?_
                  refine wa_iconst B 2 dX12_readSystem_104 (by decide) ?_
                  refine wa_callVi B (x := (RX12, TX12, 51)) (As := [.int 2]) (rest := []) (k_X12_bad l dC dI h L hN q_41 hV_q_41 (a0 := a0) ha0 ka0 2  ) (cwV 1 B.1.2.2.2.2 gX12_readSystem_X12_bad rfl rfl rfl (by decide +kernel) ⟨Nat.le_of_ble_eq_true rfl, Nat.le_of_ble_eq_true rfl⟩) ha0 ka0 (by decide) rfl rfl rfl (Nat.le_of_ble_eq_true rfl) dX12_readSystem_105 (fun r_118 q_117 w_119 => ?_)
                  obtain ⟨hV_q_117, h2_q_117, h3_q_117, hw_119⟩ := w_119
                  have hF_q_117 : sx_fr h L (fun a => h.1 a = 12 ∨ h.1 a = 226 ∨ h.1 a = 227 ∨ h.1 a = 128 ∨ h.1 a = 129) q q_117 := hF_q_41.tr (h2_q_117.mono (fun a (z : h.1 a = 12) => (show h.1 a = 12 ∨ h.1 a = 226 ∨ h.1 a = 227 ∨ h.1 a = 128 ∨ h.1 a = 129 from by omega)))
                  have hK_q_117 : sx_kf a0 [6, 7, 8, 9, 11, 12, 13, 14, 15] q q_117 := hK_q_41.tr (h3_q_117.mono (by decide))
                  have mN_q_117 : mv_N a0 q_117 := mv_N.eq (h3_q_117.1 8 (by decide)) (h3_q_117.2 11 (by decide)) mN_q_41
                  have mF_q_117 : mv_F m18 m19 q_117 := mv_F.eq (h2_q_117.G hm18 (show ¬ (h.1 m18 = 12) from by omega) (by rw [km18]; decide)) (h2_q_117.G hm19 (show ¬ (h.1 m19 = 12) from by omega) (by rw [km19]; decide)) mF_q_41
                  have mU_q_117 : mv_U m17 q_117 := mv_U.eq (h2_q_117.Lg hm17 (show ¬ (h.1 m17 = 12) from by omega) (by rw [km17]; decide)) mU_q_41
                  exact hret _ _ _ _ dX12_readSystem_108 (zx_01 (by omega)) ⟨hV_q_117, hF_q_117, hK_q_117, mN_q_117, mF_q_117, mU_q_117, (by first | omega | (refine ⟨?_, ?_⟩ <;> omega) | trivial)⟩
          exact Lp_88_48 _ q_37 hV_q_37 hF_q_37 hK_q_37 mN_q_37 mF_q_37 mU_q_37 z_42 z_43 z_44 z_45 z_47 (Nat.lt_succ_self _)
        · refine wa_iconst B 0 dX12_readSystem_86 (by decide) ?_
          exact hret _ _ _ _ dX12_readSystem_87 (Or.inl rfl) ⟨hV_q_37, hF_q_37, hK_q_37, mN_q_37, mF_q_37, mU_q_37, (by have h9 : (0 : Int32).toInt = 0 := rfl; first | omega | (refine ⟨?_, ?_⟩ <;> omega) | trivial)⟩
      · refine wa_aload_n B dX12_readSystem_68 rfl 1 rfl ?_
        refine wa_iconst B 1 dX12_readSystem_69 (by decide) ?_
        refine wa_callVi B (x := (RX12, TX12, 51)) (As := [.int 1]) (rest := []) (k_X12_bad l dC dI h L hN q_24 hV_q_24 (a0 := a0) ha0 ka0 1  ) (cwV 1 B.1.2.2.2.2 gX12_readSystem_X12_bad rfl rfl rfl (by decide +kernel) ⟨Nat.le_of_ble_eq_true rfl, Nat.le_of_ble_eq_true rfl⟩) ha0 ka0 (by decide) rfl rfl rfl (Nat.le_of_ble_eq_true rfl) dX12_readSystem_70 (fun r_121 q_120 w_122 => ?_)
        obtain ⟨hV_q_120, h2_q_120, h3_q_120, hw_122⟩ := w_122
        have hF_q_120 : sx_fr h L (fun a => h.1 a = 12 ∨ h.1 a = 226 ∨ h.1 a = 227 ∨ h.1 a = 128 ∨ h.1 a = 129) q q_120 := hF_q_24.tr (h2_q_120.mono (fun a (z : h.1 a = 12) => (show h.1 a = 12 ∨ h.1 a = 226 ∨ h.1 a = 227 ∨ h.1 a = 128 ∨ h.1 a = 129 from by omega)))
        have hK_q_120 : sx_kf a0 [6, 7, 8, 9, 11, 12, 13, 14, 15] q q_120 := hK_q_24.tr (h3_q_120.mono (by decide))
        have mN_q_120 : mv_N a0 q_120 := mv_N.eq (h3_q_120.1 8 (by decide)) (h3_q_120.2 11 (by decide)) mN_q_24
        have mF_q_120 : mv_F m18 m19 q_120 := mv_F.eq (h2_q_120.G hm18 (show ¬ (h.1 m18 = 12) from by omega) (by rw [km18]; decide)) (h2_q_120.G hm19 (show ¬ (h.1 m19 = 12) from by omega) (by rw [km19]; decide)) mF_q_24
        have mU_q_120 : mv_U m17 q_120 := mv_U.eq (h2_q_120.Lg hm17 (show ¬ (h.1 m17 = 12) from by omega) (by rw [km17]; decide)) mU_q_24
        exact hret _ _ _ _ dX12_readSystem_73 (zx_01 (by omega)) ⟨hV_q_120, hF_q_120, hK_q_120, mN_q_120, mF_q_120, mU_q_120, (by first | omega | (refine ⟨?_, ?_⟩ <;> omega) | trivial)⟩
    · refine wa_aload_n B dX12_readSystem_39 rfl 1 rfl ?_
      refine wa_iconst B 3 dX12_readSystem_40 (by decide) ?_
      refine wa_callVi B (x := (RX12, TX12, 51)) (As := [.int 3]) (rest := []) (k_X12_bad l dC dI h L hN q_7 hV_q_7 (a0 := a0) ha0 ka0 3  ) (cwV 1 B.1.2.2.2.2 gX12_readSystem_X12_bad rfl rfl rfl (by decide +kernel) ⟨Nat.le_of_ble_eq_true rfl, Nat.le_of_ble_eq_true rfl⟩) ha0 ka0 (by decide) rfl rfl rfl (Nat.le_of_ble_eq_true rfl) dX12_readSystem_41 (fun r_124 q_123 w_125 => ?_)
      obtain ⟨hV_q_123, h2_q_123, h3_q_123, hw_125⟩ := w_125
      have hF_q_123 : sx_fr h L (fun a => h.1 a = 12 ∨ h.1 a = 226 ∨ h.1 a = 227 ∨ h.1 a = 128 ∨ h.1 a = 129) q q_123 := hF_q_7.tr (h2_q_123.mono (fun a (z : h.1 a = 12) => (show h.1 a = 12 ∨ h.1 a = 226 ∨ h.1 a = 227 ∨ h.1 a = 128 ∨ h.1 a = 129 from by omega)))
      have hK_q_123 : sx_kf a0 [6, 7, 8, 9, 11, 12, 13, 14, 15] q q_123 := hK_q_7.tr (h3_q_123.mono (by decide))
      have mN_q_123 : mv_N a0 q_123 := mv_N.eq (h3_q_123.1 8 (by decide)) (h3_q_123.2 11 (by decide)) mN_q_7
      have mF_q_123 : mv_F m18 m19 q_123 := mv_F.eq (h2_q_123.G hm18 (show ¬ (h.1 m18 = 12) from by omega) (by rw [km18]; decide)) (h2_q_123.G hm19 (show ¬ (h.1 m19 = 12) from by omega) (by rw [km19]; decide)) mF_q_7
      have mU_q_123 : mv_U m17 q_123 := mv_U.eq (h2_q_123.Lg hm17 (show ¬ (h.1 m17 = 12) from by omega) (by rw [km17]; decide)) mU_q_7
      exact hret _ _ _ _ dX12_readSystem_44 (zx_01 (by omega)) ⟨hV_q_123, hF_q_123, hK_q_123, mN_q_123, mF_q_123, mU_q_123, (by first | omega | (refine ⟨?_, ?_⟩ <;> omega) | trivial)⟩
  · refine wa_aload_n B dX12_readSystem_25 rfl 1 rfl ?_
    refine wa_iconst B 1 dX12_readSystem_26 (by decide) ?_
    refine wa_callVi B (x := (RX12, TX12, 51)) (As := [.int 1]) (rest := []) (k_X12_bad l dC dI h L hN q_7 hV_q_7 (a0 := a0) ha0 ka0 1  ) (cwV 1 B.1.2.2.2.2 gX12_readSystem_X12_bad rfl rfl rfl (by decide +kernel) ⟨Nat.le_of_ble_eq_true rfl, Nat.le_of_ble_eq_true rfl⟩) ha0 ka0 (by decide) rfl rfl rfl (Nat.le_of_ble_eq_true rfl) dX12_readSystem_27 (fun r_127 q_126 w_128 => ?_)
    obtain ⟨hV_q_126, h2_q_126, h3_q_126, hw_128⟩ := w_128
    have hF_q_126 : sx_fr h L (fun a => h.1 a = 12 ∨ h.1 a = 226 ∨ h.1 a = 227 ∨ h.1 a = 128 ∨ h.1 a = 129) q q_126 := hF_q_7.tr (h2_q_126.mono (fun a (z : h.1 a = 12) => (show h.1 a = 12 ∨ h.1 a = 226 ∨ h.1 a = 227 ∨ h.1 a = 128 ∨ h.1 a = 129 from by omega)))
    have hK_q_126 : sx_kf a0 [6, 7, 8, 9, 11, 12, 13, 14, 15] q q_126 := hK_q_7.tr (h3_q_126.mono (by decide))
    have mN_q_126 : mv_N a0 q_126 := mv_N.eq (h3_q_126.1 8 (by decide)) (h3_q_126.2 11 (by decide)) mN_q_7
    have mF_q_126 : mv_F m18 m19 q_126 := mv_F.eq (h2_q_126.G hm18 (show ¬ (h.1 m18 = 12) from by omega) (by rw [km18]; decide)) (h2_q_126.G hm19 (show ¬ (h.1 m19 = 12) from by omega) (by rw [km19]; decide)) mF_q_7
    have mU_q_126 : mv_U m17 q_126 := mv_U.eq (h2_q_126.Lg hm17 (show ¬ (h.1 m17 = 12) from by omega) (by rw [km17]; decide)) mU_q_7
    exact hret _ _ _ _ dX12_readSystem_30 (zx_01 (by omega)) ⟨hV_q_126, hF_q_126, hK_q_126, mN_q_126, mF_q_126, mU_q_126, (by first | omega | (refine ⟨?_, ?_⟩ <;> omega) | trivial)⟩
theorem iq_X12_systems_X12 : ∀ w ∈ wsX120, w ∈ wsX12_systems := fun _ h => List.mem_cons_of_mem _ (List.mem_append_right _ h)
set_option maxHeartbeats 4000000 in
set_option maxRecDepth 100000 in
theorem k_X12_systems (l : Launch) (dC : Nat → ClassId) (dI : Nat → Nat → Nat) (h : Sh) (L : List Nat) (hN : sx_nd L) (q : Sg) (hV : sx_V h L q) {a0 : Nat} (ha0 : a0 ∈ L) (ka0 : h.1 a0 = 12) {m16 : Nat} (em16 : q.2.2.1 a0 16 = m16) {m17 : Nat} (em17 : q.2.2.1 a0 17 = m17) {m18 : Nat} (em18 : q.2.2.1 a0 18 = m18) {m19 : Nat} (em19 : q.2.2.1 a0 19 = m19) (mN : mv_N a0 q) (mF : mv_F m18 m19 q) (mU : mv_U m17 q)   : CMi l dC dI h L yX12_systems wsX12_systems ({ frames := 5, cells := 0, slots := 0, locals := 110 } : Room) q [.ref a0] (fun r q' => sx_V h L q' ∧ sx_fr h L (fun a => h.1 a = 12 ∨ h.1 a = 113 ∨ h.1 a = 226 ∨ h.1 a = 227 ∨ h.1 a = 128 ∨ h.1 a = 129) q q' ∧ sx_kf a0 [0, 14, 15, 2, 4, 5, 10, 20, 31, 49, 50, 6, 7, 8, 9, 11, 12, 13] q q' ∧ mv_N a0 q' ∧ mv_F m18 m19 q' ∧ mv_U m17 q' ∧ ((q'.1 a0 2).toInt = 0)) := by
  refine cm_i (cc := cX12_systems) (mL := 4) (own := RX12) hN (by decide) rfl rfl (Nat.le_of_ble_eq_true rfl) (fun Z B hret => ?_)
  have hF : sx_fr h L (fun a => h.1 a = 12 ∨ h.1 a = 113 ∨ h.1 a = 226 ∨ h.1 a = 227 ∨ h.1 a = 128 ∨ h.1 a = 129) q q := sx_fr.rf
  have hK : sx_kf a0 [0, 14, 15, 2, 4, 5, 10, 20, 31, 49, 50, 6, 7, 8, 9, 11, 12, 13] q q := sx_kf.rf
  obtain ⟨hm16, km16, lm16⟩ : m16 ∈ L ∧ h.1 m16 = 226 ∧ h.2.1 m16 = 6 := by obtain ⟨r9, e9, z1, z2, z3⟩ := hV.refn (t := 226) (n := 6) ha0 ka0 16 rfl (by decide) rfl (by decide); rw [← em16, e9]; exact ⟨z1, z2, z3⟩
  obtain ⟨hm17, km17, lm17⟩ : m17 ∈ L ∧ h.1 m17 = 227 ∧ h.2.1 m17 = 30 := by obtain ⟨r9, e9, z1, z2, z3⟩ := hV.refn (t := 227) (n := 30) ha0 ka0 17 rfl (by decide) rfl (by decide); rw [← em17, e9]; exact ⟨z1, z2, z3⟩
  obtain ⟨hm18, km18, lm18⟩ : m18 ∈ L ∧ h.1 m18 = 128 ∧ h.2.1 m18 = 6 := by obtain ⟨r9, e9, z1, z2, z3⟩ := hV.refn (t := 128) (n := 6) ha0 ka0 18 rfl (by decide) rfl (by decide); rw [← em18, e9]; exact ⟨z1, z2, z3⟩
  obtain ⟨hm19, km19, lm19⟩ : m19 ∈ L ∧ h.1 m19 = 129 ∧ h.2.1 m19 = 30 := by obtain ⟨r9, e9, z1, z2, z3⟩ := hV.refn (t := 129) (n := 30) ha0 ka0 19 rfl (by decide) rfl (by decide); rw [← em19, e9]; exact ⟨z1, z2, z3⟩
  show WA l dC dI h L ({ frames := 5, cells := 0, slots := 0, locals := 110 } : Room) 4 Z q 0 [(0, .ref a0)] []
  refine wa_aload_n B dX12_systems_0 rfl 0 rfl ?_
  refine wa_iconst B 0 dX12_systems_1 (by decide) ?_
  refine wa_putI B (C := RX12) (T := TX12) (N := 51) iq_X12_systems_X12 ha0 ka0 (by decide) rfl 0 (by decide) (by decide) (by decide +kernel) rfl (by decide) (v := 0) (ty := .int) tyX12 tyX12_ok nmX12 rfl (by decide +kernel) rfl rfl dX12_systems_2 (fun q_1 eq_1 => ?_)
  have hV_q_1 : sx_V h L q_1 := by rw [eq_1]; exact hV.pI ka0 trivial
  have hF_q_1 : sx_fr h L (fun a => h.1 a = 12 ∨ h.1 a = 113 ∨ h.1 a = 226 ∨ h.1 a = 227 ∨ h.1 a = 128 ∨ h.1 a = 129) q q_1 := hF.tr (by rw [eq_1]; exact sx_fr.pI (show h.1 a0 = 12 ∨ h.1 a0 = 113 ∨ h.1 a0 = 226 ∨ h.1 a0 = 227 ∨ h.1 a0 = 128 ∨ h.1 a0 = 129 from by omega))
  have z_2 : q_1.1 a0 0 = 0 := by rw [eq_1]; exact sg_pI_e
  have hK_q_1 : sx_kf a0 [0, 14, 15, 2, 4, 5, 10, 20, 31, 49, 50, 6, 7, 8, 9, 11, 12, 13] q q_1 := hK.tr (by rw [eq_1]; exact sx_kf.pI (by decide))
  have mN_q_1 : mv_N a0 q_1 := mv_N.eq ((show q_1.1 a0 8 = q.1 a0 8 from by rw [eq_1]; exact sg_pI_k (by decide))) ((show q_1.2.1 a0 11 = q.2.1 a0 11 from by rw [eq_1]; rfl)) mN
  have mF_q_1 : mv_F m18 m19 q_1 := mv_F.eq ((show q_1.2.2.2.1 m18 = q.2.2.2.1 m18 from by rw [eq_1]; rfl)) ((show q_1.2.2.2.1 m19 = q.2.2.2.1 m19 from by rw [eq_1]; rfl)) mF
  have mU_q_1 : mv_U m17 q_1 := mv_U.eq ((show q_1.2.2.2.2 m17 = q.2.2.2.2 m17 from by rw [eq_1]; rfl)) mU
  refine wa_aload_n B dX12_systems_5 rfl 0 rfl ?_
  refine wa_iconst B 0 dX12_systems_6 (by decide) ?_
  refine wa_putI B (C := RX12) (T := TX12) (N := 51) iq_X12_systems_X12 ha0 ka0 (by decide) rfl 14 (by decide) (by decide) (by decide +kernel) rfl (by decide) (v := 0) (ty := .int) tyX12 tyX12_ok nmX12 rfl (by decide +kernel) rfl rfl dX12_systems_7 (fun q_3 eq_3 => ?_)
  have hV_q_3 : sx_V h L q_3 := by rw [eq_3]; exact hV_q_1.pI ka0 trivial
  have hF_q_3 : sx_fr h L (fun a => h.1 a = 12 ∨ h.1 a = 113 ∨ h.1 a = 226 ∨ h.1 a = 227 ∨ h.1 a = 128 ∨ h.1 a = 129) q q_3 := hF_q_1.tr (by rw [eq_3]; exact sx_fr.pI (show h.1 a0 = 12 ∨ h.1 a0 = 113 ∨ h.1 a0 = 226 ∨ h.1 a0 = 227 ∨ h.1 a0 = 128 ∨ h.1 a0 = 129 from by omega))
  have z_4 : q_3.1 a0 14 = 0 := by rw [eq_3]; exact sg_pI_e
  have hK_q_3 : sx_kf a0 [0, 14, 15, 2, 4, 5, 10, 20, 31, 49, 50, 6, 7, 8, 9, 11, 12, 13] q q_3 := hK_q_1.tr (by rw [eq_3]; exact sx_kf.pI (by decide))
  have mN_q_3 : mv_N a0 q_3 := mv_N.eq ((show q_3.1 a0 8 = q_1.1 a0 8 from by rw [eq_3]; exact sg_pI_k (by decide))) ((show q_3.2.1 a0 11 = q_1.2.1 a0 11 from by rw [eq_3]; rfl)) mN_q_1
  have mF_q_3 : mv_F m18 m19 q_3 := mv_F.eq ((show q_3.2.2.2.1 m18 = q_1.2.2.2.1 m18 from by rw [eq_3]; rfl)) ((show q_3.2.2.2.1 m19 = q_1.2.2.2.1 m19 from by rw [eq_3]; rfl)) mF_q_1
  have mU_q_3 : mv_U m17 q_3 := mv_U.eq ((show q_3.2.2.2.2 m17 = q_1.2.2.2.2 m17 from by rw [eq_3]; rfl)) mU_q_1
  refine wa_aload_n B dX12_systems_10 rfl 0 rfl ?_
  refine wa_sipush B 400 dX12_systems_11 (by decide) ?_
  refine wa_iconst B 0 dX12_systems_14 (by decide) ?_
  refine wa_callVv B (x := (RX12, TX12, 51)) (As := [.int 400, .int 0]) (rest := []) (k_X12_takes l dC dI h L hN q_3 hV_q_3 (a0 := a0) ha0 ka0 400 0  (by first | assumption | omega | decide) (by first | assumption | omega | decide) (by first | assumption | omega | decide)) (cwV 2 B.1.2.2.2.2 gX12_systems_X12_takes rfl rfl rfl (by decide +kernel) ⟨Nat.le_of_ble_eq_true rfl, Nat.le_of_ble_eq_true rfl⟩) ha0 ka0 (by decide) rfl rfl rfl (Nat.le_of_ble_eq_true rfl) dX12_systems_15 (fun q_5 w_6 => ?_)
  obtain ⟨hV_q_5, h2_q_5, h3_q_5, mN_q_5, hw_6⟩ := w_6
  have hF_q_5 : sx_fr h L (fun a => h.1 a = 12 ∨ h.1 a = 113 ∨ h.1 a = 226 ∨ h.1 a = 227 ∨ h.1 a = 128 ∨ h.1 a = 129) q q_5 := hF_q_3.tr (h2_q_5.mono (fun a (z : h.1 a = 12 ∨ h.1 a = 113) => (show h.1 a = 12 ∨ h.1 a = 113 ∨ h.1 a = 226 ∨ h.1 a = 227 ∨ h.1 a = 128 ∨ h.1 a = 129 from by omega)))
  have hK_q_5 : sx_kf a0 [0, 14, 15, 2, 4, 5, 10, 20, 31, 49, 50, 6, 7, 8, 9, 11, 12, 13] q q_5 := hK_q_3.tr (h3_q_5.mono (by decide))
  have mF_q_5 : mv_F m18 m19 q_5 := mv_F.eq (h2_q_5.G hm18 (show ¬ (h.1 m18 = 12 ∨ h.1 m18 = 113) from by omega) (by rw [km18]; decide)) (h2_q_5.G hm19 (show ¬ (h.1 m19 = 12 ∨ h.1 m19 = 113) from by omega) (by rw [km19]; decide)) mF_q_3
  have mU_q_5 : mv_U m17 q_5 := mv_U.eq (h2_q_5.Lg hm17 (show ¬ (h.1 m17 = 12 ∨ h.1 m17 = 113) from by omega) (by rw [km17]; decide)) mU_q_3
  refine wa_iconst B 0 dX12_systems_18 (by decide) ?_
  refine wa_istore_n B [(1, .int 0), (0, .ref a0)] dX12_systems_19 rfl (by decide) rfl ?_
  have z_9 : q_5.1 a0 0 = 0 := (h3_q_5.1 0 (by decide)).trans (((show q_3.1 a0 0 = q_1.1 a0 0 from by rw [eq_3]; exact sg_pI_k (by decide))).trans (z_2))
  have z_10 : q_5.1 a0 14 = 0 := (h3_q_5.1 14 (by decide)).trans (z_4)
  have z_11 : q_5.2.2.1 a0 16 = m16 := (h2_q_5.R ha0 (show ¬ ((h.1 a0 = 12 ∨ h.1 a0 = 113) ∧ (h.1 a0 = 8 ∨ h.1 a0 = 11)) from by omega) 16).trans (((show q_3.2.2.1 a0 16 = q_1.2.2.1 a0 16 from by rw [eq_3]; rfl)).trans (((show q_1.2.2.1 a0 16 = q.2.2.1 a0 16 from by rw [eq_1]; rfl)).trans (em16)))
  have z_12 : q_5.2.2.1 a0 17 = m17 := (h2_q_5.R ha0 (show ¬ ((h.1 a0 = 12 ∨ h.1 a0 = 113) ∧ (h.1 a0 = 8 ∨ h.1 a0 = 11)) from by omega) 17).trans (((show q_3.2.2.1 a0 17 = q_1.2.2.1 a0 17 from by rw [eq_3]; rfl)).trans (((show q_1.2.2.1 a0 17 = q.2.2.1 a0 17 from by rw [eq_1]; rfl)).trans (em17)))
  have z_13 : q_5.2.2.1 a0 18 = m18 := (h2_q_5.R ha0 (show ¬ ((h.1 a0 = 12 ∨ h.1 a0 = 113) ∧ (h.1 a0 = 8 ∨ h.1 a0 = 11)) from by omega) 18).trans (((show q_3.2.2.1 a0 18 = q_1.2.2.1 a0 18 from by rw [eq_3]; rfl)).trans (((show q_1.2.2.1 a0 18 = q.2.2.1 a0 18 from by rw [eq_1]; rfl)).trans (em18)))
  have z_14 : q_5.2.2.1 a0 19 = m19 := (h2_q_5.R ha0 (show ¬ ((h.1 a0 = 12 ∨ h.1 a0 = 113) ∧ (h.1 a0 = 8 ∨ h.1 a0 = 11)) from by omega) 19).trans (((show q_3.2.2.1 a0 19 = q_1.2.2.1 a0 19 from by rw [eq_3]; rfl)).trans (((show q_1.2.2.1 a0 19 = q.2.2.1 a0 19 from by rw [eq_1]; rfl)).trans (em19)))
  have z_15 : q_5.2.2.2.1 m18 = q.2.2.2.1 m18 := (h2_q_5.G hm18 (show ¬ (h.1 m18 = 12 ∨ h.1 m18 = 113) from by omega) (by rw [km18]; decide)).trans (((show q_3.2.2.2.1 m18 = q_1.2.2.2.1 m18 from by rw [eq_3]; rfl)).trans ((show q_1.2.2.2.1 m18 = q.2.2.2.1 m18 from by rw [eq_1]; rfl)))
  have z_16 : q_5.2.2.2.1 m19 = q.2.2.2.1 m19 := (h2_q_5.G hm19 (show ¬ (h.1 m19 = 12 ∨ h.1 m19 = 113) from by omega) (by rw [km19]; decide)).trans (((show q_3.2.2.2.1 m19 = q_1.2.2.2.1 m19 from by rw [eq_3]; rfl)).trans ((show q_1.2.2.2.1 m19 = q.2.2.2.1 m19 from by rw [eq_1]; rfl)))
  have z_17 : q_5.2.2.2.2 m16 = q.2.2.2.2 m16 := (h2_q_5.Lg hm16 (show ¬ (h.1 m16 = 12 ∨ h.1 m16 = 113) from by omega) (by rw [km16]; decide)).trans (((show q_3.2.2.2.2 m16 = q_1.2.2.2.2 m16 from by rw [eq_3]; rfl)).trans ((show q_1.2.2.2.2 m16 = q.2.2.2.2 m16 from by rw [eq_1]; rfl)))
  have z_18 : q_5.2.2.2.2 m17 = q.2.2.2.2 m17 := (h2_q_5.Lg hm17 (show ¬ (h.1 m17 = 12 ∨ h.1 m17 = 113) from by omega) (by rw [km17]; decide)).trans (((show q_3.2.2.2.2 m17 = q_1.2.2.2.2 m17 from by rw [eq_3]; rfl)).trans ((show q_1.2.2.2.2 m17 = q.2.2.2.2 m17 from by rw [eq_1]; rfl)))
  have Lp_20_21 : ∀ (n : Nat) (v_7 : Int32) (q_8 : Sg), sx_V h L q_8 → sx_fr h L (fun a => h.1 a = 12 ∨ h.1 a = 113 ∨ h.1 a = 226 ∨ h.1 a = 227 ∨ h.1 a = 128 ∨ h.1 a = 129) q q_8 → sx_kf a0 [0, 14, 15, 2, 4, 5, 10, 20, 31, 49, 50, 6, 7, 8, 9, 11, 12, 13] q q_8 → mv_N a0 q_8 → mv_F m18 m19 q_8 → mv_U m17 q_8 → q_8.1 a0 0 = 0 → q_8.1 a0 2 = (q_5.1 a0 2) → q_8.2.2.1 a0 16 = m16 → q_8.2.2.1 a0 17 = m17 → q_8.2.2.1 a0 18 = m18 → q_8.2.2.1 a0 19 = m19 → 0 ≤ v_7.toInt → v_7.toInt ≤ 3 → (4 - v_7.toInt : Int).toNat < n → WA l dC dI h L ({ frames := 5, cells := 0, slots := 0, locals := 110 } : Room) 4 Z q_8 20 [(1, .int v_7), (0, .ref a0)] [] := by
    intro n
    induction n with
    | zero =>
      intro v_7 q_8 hV_q_8 hF_q_8 hK_q_8 mN_q_8 mF_q_8 mU_q_8 p0_q_8 p1_q_8 p2_q_8 p3_q_8 p4_q_8 p5_q_8 x_19 x_20 hn
      exact absurd hn (Nat.not_lt_zero _)
    | succ n ih_22 =>
      intro v_7 q_8 hV_q_8 hF_q_8 hK_q_8 mN_q_8 mF_q_8 mU_q_8 p0_q_8 p1_q_8 p2_q_8 p3_q_8 p4_q_8 p5_q_8 x_19 x_20 hn
      refine wa_aload_n B dX12_systems_20 rfl 1 rfl ?_
      refine wa_gets0 B (by decide +kernel) dX12_systems_21 ?_
      refine wa_callVi B (x := (RX12, TX12, 51)) (As := [.long 286303963]) (rest := []) (k_X12_isKey l dC dI h L hN q_8 hV_q_8 (a0 := a0) ha0 ka0 286303963  ) (cwV 1 B.1.2.2.2.2 gX12_systems_X12_isKey rfl rfl rfl (by decide +kernel) ⟨Nat.le_of_ble_eq_true rfl, Nat.le_of_ble_eq_true rfl⟩) ha0 ka0 (by decide) rfl rfl rfl (Nat.le_of_ble_eq_true rfl) dX12_systems_24 (fun r_24 q_23 w_25 => ?_)
      obtain ⟨ew_25, hw_25⟩ := w_25
      subst ew_25
      refine wa_if_ne B 43 dX12_systems_27 (by decide) (fun (t_26 : ¬ r_24.toInt = 0) => ?_) (fun (t_26 : r_24.toInt = 0) => ?_)
      · refine wa_iload_n B dX12_systems_43 rfl 0 rfl ?_
        refine wa_iconst B 3 dX12_systems_44 (by decide) ?_
        refine wa_icmp_ne B 61 dX12_systems_45 (by decide) (fun (t_27 : ¬ v_7.toInt = 3) => ?_) (fun (t_27 : v_7.toInt = 3) => ?_)
        · refine wa_aload_n B dX12_systems_61 rfl 1 rfl ?_
          refine wa_callVv B (x := (RX12, TX12, 51)) (As := []) (rest := []) (k_X12_go l dC dI h L hN q_8 hV_q_8 (a0 := a0) ha0 ka0  ) (cwV 0 B.1.2.2.2.2 gX12_systems_X12_go rfl rfl rfl (by decide +kernel) ⟨Nat.le_of_ble_eq_true rfl, Nat.le_of_ble_eq_true rfl⟩) ha0 ka0 (by decide) rfl rfl rfl (Nat.le_of_ble_eq_true rfl) dX12_systems_62 (fun q_28 w_29 => ?_)
          obtain ⟨hV_q_28, h2_q_28, h3_q_28, mN_q_28⟩ := w_29
          have hF_q_28 : sx_fr h L (fun a => h.1 a = 12 ∨ h.1 a = 113 ∨ h.1 a = 226 ∨ h.1 a = 227 ∨ h.1 a = 128 ∨ h.1 a = 129) q q_28 := hF_q_8.tr (h2_q_28.mono (fun a (z : h.1 a = 12) => (show h.1 a = 12 ∨ h.1 a = 113 ∨ h.1 a = 226 ∨ h.1 a = 227 ∨ h.1 a = 128 ∨ h.1 a = 129 from by omega)))
          have hK_q_28 : sx_kf a0 [0, 14, 15, 2, 4, 5, 10, 20, 31, 49, 50, 6, 7, 8, 9, 11, 12, 13] q q_28 := hK_q_8.tr (h3_q_28.mono (by decide))
          have mF_q_28 : mv_F m18 m19 q_28 := mv_F.eq (h2_q_28.G hm18 (show ¬ (h.1 m18 = 12) from by omega) (by rw [km18]; decide)) (h2_q_28.G hm19 (show ¬ (h.1 m19 = 12) from by omega) (by rw [km19]; decide)) mF_q_8
          have mU_q_28 : mv_U m17 q_28 := mv_U.eq (h2_q_28.Lg hm17 (show ¬ (h.1 m17 = 12) from by omega) (by rw [km17]; decide)) mU_q_8
          refine wa_aload_n B dX12_systems_65 rfl 1 rfl ?_
          refine wa_iload_n B dX12_systems_66 rfl 0 rfl ?_
          have z_30 : q_28.2.2.1 a0 16 = m16 := (h2_q_28.R ha0 (show ¬ ((h.1 a0 = 12) ∧ (h.1 a0 = 8 ∨ h.1 a0 = 11)) from by omega) 16).trans (p2_q_8)
          have z_31 : q_28.2.2.1 a0 17 = m17 := (h2_q_28.R ha0 (show ¬ ((h.1 a0 = 12) ∧ (h.1 a0 = 8 ∨ h.1 a0 = 11)) from by omega) 17).trans (p3_q_8)
          have z_32 : q_28.2.2.1 a0 18 = m18 := (h2_q_28.R ha0 (show ¬ ((h.1 a0 = 12) ∧ (h.1 a0 = 8 ∨ h.1 a0 = 11)) from by omega) 18).trans (p4_q_8)
          have z_33 : q_28.2.2.1 a0 19 = m19 := (h2_q_28.R ha0 (show ¬ ((h.1 a0 = 12) ∧ (h.1 a0 = 8 ∨ h.1 a0 = 11)) from by omega) 19).trans (p5_q_8)
          refine wa_callVi B (x := (RX12, TX12, 51)) (As := [.int v_7]) (rest := []) (k_X12_readSystem l dC dI h L hN q_28 hV_q_28 (a0 := a0) ha0 ka0 v_7 (m16 := m16) z_30 (m17 := m17) z_31 (m18 := m18) z_32 (m19 := m19) z_33 mN_q_28 mF_q_28 mU_q_28 (by first | assumption | omega | decide) (by first | assumption | omega | decide)) (cwV 1 B.1.2.2.2.2 gX12_systems_X12_readSystem rfl rfl rfl (by decide +kernel) ⟨Nat.le_of_ble_eq_true rfl, Nat.le_of_ble_eq_true rfl⟩) ha0 ka0 (by decide) rfl rfl rfl (Nat.le_of_ble_eq_true rfl) dX12_systems_67 (fun r_35 q_34 w_36 => ?_)
          obtain ⟨hV_q_34, h2_q_34, h3_q_34, mN_q_34, mF_q_34, mU_q_34, hw_36⟩ := w_36
          have hF_q_34 : sx_fr h L (fun a => h.1 a = 12 ∨ h.1 a = 113 ∨ h.1 a = 226 ∨ h.1 a = 227 ∨ h.1 a = 128 ∨ h.1 a = 129) q q_34 := hF_q_28.tr (h2_q_34.mono (fun a (z : h.1 a = 12 ∨ h.1 a = 226 ∨ h.1 a = 227 ∨ h.1 a = 128 ∨ h.1 a = 129) => (show h.1 a = 12 ∨ h.1 a = 113 ∨ h.1 a = 226 ∨ h.1 a = 227 ∨ h.1 a = 128 ∨ h.1 a = 129 from by omega)))
          have hK_q_34 : sx_kf a0 [0, 14, 15, 2, 4, 5, 10, 20, 31, 49, 50, 6, 7, 8, 9, 11, 12, 13] q q_34 := hK_q_28.tr (h3_q_34.mono (by decide))
          refine wa_if_ne B 80 dX12_systems_70 (by decide) (fun (t_37 : ¬ r_35.toInt = 0) => ?_) (fun (t_37 : r_35.toInt = 0) => ?_)
          · obtain ⟨v_38, ev_38⟩ : ∃ z : Int32, z = v_7 + 1 := ⟨_, rfl⟩
            refine wa_iinc B [(1, .int v_38), (0, .ref a0)] v_38 dX12_systems_80 0 rfl (by rw [ev_38]; rfl) (by decide) rfl ?_
            refine wa_aload_n B dX12_systems_83 rfl 1 rfl ?_
            refine wa_getI B (C := RX12) (T := TX12) (N := 51) iq_X12_systems_X12 ha0 ka0 (by decide) rfl 8 (by decide) (by decide) (by decide +kernel) rfl (by decide) (v := (q_34.1 a0 8)) rfl dX12_systems_84 ?_
            refine wa_if_ne B 20 dX12_systems_87 (by decide) (fun (t_39 : ¬ (q_34.1 a0 8).toInt = 0) => ?_) (fun (t_39 : (q_34.1 a0 8).toInt = 0) => ?_)
            · have tv_38 : v_38.toInt = v_7.toInt + 1 := by have b0 := zx_bd v_7; rw [ev_38]; exact zx_add (show (-2147483648 : Int) ≤ v_7.toInt + 1 by omega) (show v_7.toInt + 1 < (2147483648 : Int) by omega)
              have z_40 : q_34.1 a0 0 = 0 := (h3_q_34.1 0 (by decide)).trans ((h3_q_28.1 0 (by decide)).trans (p0_q_8))
              have z_41 : q_34.1 a0 2 = (q_5.1 a0 2) := (h3_q_34.1 2 (by decide)).trans ((h3_q_28.1 2 (by decide)).trans (p1_q_8))
              have z_42 : q_34.2.2.1 a0 16 = m16 := (h2_q_34.R ha0 (show ¬ ((h.1 a0 = 12 ∨ h.1 a0 = 226 ∨ h.1 a0 = 227 ∨ h.1 a0 = 128 ∨ h.1 a0 = 129) ∧ (h.1 a0 = 8 ∨ h.1 a0 = 11)) from by omega) 16).trans (z_30)
              have z_43 : q_34.2.2.1 a0 17 = m17 := (h2_q_34.R ha0 (show ¬ ((h.1 a0 = 12 ∨ h.1 a0 = 226 ∨ h.1 a0 = 227 ∨ h.1 a0 = 128 ∨ h.1 a0 = 129) ∧ (h.1 a0 = 8 ∨ h.1 a0 = 11)) from by omega) 17).trans (z_31)
              have z_44 : q_34.2.2.1 a0 18 = m18 := (h2_q_34.R ha0 (show ¬ ((h.1 a0 = 12 ∨ h.1 a0 = 226 ∨ h.1 a0 = 227 ∨ h.1 a0 = 128 ∨ h.1 a0 = 129) ∧ (h.1 a0 = 8 ∨ h.1 a0 = 11)) from by omega) 18).trans (z_32)
              have z_45 : q_34.2.2.1 a0 19 = m19 := (h2_q_34.R ha0 (show ¬ ((h.1 a0 = 12 ∨ h.1 a0 = 226 ∨ h.1 a0 = 227 ∨ h.1 a0 = 128 ∨ h.1 a0 = 129) ∧ (h.1 a0 = 8 ∨ h.1 a0 = 11)) from by omega) 19).trans (z_33)
              exact ih_22 v_38 q_34 hV_q_34 hF_q_34 hK_q_34 mN_q_34 mF_q_34 mU_q_34 z_40 z_41 z_42 z_43 z_44 z_45 (show 0 ≤ v_38.toInt from by first | assumption | omega | decide) (show v_38.toInt ≤ 3 from by first | assumption | omega | decide) (show (4 - v_38.toInt : Int).toNat < _ from by omega)
            · refine wa_aload_n B dX12_systems_90 rfl 1 rfl ?_
              refine wa_iload_n B dX12_systems_91 rfl 0 rfl ?_
              have tv_38 : v_38.toInt = v_7.toInt + 1 := by have b0 := zx_bd v_7; rw [ev_38]; exact zx_add (show (-2147483648 : Int) ≤ v_7.toInt + 1 by omega) (show v_7.toInt + 1 < (2147483648 : Int) by omega)
              refine wa_putI B (C := RX12) (T := TX12) (N := 51) iq_X12_systems_X12 ha0 ka0 (by decide) rfl 20 (by decide) (by decide) (by decide +kernel) rfl (by decide) (v := v_38) (ty := .int) tyX12 tyX12_ok nmX12 rfl (by decide +kernel) rfl rfl dX12_systems_92 (fun q_46 eq_46 => ?_)
              have hV_q_46 : sx_V h L q_46 := by rw [eq_46]; exact hV_q_34.pI ka0 (show sx_in v_38 (0) 3 from ⟨by omega, by omega⟩)
              have hF_q_46 : sx_fr h L (fun a => h.1 a = 12 ∨ h.1 a = 113 ∨ h.1 a = 226 ∨ h.1 a = 227 ∨ h.1 a = 128 ∨ h.1 a = 129) q q_46 := hF_q_34.tr (by rw [eq_46]; exact sx_fr.pI (show h.1 a0 = 12 ∨ h.1 a0 = 113 ∨ h.1 a0 = 226 ∨ h.1 a0 = 227 ∨ h.1 a0 = 128 ∨ h.1 a0 = 129 from by omega))
              have z_47 : q_46.1 a0 20 = v_38 := by rw [eq_46]; exact sg_pI_e
              have hK_q_46 : sx_kf a0 [0, 14, 15, 2, 4, 5, 10, 20, 31, 49, 50, 6, 7, 8, 9, 11, 12, 13] q q_46 := hK_q_34.tr (by rw [eq_46]; exact sx_kf.pI (by decide))
              have mN_q_46 : mv_N a0 q_46 := mv_N.eq ((show q_46.1 a0 8 = q_34.1 a0 8 from by rw [eq_46]; exact sg_pI_k (by decide))) ((show q_46.2.1 a0 11 = q_34.2.1 a0 11 from by rw [eq_46]; rfl)) mN_q_34
              have mF_q_46 : mv_F m18 m19 q_46 := mv_F.eq ((show q_46.2.2.2.1 m18 = q_34.2.2.2.1 m18 from by rw [eq_46]; rfl)) ((show q_46.2.2.2.1 m19 = q_34.2.2.2.1 m19 from by rw [eq_46]; rfl)) mF_q_34
              have mU_q_46 : mv_U m17 q_46 := mv_U.eq ((show q_46.2.2.2.2 m17 = q_34.2.2.2.2 m17 from by rw [eq_46]; rfl)) mU_q_34
              refine wa_iconst B 0 dX12_systems_95 (by decide) ?_
              refine wa_istore_n B [(2, .int 0), (1, .int v_38), (0, .ref a0)] dX12_systems_96 rfl (by decide) rfl ?_
              have z_50 : q_46.1 a0 0 = 0 := ((show q_46.1 a0 0 = q_34.1 a0 0 from by rw [eq_46]; exact sg_pI_k (by decide))).trans ((h3_q_34.1 0 (by decide)).trans ((h3_q_28.1 0 (by decide)).trans (p0_q_8)))
              have z_51 : q_46.1 a0 2 = (q_5.1 a0 2) := ((show q_46.1 a0 2 = q_34.1 a0 2 from by rw [eq_46]; exact sg_pI_k (by decide))).trans ((h3_q_34.1 2 (by decide)).trans ((h3_q_28.1 2 (by decide)).trans (p1_q_8)))
              have z_52 : q_46.1 a0 8 = q_34.1 a0 8 := (show q_46.1 a0 8 = q_34.1 a0 8 from by rw [eq_46]; exact sg_pI_k (by decide))
              have z_53 : q_46.2.2.1 a0 16 = m16 := ((show q_46.2.2.1 a0 16 = q_34.2.2.1 a0 16 from by rw [eq_46]; rfl)).trans ((h2_q_34.R ha0 (show ¬ ((h.1 a0 = 12 ∨ h.1 a0 = 226 ∨ h.1 a0 = 227 ∨ h.1 a0 = 128 ∨ h.1 a0 = 129) ∧ (h.1 a0 = 8 ∨ h.1 a0 = 11)) from by omega) 16).trans (z_30))
              have z_54 : q_46.2.2.1 a0 17 = m17 := ((show q_46.2.2.1 a0 17 = q_34.2.2.1 a0 17 from by rw [eq_46]; rfl)).trans ((h2_q_34.R ha0 (show ¬ ((h.1 a0 = 12 ∨ h.1 a0 = 226 ∨ h.1 a0 = 227 ∨ h.1 a0 = 128 ∨ h.1 a0 = 129) ∧ (h.1 a0 = 8 ∨ h.1 a0 = 11)) from by omega) 17).trans (z_31))
              have z_55 : q_46.2.2.1 a0 18 = m18 := ((show q_46.2.2.1 a0 18 = q_34.2.2.1 a0 18 from by rw [eq_46]; rfl)).trans ((h2_q_34.R ha0 (show ¬ ((h.1 a0 = 12 ∨ h.1 a0 = 226 ∨ h.1 a0 = 227 ∨ h.1 a0 = 128 ∨ h.1 a0 = 129) ∧ (h.1 a0 = 8 ∨ h.1 a0 = 11)) from by omega) 18).trans (z_32))
              have z_56 : q_46.2.2.1 a0 19 = m19 := ((show q_46.2.2.1 a0 19 = q_34.2.2.1 a0 19 from by rw [eq_46]; rfl)).trans ((h2_q_34.R ha0 (show ¬ ((h.1 a0 = 12 ∨ h.1 a0 = 226 ∨ h.1 a0 = 227 ∨ h.1 a0 = 128 ∨ h.1 a0 = 129) ∧ (h.1 a0 = 8 ∨ h.1 a0 = 11)) from by omega) 19).trans (z_33))
              have Lp_97_58 : ∀ (n : Nat) (v_48 : Int32) (q_49 : Sg), sx_V h L q_49 → sx_fr h L (fun a => h.1 a = 12 ∨ h.1 a = 113 ∨ h.1 a = 226 ∨ h.1 a = 227 ∨ h.1 a = 128 ∨ h.1 a = 129) q q_49 → sx_kf a0 [0, 14, 15, 2, 4, 5, 10, 20, 31, 49, 50, 6, 7, 8, 9, 11, 12, 13] q q_49 → mv_N a0 q_49 → mv_F m18 m19 q_49 → mv_U m17 q_49 → q_49.1 a0 0 = 0 → q_49.1 a0 2 = (q_5.1 a0 2) → q_49.1 a0 8 = (q_34.1 a0 8) → q_49.1 a0 20 = v_38 → q_49.2.2.1 a0 16 = m16 → q_49.2.2.1 a0 17 = m17 → q_49.2.2.1 a0 18 = m18 → q_49.2.2.1 a0 19 = m19 → 0 ≤ v_48.toInt → (v_38.toInt - v_48.toInt : Int).toNat < n → WA l dC dI h L ({ frames := 5, cells := 0, slots := 0, locals := 110 } : Room) 4 Z q_49 97 [(2, .int v_48), (1, .int v_38), (0, .ref a0)] [] := by
                intro n
                induction n with
                | zero =>
                  intro v_48 q_49 hV_q_49 hF_q_49 hK_q_49 mN_q_49 mF_q_49 mU_q_49 p0_q_49 p1_q_49 p2_q_49 p3_q_49 p4_q_49 p5_q_49 p6_q_49 p7_q_49 x_57 hn
                  exact absurd hn (Nat.not_lt_zero _)
                | succ n ih_59 =>
                  intro v_48 q_49 hV_q_49 hF_q_49 hK_q_49 mN_q_49 mF_q_49 mU_q_49 p0_q_49 p1_q_49 p2_q_49 p3_q_49 p4_q_49 p5_q_49 p6_q_49 p7_q_49 x_57 hn
                  refine wa_iload_n B dX12_systems_97 rfl 0 rfl ?_
                  refine wa_iload_n B dX12_systems_98 rfl 1 rfl ?_
                  refine wa_icmp_ge B 179 dX12_systems_99 (by decide) (fun (t_60 : v_38.toInt ≤ v_48.toInt) => ?_) (fun (t_60 : ¬ v_38.toInt ≤ v_48.toInt) => ?_)
                  · refine wa_aload_n B dX12_systems_179 rfl 2 rfl ?_
                    refine wa_iconst B 0 dX12_systems_180 (by decide) ?_
                    refine wa_putI B (C := RX12) (T := TX12) (N := 51) iq_X12_systems_X12 ha0 ka0 (by decide) rfl 31 (by decide) (by decide) (by decide +kernel) rfl (by decide) (v := 0) (ty := .int) tyX12 tyX12_ok nmX12 rfl (by decide +kernel) rfl rfl dX12_systems_181 (fun q_61 eq_61 => ?_)
                    have hV_q_61 : sx_V h L q_61 := by rw [eq_61]; exact hV_q_49.pI ka0 (show sx_in 0 (0) 8 from ⟨by decide, by decide⟩)
                    have hF_q_61 : sx_fr h L (fun a => h.1 a = 12 ∨ h.1 a = 113 ∨ h.1 a = 226 ∨ h.1 a = 227 ∨ h.1 a = 128 ∨ h.1 a = 129) q q_61 := hF_q_49.tr (by rw [eq_61]; exact sx_fr.pI (show h.1 a0 = 12 ∨ h.1 a0 = 113 ∨ h.1 a0 = 226 ∨ h.1 a0 = 227 ∨ h.1 a0 = 128 ∨ h.1 a0 = 129 from by omega))
                    have z_62 : q_61.1 a0 31 = 0 := by rw [eq_61]; exact sg_pI_e
                    have hK_q_61 : sx_kf a0 [0, 14, 15, 2, 4, 5, 10, 20, 31, 49, 50, 6, 7, 8, 9, 11, 12, 13] q q_61 := hK_q_49.tr (by rw [eq_61]; exact sx_kf.pI (by decide))
                    have mN_q_61 : mv_N a0 q_61 := mv_N.eq ((show q_61.1 a0 8 = q_49.1 a0 8 from by rw [eq_61]; exact sg_pI_k (by decide))) ((show q_61.2.1 a0 11 = q_49.2.1 a0 11 from by rw [eq_61]; rfl)) mN_q_49
                    have mF_q_61 : mv_F m18 m19 q_61 := mv_F.eq ((show q_61.2.2.2.1 m18 = q_49.2.2.2.1 m18 from by rw [eq_61]; rfl)) ((show q_61.2.2.2.1 m19 = q_49.2.2.2.1 m19 from by rw [eq_61]; rfl)) mF_q_49
                    have mU_q_61 : mv_U m17 q_61 := mv_U.eq ((show q_61.2.2.2.2 m17 = q_49.2.2.2.2 m17 from by rw [eq_61]; rfl)) mU_q_49
                    refine wa_aload_n B dX12_systems_184 rfl 2 rfl ?_
                    refine wa_callVv B (x := (RX12, TX12, 51)) (As := []) (rest := []) (k_X12_forget l dC dI h L hN q_61 hV_q_61 (a0 := a0) ha0 ka0  ) (cwV 0 B.1.2.2.2.2 gX12_systems_X12_forget rfl rfl rfl (by decide +kernel) ⟨Nat.le_of_ble_eq_true rfl, Nat.le_of_ble_eq_true rfl⟩) ha0 ka0 (by decide) rfl rfl rfl (Nat.le_of_ble_eq_true rfl) dX12_systems_185 (fun q_63 w_64 => ?_)
                    obtain ⟨hV_q_63, h2_q_63, h3_q_63⟩ := w_64
                    have hF_q_63 : sx_fr h L (fun a => h.1 a = 12 ∨ h.1 a = 113 ∨ h.1 a = 226 ∨ h.1 a = 227 ∨ h.1 a = 128 ∨ h.1 a = 129) q q_63 := hF_q_61.tr (h2_q_63.mono (fun a (z : h.1 a = 12) => (show h.1 a = 12 ∨ h.1 a = 113 ∨ h.1 a = 226 ∨ h.1 a = 227 ∨ h.1 a = 128 ∨ h.1 a = 129 from by omega)))
                    have hK_q_63 : sx_kf a0 [0, 14, 15, 2, 4, 5, 10, 20, 31, 49, 50, 6, 7, 8, 9, 11, 12, 13] q q_63 := hK_q_61.tr (h3_q_63.mono (by decide))
                    have mN_q_63 : mv_N a0 q_63 := mv_N.eq (h3_q_63.1 8 (by decide)) (h3_q_63.2 11 (by decide)) mN_q_61
                    have mF_q_63 : mv_F m18 m19 q_63 := mv_F.eq (h2_q_63.G hm18 (show ¬ (h.1 m18 = 12) from by omega) (by rw [km18]; decide)) (h2_q_63.G hm19 (show ¬ (h.1 m19 = 12) from by omega) (by rw [km19]; decide)) mF_q_61
                    have mU_q_63 : mv_U m17 q_63 := mv_U.eq (h2_q_63.Lg hm17 (show ¬ (h.1 m17 = 12) from by omega) (by rw [km17]; decide)) mU_q_61
                    refine wa_iload_n B dX12_systems_188 rfl 1 rfl ?_
                    have z_65 : q_63.1 a0 2 = (q_5.1 a0 2) := (h3_q_63.1 2 (by decide)).trans (((show q_61.1 a0 2 = q_49.1 a0 2 from by rw [eq_61]; exact sg_pI_k (by decide))).trans (p1_q_49))
                    have y_66 : (q_63.1 a0 2).toInt = (q_5.1 a0 2).toInt := by rw [z_65]
                    exact hret _ _ _ _ dX12_systems_189 ⟨hV_q_63, hF_q_63, hK_q_63, mN_q_63, mF_q_63, mU_q_63, (by first | omega | (refine ⟨?_, ?_⟩ <;> omega) | trivial)⟩
                  · refine wa_aload_n B dX12_systems_102 rfl 2 rfl ?_
                    refine wa_getR B (C := RX12) (T := TX12) (N := 51) iq_X12_systems_X12 ha0 ka0 (by decide) rfl 18 (by decide) (by decide) (by decide +kernel) rfl (fun _ _ _ => rfl) (v := m18) p6_q_49 dX12_systems_103 ?_
                    refine wa_iload_n B dX12_systems_106 rfl 0 rfl ?_
                    refine wa_aload_n B dX12_systems_107 rfl 2 rfl ?_
                    refine wa_getR B (C := RX12) (T := TX12) (N := 51) iq_X12_systems_X12 ha0 ka0 (by decide) rfl 18 (by decide) (by decide) (by decide +kernel) rfl (fun _ _ _ => rfl) (v := m18) p6_q_49 dX12_systems_108 ?_
                    refine wa_iconst B 3 dX12_systems_111 (by decide) ?_
                    refine wa_iload_n B dX12_systems_112 rfl 0 rfl ?_
                    refine wa_iadd B dX12_systems_113 (fun v_67 ev_67 => ?_)
                    subst ev_67
                    have t_68 : (3 + v_48).toInt = 3 + v_48.toInt := by have b1 := zx_bd v_48; exact zx_add (show (-2147483648 : Int) ≤ 3 + v_48.toInt by omega) (show 3 + v_48.toInt < (2147483648 : Int) by omega)
                    refine wa_iaload B hm18 km18 (by decide) (by decide) (show 0 ≤ (3 + v_48).toInt by omega) (show (3 + v_48).toInt < (h.2.1 m18 : Int) by omega) (v := (q_49.2.2.2.1 m18 ((3 + v_48) : Int32).toNatClampNeg)) rfl dX12_systems_114 ?_
                    have g_69 : (0 : Int) ≤ ((q_49.2.2.2.1 m18 ((3 + v_48) : Int32).toNatClampNeg)).toInt ∧ ((q_49.2.2.2.1 m18 ((3 + v_48) : Int32).toNatClampNeg)).toInt ≤ 5 := hV_q_49.cnt hm18 km18 _
                    refine wa_iastore B hm18 km18 (by decide) (by decide) (show 0 ≤ v_48.toInt by omega) (show v_48.toInt < (h.2.1 m18 : Int) by omega) dX12_systems_115 (fun q_70 eq_70 => ?_)
                    have hV_q_70 : sx_V h L q_70 := by rw [eq_70]; exact hV_q_49.up1 hm18 km18 (show sx_in ((q_49.2.2.2.1 m18 ((3 + v_48) : Int32).toNatClampNeg)) (0) 5 from ⟨by omega, by omega⟩)
                    have hF_q_70 : sx_fr h L (fun a => h.1 a = 12 ∨ h.1 a = 113 ∨ h.1 a = 226 ∨ h.1 a = 227 ∨ h.1 a = 128 ∨ h.1 a = 129) q q_70 := hF_q_49.tr (by rw [eq_70]; exact sx_fr.pG (show h.1 m18 = 100 ∨ (h.1 m18 = 12 ∨ h.1 m18 = 113 ∨ h.1 m18 = 226 ∨ h.1 m18 = 227 ∨ h.1 m18 = 128 ∨ h.1 m18 = 129) from by omega))
                    have z_71 : q_70.2.2.2.1 m18 = (upd (q_49.2.2.2.1 m18) (v_48 : Int32).toNatClampNeg ((q_49.2.2.2.1 m18 ((3 + v_48) : Int32).toNatClampNeg))) := by rw [eq_70, sg_pG_e]
                    have z_72 : q_70.2.2.2.1 m18 (v_48 : Int32).toNatClampNeg = (q_49.2.2.2.1 m18 ((3 + v_48) : Int32).toNatClampNeg) := by rw [eq_70, sg_pG_e]; exact if_pos rfl
                    have hK_q_70 : sx_kf a0 [0, 14, 15, 2, 4, 5, 10, 20, 31, 49, 50, 6, 7, 8, 9, 11, 12, 13] q q_70 := hK_q_49.tr (sx_kf.eq (by rw [eq_70]; rfl) (by rw [eq_70]; rfl))
                    have mN_q_70 : mv_N a0 q_70 := mv_N.eq ((show q_70.1 a0 8 = q_49.1 a0 8 from by rw [eq_70]; rfl)) ((show q_70.2.1 a0 11 = q_49.2.1 a0 11 from by rw [eq_70]; rfl)) mN_q_49
                    have mU_q_70 : mv_U m17 q_70 := mv_U.eq ((show q_70.2.2.2.2 m17 = q_49.2.2.2.2 m17 from by rw [eq_70]; rfl)) mU_q_49
                    refine wa_iconst B 0 dX12_systems_116 (by decide) ?_
                    refine wa_istore_n B [(3, .int 0), (2, .int v_48), (1, .int v_38), (0, .ref a0)] dX12_systems_117 rfl (by decide) rfl ?_
                    have z_75 : q_70.1 a0 0 = 0 := ((show q_70.1 a0 0 = q_49.1 a0 0 from by rw [eq_70]; rfl)).trans (p0_q_49)
                    have z_76 : q_70.1 a0 2 = (q_5.1 a0 2) := ((show q_70.1 a0 2 = q_49.1 a0 2 from by rw [eq_70]; rfl)).trans (p1_q_49)
                    have z_77 : q_70.1 a0 8 = (q_34.1 a0 8) := ((show q_70.1 a0 8 = q_49.1 a0 8 from by rw [eq_70]; rfl)).trans (p2_q_49)
                    have z_78 : q_70.1 a0 20 = v_38 := ((show q_70.1 a0 20 = q_49.1 a0 20 from by rw [eq_70]; rfl)).trans (p3_q_49)
                    have z_79 : q_70.2.2.1 a0 16 = m16 := ((show q_70.2.2.1 a0 16 = q_49.2.2.1 a0 16 from by rw [eq_70]; rfl)).trans (p4_q_49)
                    have z_80 : q_70.2.2.1 a0 17 = m17 := ((show q_70.2.2.1 a0 17 = q_49.2.2.1 a0 17 from by rw [eq_70]; rfl)).trans (p5_q_49)
                    have z_81 : q_70.2.2.1 a0 18 = m18 := ((show q_70.2.2.1 a0 18 = q_49.2.2.1 a0 18 from by rw [eq_70]; rfl)).trans (p6_q_49)
                    have z_82 : q_70.2.2.1 a0 19 = m19 := ((show q_70.2.2.1 a0 19 = q_49.2.2.1 a0 19 from by rw [eq_70]; rfl)).trans (p7_q_49)
                    have Lp_118_86 : ∀ (n : Nat) (v_73 : Int32) (q_74 : Sg), sx_V h L q_74 → sx_fr h L (fun a => h.1 a = 12 ∨ h.1 a = 113 ∨ h.1 a = 226 ∨ h.1 a = 227 ∨ h.1 a = 128 ∨ h.1 a = 129) q q_74 → sx_kf a0 [0, 14, 15, 2, 4, 5, 10, 20, 31, 49, 50, 6, 7, 8, 9, 11, 12, 13] q q_74 → mv_N a0 q_74 → mv_U m17 q_74 → q_74.1 a0 0 = 0 → q_74.1 a0 2 = (q_5.1 a0 2) → q_74.1 a0 8 = (q_34.1 a0 8) → q_74.1 a0 20 = v_38 → q_74.2.2.1 a0 16 = m16 → q_74.2.2.1 a0 17 = m17 → q_74.2.2.1 a0 18 = m18 → q_74.2.2.1 a0 19 = m19 → q_74.2.2.2.1 m18 = (upd (q_49.2.2.2.1 m18) (v_48 : Int32).toNatClampNeg ((q_49.2.2.2.1 m18 ((3 + v_48) : Int32).toNatClampNeg))) → 0 ≤ v_73.toInt → mv_p (q_74.2.2.2.1 m18) (q_74.2.2.2.1 m19) (v_48).toNatClampNeg (v_73).toNatClampNeg → (q_74.2.2.2.1 m18 (v_48).toNatClampNeg) = (q_74.2.2.2.1 m18 (3 + v_48).toNatClampNeg) → (5 - v_73.toInt : Int).toNat < n → WA l dC dI h L ({ frames := 5, cells := 0, slots := 0, locals := 110 } : Room) 4 Z q_74 118 [(3, .int v_73), (2, .int v_48), (1, .int v_38), (0, .ref a0)] [] := by
                      intro n
                      induction n with
                      | zero =>
                        intro v_73 q_74 hV_q_74 hF_q_74 hK_q_74 mN_q_74 mU_q_74 p0_q_74 p1_q_74 p2_q_74 p3_q_74 p4_q_74 p5_q_74 p6_q_74 p7_q_74 p8_q_74 x_83 x_84 x_85 hn
                        exact absurd hn (Nat.not_lt_zero _)
                      | succ n ih_87 =>
                        intro v_73 q_74 hV_q_74 hF_q_74 hK_q_74 mN_q_74 mU_q_74 p0_q_74 p1_q_74 p2_q_74 p3_q_74 p4_q_74 p5_q_74 p6_q_74 p7_q_74 p8_q_74 x_83 x_84 x_85 hn
                        refine wa_iload_n B dX12_systems_118 rfl 0 rfl ?_
                        refine wa_iconst B 5 dX12_systems_119 (by decide) ?_
                        refine wa_icmp_ge B 173 dX12_systems_120 (by decide) (fun (t_88 : 5 ≤ v_73.toInt) => ?_) (fun (t_88 : ¬ 5 ≤ v_73.toInt) => ?_)
                        · have mF_89 : mv_F m18 m19 q_74 := (mv_p.f x_84 (by rw [zx_nc]; omega) (fun j => (hV_q_74.cnt hm18 km18 j : sx_in _ 0 5).2)).F rfl rfl
                          obtain ⟨v_90, ev_90⟩ : ∃ z : Int32, z = v_48 + 1 := ⟨_, rfl⟩
                          refine wa_iinc B [(2, .int v_90), (3, .int v_73), (1, .int v_38), (0, .ref a0)] v_90 dX12_systems_173 1 rfl (by rw [ev_90]; rfl) (by decide) rfl ?_
                          refine wa_goto B 97 dX12_systems_176 (by decide) ?_
                          have tv_90 : v_90.toInt = v_48.toInt + 1 := by have b0 := zx_bd v_48; rw [ev_90]; exact zx_add (show (-2147483648 : Int) ≤ v_48.toInt + 1 by omega) (show v_48.toInt + 1 < (2147483648 : Int) by omega)
                          refine WA.sub [0, 2, 3] rfl ?_
                          exact ih_59 v_90 q_74 hV_q_74 hF_q_74 hK_q_74 mN_q_74 mF_89 mU_q_74 p0_q_74 p1_q_74 p2_q_74 p3_q_74 p4_q_74 p5_q_74 p6_q_74 p7_q_74 (show 0 ≤ v_90.toInt from by first | assumption | omega | decide) (show (v_38.toInt - v_90.toInt : Int).toNat < _ from by omega)
                        · refine wa_aload_n B dX12_systems_123 rfl 3 rfl ?_
                          refine wa_getR B (C := RX12) (T := TX12) (N := 51) iq_X12_systems_X12 ha0 ka0 (by decide) rfl 17 (by decide) (by decide) (by decide +kernel) rfl (fun _ _ _ => rfl) (v := m17) p5_q_74 dX12_systems_124 ?_
                          refine wa_iconst B 5 dX12_systems_127 (by decide) ?_
                          refine wa_iload_n B dX12_systems_128 rfl 1 rfl ?_
                          refine wa_imul B dX12_systems_129 (fun v_91 ev_91 => ?_)
                          refine wa_iload_n B dX12_systems_130 rfl 0 rfl ?_
                          refine wa_iadd B dX12_systems_131 (fun v_92 ev_92 => ?_)
                          refine wa_aload_n B dX12_systems_132 rfl 3 rfl ?_
                          refine wa_getR B (C := RX12) (T := TX12) (N := 51) iq_X12_systems_X12 ha0 ka0 (by decide) rfl 17 (by decide) (by decide) (by decide +kernel) rfl (fun _ _ _ => rfl) (v := m17) p5_q_74 dX12_systems_133 ?_
                          refine wa_iconst B 5 dX12_systems_136 (by decide) ?_
                          refine wa_iconst B 3 dX12_systems_137 (by decide) ?_
                          refine wa_iload_n B dX12_systems_138 rfl 1 rfl ?_
                          refine wa_iadd B dX12_systems_139 (fun v_93 ev_93 => ?_)
                          refine wa_imul B dX12_systems_140 (fun v_94 ev_94 => ?_)
                          refine wa_iload_n B dX12_systems_141 rfl 0 rfl ?_
                          refine wa_iadd B dX12_systems_142 (fun v_95 ev_95 => ?_)
                          have tv_93 : v_93.toInt = 3 + v_48.toInt := by have b1 := zx_bd v_48; rw [ev_93]; exact zx_add (show (-2147483648 : Int) ≤ 3 + v_48.toInt by omega) (show 3 + v_48.toInt < (2147483648 : Int) by omega)
                          have tv_94 : v_94.toInt = 5 * v_93.toInt := by have b1 := zx_bd v_93; rw [ev_94]; exact zx_mul (show (-2147483648 : Int) ≤ 5 * v_93.toInt by omega) (show 5 * v_93.toInt < (2147483648 : Int) by omega)
                          have tv_95 : v_95.toInt = v_94.toInt + v_73.toInt := by have b0 := zx_bd v_94; have b1 := zx_bd v_73; rw [ev_95]; exact zx_add (show (-2147483648 : Int) ≤ v_94.toInt + v_73.toInt by omega) (show v_94.toInt + v_73.toInt < (2147483648 : Int) by omega)
                          refine wa_laload B hm17 km17 (by decide) (by decide) (show 0 ≤ v_95.toInt by omega) (show v_95.toInt < (h.2.1 m17 : Int) by omega) (v := (q_74.2.2.2.2 m17 (v_95 : Int32).toNatClampNeg)) rfl dX12_systems_143 ?_
                          have tv_91 : v_91.toInt = 5 * v_48.toInt := by have b1 := zx_bd v_48; rw [ev_91]; exact zx_mul (show (-2147483648 : Int) ≤ 5 * v_48.toInt by omega) (show 5 * v_48.toInt < (2147483648 : Int) by omega)
                          have tv_92 : v_92.toInt = v_91.toInt + v_73.toInt := by have b0 := zx_bd v_91; have b1 := zx_bd v_73; rw [ev_92]; exact zx_add (show (-2147483648 : Int) ≤ v_91.toInt + v_73.toInt by omega) (show v_91.toInt + v_73.toInt < (2147483648 : Int) by omega)
                          refine wa_lastore B hm17 km17 (by decide) (by decide) (show 0 ≤ v_92.toInt by omega) (show v_92.toInt < (h.2.1 m17 : Int) by omega) dX12_systems_144 (fun q_96 eq_96 => ?_)
                          have hV_q_96 : sx_V h L q_96 := by rw [eq_96]; exact hV_q_74.pL
                          have hF_q_96 : sx_fr h L (fun a => h.1 a = 12 ∨ h.1 a = 113 ∨ h.1 a = 226 ∨ h.1 a = 227 ∨ h.1 a = 128 ∨ h.1 a = 129) q q_96 := hF_q_74.tr (by rw [eq_96]; exact sx_fr.pL (show h.1 m17 = 200 ∨ (h.1 m17 = 12 ∨ h.1 m17 = 113 ∨ h.1 m17 = 226 ∨ h.1 m17 = 227 ∨ h.1 m17 = 128 ∨ h.1 m17 = 129) from by omega))
                          have z_97 : q_96.2.2.2.2 m17 = (vp_updL (q_74.2.2.2.2 m17) (v_92 : Int32).toNatClampNeg ((q_74.2.2.2.2 m17 (v_95 : Int32).toNatClampNeg))) := by rw [eq_96, sg_pL_e]
                          have z_98 : q_96.2.2.2.2 m17 (v_92 : Int32).toNatClampNeg = (q_74.2.2.2.2 m17 (v_95 : Int32).toNatClampNeg) := by rw [eq_96, sg_pL_e]; exact if_pos rfl
                          have hK_q_96 : sx_kf a0 [0, 14, 15, 2, 4, 5, 10, 20, 31, 49, 50, 6, 7, 8, 9, 11, 12, 13] q q_96 := hK_q_74.tr (sx_kf.eq (by rw [eq_96]; rfl) (by rw [eq_96]; rfl))
                          have mN_q_96 : mv_N a0 q_96 := mv_N.eq ((show q_96.1 a0 8 = q_74.1 a0 8 from by rw [eq_96]; rfl)) ((show q_96.2.1 a0 11 = q_74.2.1 a0 11 from by rw [eq_96]; rfl)) mN_q_74
                          have mU_q_96 : mv_U m17 q_96 := mv_U.up (show q_96.2.2.2.2 m17 = _ from by rw [eq_96]; exact sg_pL_e) (mU_q_74) (by exact mU_q_74 _)
                          refine wa_aload_n B dX12_systems_145 rfl 3 rfl ?_
                          have z_99 : q_96.2.2.1 a0 19 = m19 := ((show q_96.2.2.1 a0 19 = q_74.2.2.1 a0 19 from by rw [eq_96]; rfl)).trans (p7_q_74)
                          refine wa_getR B (C := RX12) (T := TX12) (N := 51) iq_X12_systems_X12 ha0 ka0 (by decide) rfl 19 (by decide) (by decide) (by decide +kernel) rfl (fun _ _ _ => rfl) (v := m19) z_99 dX12_systems_146 ?_
                          refine wa_iconst B 5 dX12_systems_149 (by decide) ?_
                          refine wa_iload_n B dX12_systems_150 rfl 1 rfl ?_
                          refine wa_imul B dX12_systems_151 (fun v_100 ev_100 => ?_)
                          refine wa_iload_n B dX12_systems_152 rfl 0 rfl ?_
                          refine wa_iadd B dX12_systems_153 (fun v_101 ev_101 => ?_)
                          refine wa_aload_n B dX12_systems_154 rfl 3 rfl ?_
                          refine wa_getR B (C := RX12) (T := TX12) (N := 51) iq_X12_systems_X12 ha0 ka0 (by decide) rfl 19 (by decide) (by decide) (by decide +kernel) rfl (fun _ _ _ => rfl) (v := m19) z_99 dX12_systems_155 ?_
                          refine wa_iconst B 5 dX12_systems_158 (by decide) ?_
                          refine wa_iconst B 3 dX12_systems_159 (by decide) ?_
                          refine wa_iload_n B dX12_systems_160 rfl 1 rfl ?_
                          refine wa_iadd B dX12_systems_161 (fun v_102 ev_102 => ?_)
                          refine wa_imul B dX12_systems_162 (fun v_103 ev_103 => ?_)
                          refine wa_iload_n B dX12_systems_163 rfl 0 rfl ?_
                          refine wa_iadd B dX12_systems_164 (fun v_104 ev_104 => ?_)
                          have tv_102 : v_102.toInt = 3 + v_48.toInt := by have b1 := zx_bd v_48; rw [ev_102]; exact zx_add (show (-2147483648 : Int) ≤ 3 + v_48.toInt by omega) (show 3 + v_48.toInt < (2147483648 : Int) by omega)
                          have tv_103 : v_103.toInt = 5 * v_102.toInt := by have b1 := zx_bd v_102; rw [ev_103]; exact zx_mul (show (-2147483648 : Int) ≤ 5 * v_102.toInt by omega) (show 5 * v_102.toInt < (2147483648 : Int) by omega)
                          have tv_104 : v_104.toInt = v_103.toInt + v_73.toInt := by have b0 := zx_bd v_103; have b1 := zx_bd v_73; rw [ev_104]; exact zx_add (show (-2147483648 : Int) ≤ v_103.toInt + v_73.toInt by omega) (show v_103.toInt + v_73.toInt < (2147483648 : Int) by omega)
                          have z_105 : q_96.2.2.2.1 m19 = q_74.2.2.2.1 m19 := (show q_96.2.2.2.1 m19 = q_74.2.2.2.1 m19 from by rw [eq_96]; rfl)
                          have z_106 : q_96.2.2.2.1 m19 (v_104 : Int32).toNatClampNeg = (q_74.2.2.2.1 m19 (v_104 : Int32).toNatClampNeg) := congrFun z_105 _
                          refine wa_iaload B hm19 km19 (by decide) (by decide) (show 0 ≤ v_104.toInt by omega) (show v_104.toInt < (h.2.1 m19 : Int) by omega) (v := (q_74.2.2.2.1 m19 (v_104 : Int32).toNatClampNeg)) z_106 dX12_systems_165 ?_
                          have tv_100 : v_100.toInt = 5 * v_48.toInt := by have b1 := zx_bd v_48; rw [ev_100]; exact zx_mul (show (-2147483648 : Int) ≤ 5 * v_48.toInt by omega) (show 5 * v_48.toInt < (2147483648 : Int) by omega)
                          have tv_101 : v_101.toInt = v_100.toInt + v_73.toInt := by have b0 := zx_bd v_100; have b1 := zx_bd v_73; rw [ev_101]; exact zx_add (show (-2147483648 : Int) ≤ v_100.toInt + v_73.toInt by omega) (show v_100.toInt + v_73.toInt < (2147483648 : Int) by omega)
                          refine wa_iastore B hm19 km19 (by decide) (by decide) (show 0 ≤ v_101.toInt by omega) (show v_101.toInt < (h.2.1 m19 : Int) by omega) dX12_systems_166 (fun q_107 eq_107 => ?_)
                          have hV_q_107 : sx_V h L q_107 := by rw [eq_107]; exact hV_q_96.up1 hm19 km19 trivial
                          have hF_q_107 : sx_fr h L (fun a => h.1 a = 12 ∨ h.1 a = 113 ∨ h.1 a = 226 ∨ h.1 a = 227 ∨ h.1 a = 128 ∨ h.1 a = 129) q q_107 := hF_q_96.tr (by rw [eq_107]; exact sx_fr.pG (show h.1 m19 = 100 ∨ (h.1 m19 = 12 ∨ h.1 m19 = 113 ∨ h.1 m19 = 226 ∨ h.1 m19 = 227 ∨ h.1 m19 = 128 ∨ h.1 m19 = 129) from by omega))
                          have z_108 : q_107.2.2.2.1 m19 = (upd (q_74.2.2.2.1 m19) (v_101 : Int32).toNatClampNeg ((q_74.2.2.2.1 m19 (v_104 : Int32).toNatClampNeg))) := by rw [eq_107, sg_pG_e, z_105]
                          have z_109 : q_107.2.2.2.1 m19 (v_101 : Int32).toNatClampNeg = (q_74.2.2.2.1 m19 (v_104 : Int32).toNatClampNeg) := by rw [eq_107, sg_pG_e]; exact if_pos rfl
                          have hK_q_107 : sx_kf a0 [0, 14, 15, 2, 4, 5, 10, 20, 31, 49, 50, 6, 7, 8, 9, 11, 12, 13] q q_107 := hK_q_96.tr (sx_kf.eq (by rw [eq_107]; rfl) (by rw [eq_107]; rfl))
                          have mN_q_107 : mv_N a0 q_107 := mv_N.eq ((show q_107.1 a0 8 = q_96.1 a0 8 from by rw [eq_107]; rfl)) ((show q_107.2.1 a0 11 = q_96.2.1 a0 11 from by rw [eq_107]; rfl)) mN_q_96
                          have mU_q_107 : mv_U m17 q_107 := mv_U.eq ((show q_107.2.2.2.2 m17 = q_96.2.2.2.2 m17 from by rw [eq_107]; rfl)) mU_q_96
                          obtain ⟨v_110, ev_110⟩ : ∃ z : Int32, z = v_73 + 1 := ⟨_, rfl⟩
                          refine wa_iinc B [(3, .int v_110), (2, .int v_48), (1, .int v_38), (0, .ref a0)] v_110 dX12_systems_167 0 rfl (by rw [ev_110]; rfl) (by decide) rfl ?_
                          refine wa_goto B 118 dX12_systems_170 (by decide) ?_
                          have tv_110 : v_110.toInt = v_73.toInt + 1 := by have b0 := zx_bd v_73; rw [ev_110]; exact zx_add (show (-2147483648 : Int) ≤ v_73.toInt + 1 by omega) (show v_73.toInt + 1 < (2147483648 : Int) by omega)
                          have z_111 : q_107.1 a0 0 = 0 := ((show q_107.1 a0 0 = q_96.1 a0 0 from by rw [eq_107]; rfl)).trans (((show q_96.1 a0 0 = q_74.1 a0 0 from by rw [eq_96]; rfl)).trans (p0_q_74))
                          have z_112 : q_107.1 a0 2 = (q_5.1 a0 2) := ((show q_107.1 a0 2 = q_96.1 a0 2 from by rw [eq_107]; rfl)).trans (((show q_96.1 a0 2 = q_74.1 a0 2 from by rw [eq_96]; rfl)).trans (p1_q_74))
                          have z_113 : q_107.1 a0 8 = (q_34.1 a0 8) := ((show q_107.1 a0 8 = q_96.1 a0 8 from by rw [eq_107]; rfl)).trans (((show q_96.1 a0 8 = q_74.1 a0 8 from by rw [eq_96]; rfl)).trans (p2_q_74))
                          have z_114 : q_107.1 a0 20 = v_38 := ((show q_107.1 a0 20 = q_96.1 a0 20 from by rw [eq_107]; rfl)).trans (((show q_96.1 a0 20 = q_74.1 a0 20 from by rw [eq_96]; rfl)).trans (p3_q_74))
                          have z_115 : q_107.2.2.1 a0 16 = m16 := ((show q_107.2.2.1 a0 16 = q_96.2.2.1 a0 16 from by rw [eq_107]; rfl)).trans (((show q_96.2.2.1 a0 16 = q_74.2.2.1 a0 16 from by rw [eq_96]; rfl)).trans (p4_q_74))
                          have z_116 : q_107.2.2.1 a0 17 = m17 := ((show q_107.2.2.1 a0 17 = q_96.2.2.1 a0 17 from by rw [eq_107]; rfl)).trans (((show q_96.2.2.1 a0 17 = q_74.2.2.1 a0 17 from by rw [eq_96]; rfl)).trans (p5_q_74))
                          have z_117 : q_107.2.2.1 a0 18 = m18 := ((show q_107.2.2.1 a0 18 = q_96.2.2.1 a0 18 from by rw [eq_107]; rfl)).trans (((show q_96.2.2.1 a0 18 = q_74.2.2.1 a0 18 from by rw [eq_96]; rfl)).trans (p6_q_74))
                          have z_118 : q_107.2.2.1 a0 19 = m19 := ((show q_107.2.2.1 a0 19 = q_96.2.2.1 a0 19 from by rw [eq_107]; rfl)).trans (z_99)
                          have z_119 : q_107.2.2.2.1 m18 = (upd (q_49.2.2.2.1 m18) (v_48 : Int32).toNatClampNeg ((q_49.2.2.2.1 m18 ((3 + v_48) : Int32).toNatClampNeg))) := ((show q_107.2.2.2.1 m18 = q_96.2.2.2.1 m18 from by rw [eq_107]; exact sg_pG_a (sx_ka h km18 km19 (by decide)))).trans (((show q_96.2.2.2.1 m18 = q_74.2.2.2.1 m18 from by rw [eq_96]; rfl)).trans (p8_q_74))
                          exact ih_87 v_110 q_107 hV_q_107 hF_q_107 hK_q_107 mN_q_107 mU_q_107 z_111 z_112 z_113 z_114 z_115 z_116 z_117 z_118 z_119 (show 0 ≤ v_110.toInt from by first | assumption | omega | decide) (show mv_p (q_107.2.2.2.1 m18) (q_107.2.2.2.1 m19) (v_48).toNatClampNeg (v_110).toNatClampNeg from by have a1 := zx_nc v_48; have a2 := zx_nc v_73; have a3 := zx_nc v_110; have a4 := zx_nc v_101; have a5 := zx_nc v_104; have a6 := zx_nc (3 + v_48); have j1 : (v_101 : Int32).toNatClampNeg = 5 * (v_48 : Int32).toNatClampNeg + (v_73 : Int32).toNatClampNeg := (by omega); have j2 : (v_104 : Int32).toNatClampNeg = 5 * (3 + (v_48 : Int32).toNatClampNeg) + (v_73 : Int32).toNatClampNeg := (by omega); have j3 : (v_110 : Int32).toNatClampNeg = (v_73 : Int32).toNatClampNeg + 1 := (by omega); have j4 : (3 + v_48 : Int32).toNatClampNeg = 3 + (v_48 : Int32).toNatClampNeg := (by omega); rw [show q_107.2.2.2.1 m18 = q_74.2.2.2.1 m18 from (z_119).trans (p8_q_74).symm, z_108, j1, j3]; exact mv_p.st x_84 (by omega) (by omega) (fun j => (hV_q_74.cnt hm18 km18 j : sx_in _ 0 5).2) (by rw [← j4]; exact x_85) (by rw [j2])) (show (q_107.2.2.2.1 m18 (v_48).toNatClampNeg) = (q_107.2.2.2.1 m18 (3 + v_48).toNatClampNeg) from by rw [show q_107.2.2.2.1 m18 = q_74.2.2.2.1 m18 from (z_119).trans (p8_q_74).symm]; exact x_85) (show (5 - v_110.toInt : Int).toNat < _ from by omega)
                    exact Lp_118_86 _ 0 q_70 hV_q_70 hF_q_70 hK_q_70 mN_q_70 mU_q_70 z_75 z_76 z_77 z_78 z_79 z_80 z_81 z_82 z_71 (show 0 ≤ 0 from by first | assumption | omega | decide) (show mv_p (q_70.2.2.2.1 m18) (q_70.2.2.2.1 m19) (v_48).toNatClampNeg ((0 : Int32)).toNatClampNeg from by have z9 := mv_f.p (s := (v_48 : Int32).toNatClampNeg) (v := (q_49.2.2.2.1 m18 ((3 + v_48) : Int32).toNatClampNeg)) ((mF_q_49).f rfl rfl); rw [z_71, show q_70.2.2.2.1 m19 = q_49.2.2.2.1 m19 from (by rw [eq_70]; exact sg_pG_a (sx_ka h km19 km18 (by decide)))]; exact z9) (show (q_70.2.2.2.1 m18 (v_48).toNatClampNeg) = (q_70.2.2.2.1 m18 (3 + v_48).toNatClampNeg) from by rw [z_71]; exact zx_u1.trans (zx_u2 (show ¬ ((3 + v_48 : Int32).toNatClampNeg = (v_48 : Int32).toNatClampNeg) from by have a9 := zx_nc (3 + v_48); have a8 := zx_nc v_48; omega)).symm) (Nat.lt_succ_self _)
              exact Lp_97_58 _ 0 q_46 hV_q_46 hF_q_46 hK_q_46 mN_q_46 mF_q_46 mU_q_46 z_50 z_51 z_52 z_47 z_53 z_54 z_55 z_56 (show 0 ≤ 0 from by first | assumption | omega | decide) (Nat.lt_succ_self _)
          · refine wa_iconst B (-1) dX12_systems_73 (by decide) ?_
            refine wa_aload_n B dX12_systems_74 rfl 1 rfl ?_
            refine wa_getI B (C := RX12) (T := TX12) (N := 51) iq_X12_systems_X12 ha0 ka0 (by decide) rfl 15 (by decide) (by decide) (by decide +kernel) rfl (by decide) (v := (q_34.1 a0 15)) rfl dX12_systems_75 ?_
            refine wa_isub B dX12_systems_78 (fun v_120 ev_120 => ?_)
            have tv_120 : v_120.toInt = (-1) - (q_34.1 a0 15).toInt := by have b1 := zx_bd (q_34.1 a0 15); rw [ev_120]; exact zx_sub (show (-2147483648 : Int) ≤ (-1) - (q_34.1 a0 15).toInt by omega) (show (-1) - (q_34.1 a0 15).toInt < (2147483648 : Int) by omega)
            have z_121 : q_34.1 a0 2 = (q_5.1 a0 2) := (h3_q_34.1 2 (by decide)).trans ((h3_q_28.1 2 (by decide)).trans (p1_q_8))
            have y_122 : (q_34.1 a0 2).toInt = (q_5.1 a0 2).toInt := by rw [z_121]
            exact hret _ _ _ _ dX12_systems_79 ⟨hV_q_34, hF_q_34, hK_q_34, mN_q_34, mF_q_34, mU_q_34, (by first | omega | (refine ⟨?_, ?_⟩ <;> omega) | trivial)⟩
        · refine wa_aload_n B dX12_systems_48 rfl 1 rfl ?_
          refine wa_iconst B 4 dX12_systems_49 (by decide) ?_
          refine wa_callVi B (x := (RX12, TX12, 51)) (As := [.int 4]) (rest := []) (k_X12_bad l dC dI h L hN q_8 hV_q_8 (a0 := a0) ha0 ka0 4  ) (cwV 1 B.1.2.2.2.2 gX12_systems_X12_bad rfl rfl rfl (by decide +kernel) ⟨Nat.le_of_ble_eq_true rfl, Nat.le_of_ble_eq_true rfl⟩) ha0 ka0 (by decide) rfl rfl rfl (Nat.le_of_ble_eq_true rfl) dX12_systems_50 (fun r_124 q_123 w_125 => ?_)
          obtain ⟨hV_q_123, h2_q_123, h3_q_123, hw_125⟩ := w_125
          have hF_q_123 : sx_fr h L (fun a => h.1 a = 12 ∨ h.1 a = 113 ∨ h.1 a = 226 ∨ h.1 a = 227 ∨ h.1 a = 128 ∨ h.1 a = 129) q q_123 := hF_q_8.tr (h2_q_123.mono (fun a (z : h.1 a = 12) => (show h.1 a = 12 ∨ h.1 a = 113 ∨ h.1 a = 226 ∨ h.1 a = 227 ∨ h.1 a = 128 ∨ h.1 a = 129 from by omega)))
          have hK_q_123 : sx_kf a0 [0, 14, 15, 2, 4, 5, 10, 20, 31, 49, 50, 6, 7, 8, 9, 11, 12, 13] q q_123 := hK_q_8.tr (h3_q_123.mono (by decide))
          have mN_q_123 : mv_N a0 q_123 := mv_N.eq (h3_q_123.1 8 (by decide)) (h3_q_123.2 11 (by decide)) mN_q_8
          have mF_q_123 : mv_F m18 m19 q_123 := mv_F.eq (h2_q_123.G hm18 (show ¬ (h.1 m18 = 12) from by omega) (by rw [km18]; decide)) (h2_q_123.G hm19 (show ¬ (h.1 m19 = 12) from by omega) (by rw [km19]; decide)) mF_q_8
          have mU_q_123 : mv_U m17 q_123 := mv_U.eq (h2_q_123.Lg hm17 (show ¬ (h.1 m17 = 12) from by omega) (by rw [km17]; decide)) mU_q_8
          refine wa_pop B dX12_systems_53 rfl ?_
          refine wa_iconst B (-1) dX12_systems_54 (by decide) ?_
          refine wa_aload_n B dX12_systems_55 rfl 1 rfl ?_
          refine wa_getI B (C := RX12) (T := TX12) (N := 51) iq_X12_systems_X12 ha0 ka0 (by decide) rfl 15 (by decide) (by decide) (by decide +kernel) rfl (by decide) (v := (q_123.1 a0 15)) rfl dX12_systems_56 ?_
          refine wa_isub B dX12_systems_59 (fun v_126 ev_126 => ?_)
          have tv_126 : v_126.toInt = (-1) - (q_123.1 a0 15).toInt := by have b1 := zx_bd (q_123.1 a0 15); rw [ev_126]; exact zx_sub (show (-2147483648 : Int) ≤ (-1) - (q_123.1 a0 15).toInt by omega) (show (-1) - (q_123.1 a0 15).toInt < (2147483648 : Int) by omega)
          have z_127 : q_123.1 a0 2 = (q_5.1 a0 2) := (h3_q_123.1 2 (by decide)).trans (p1_q_8)
          have y_128 : (q_123.1 a0 2).toInt = (q_5.1 a0 2).toInt := by rw [z_127]
          exact hret _ _ _ _ dX12_systems_60 ⟨hV_q_123, hF_q_123, hK_q_123, mN_q_123, mF_q_123, mU_q_123, (by first | omega | (refine ⟨?_, ?_⟩ <;> omega) | trivial)⟩
      · refine wa_aload_n B dX12_systems_30 rfl 1 rfl ?_
        refine wa_iconst B 1 dX12_systems_31 (by decide) ?_
        refine wa_callVi B (x := (RX12, TX12, 51)) (As := [.int 1]) (rest := []) (k_X12_bad l dC dI h L hN q_8 hV_q_8 (a0 := a0) ha0 ka0 1  ) (cwV 1 B.1.2.2.2.2 gX12_systems_X12_bad rfl rfl rfl (by decide +kernel) ⟨Nat.le_of_ble_eq_true rfl, Nat.le_of_ble_eq_true rfl⟩) ha0 ka0 (by decide) rfl rfl rfl (Nat.le_of_ble_eq_true rfl) dX12_systems_32 (fun r_130 q_129 w_131 => ?_)
        obtain ⟨hV_q_129, h2_q_129, h3_q_129, hw_131⟩ := w_131
        have hF_q_129 : sx_fr h L (fun a => h.1 a = 12 ∨ h.1 a = 113 ∨ h.1 a = 226 ∨ h.1 a = 227 ∨ h.1 a = 128 ∨ h.1 a = 129) q q_129 := hF_q_8.tr (h2_q_129.mono (fun a (z : h.1 a = 12) => (show h.1 a = 12 ∨ h.1 a = 113 ∨ h.1 a = 226 ∨ h.1 a = 227 ∨ h.1 a = 128 ∨ h.1 a = 129 from by omega)))
        have hK_q_129 : sx_kf a0 [0, 14, 15, 2, 4, 5, 10, 20, 31, 49, 50, 6, 7, 8, 9, 11, 12, 13] q q_129 := hK_q_8.tr (h3_q_129.mono (by decide))
        have mN_q_129 : mv_N a0 q_129 := mv_N.eq (h3_q_129.1 8 (by decide)) (h3_q_129.2 11 (by decide)) mN_q_8
        have mF_q_129 : mv_F m18 m19 q_129 := mv_F.eq (h2_q_129.G hm18 (show ¬ (h.1 m18 = 12) from by omega) (by rw [km18]; decide)) (h2_q_129.G hm19 (show ¬ (h.1 m19 = 12) from by omega) (by rw [km19]; decide)) mF_q_8
        have mU_q_129 : mv_U m17 q_129 := mv_U.eq (h2_q_129.Lg hm17 (show ¬ (h.1 m17 = 12) from by omega) (by rw [km17]; decide)) mU_q_8
        refine wa_pop B dX12_systems_35 rfl ?_
        refine wa_iconst B (-1) dX12_systems_36 (by decide) ?_
        refine wa_aload_n B dX12_systems_37 rfl 1 rfl ?_
        refine wa_getI B (C := RX12) (T := TX12) (N := 51) iq_X12_systems_X12 ha0 ka0 (by decide) rfl 15 (by decide) (by decide) (by decide +kernel) rfl (by decide) (v := (q_129.1 a0 15)) rfl dX12_systems_38 ?_
        refine wa_isub B dX12_systems_41 (fun v_132 ev_132 => ?_)
        have tv_132 : v_132.toInt = (-1) - (q_129.1 a0 15).toInt := by have b1 := zx_bd (q_129.1 a0 15); rw [ev_132]; exact zx_sub (show (-2147483648 : Int) ≤ (-1) - (q_129.1 a0 15).toInt by omega) (show (-1) - (q_129.1 a0 15).toInt < (2147483648 : Int) by omega)
        have z_133 : q_129.1 a0 2 = (q_5.1 a0 2) := (h3_q_129.1 2 (by decide)).trans (p1_q_8)
        have y_134 : (q_129.1 a0 2).toInt = (q_5.1 a0 2).toInt := by rw [z_133]
        exact hret _ _ _ _ dX12_systems_42 ⟨hV_q_129, hF_q_129, hK_q_129, mN_q_129, mF_q_129, mU_q_129, (by first | omega | (refine ⟨?_, ?_⟩ <;> omega) | trivial)⟩
  exact Lp_20_21 _ 0 q_5 hV_q_5 hF_q_5 hK_q_5 mN_q_5 mF_q_5 mU_q_5 z_9 rfl z_11 z_12 z_13 z_14 (show 0 ≤ 0 from by first | assumption | omega | decide) (show 0 ≤ 3 from by first | assumption | omega | decide) (Nat.lt_succ_self _)
