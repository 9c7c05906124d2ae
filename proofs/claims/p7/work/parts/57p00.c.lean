set_option maxHeartbeats 4000000 in
set_option maxRecDepth 100000 in
theorem k_X12_readUnit_c (l : Launch) (dC : Nat → ClassId) (dI : Nat → Nat → Nat) (h : Sh) (L : List Nat) (hN : sx_nd L) (q : Sg) (hV : sx_V h L q) {a0 : Nat} (ha0 : a0 ∈ L) (ka0 : h.1 a0 = 12) (n1 : Int32) {m3 : Nat} (em3 : q.2.2.1 a0 3 = m3) {m16 : Nat} (em16 : q.2.2.1 a0 16 = m16) {m17 : Nat} (em17 : q.2.2.1 a0 17 = m17) {m18 : Nat} (em18 : q.2.2.1 a0 18 = m18) {m19 : Nat} (em19 : q.2.2.1 a0 19 = m19) (mN : mv_N a0 q) (mF : mv_F m18 m19 q) (mU : mv_U m17 q) (F : Nat → Int32) (n9 : Nat) (R9 : Option Nat × PU) (hy0 : 0 ≤ n1.toInt) (hy1 : n1.toInt ≤ 2) (hy2 : (q.2.2.2.1 m18 (3 + n1).toNatClampNeg).toInt ≤ 4) (hy3 : (q.2.2.2.1 m18 (3 + n1).toNatClampNeg).toInt = 0 ∨ 2 ≤ (q.2.2.2.1 m19 (5 * (3 + n1).toNatClampNeg + (q.2.2.2.1 m18 (3 + n1).toNatClampNeg).toInt.toNat)).toInt ∧ (q.2.2.2.1 m19 (5 * (3 + n1).toNatClampNeg + (q.2.2.2.1 m18 (3 + n1).toNatClampNeg).toInt.toNat)).toInt ≤ 60) (hn9 : (n9 : Int) = (q.1 a0 4).toInt) (hFF : ∀ j : Nat, j < n9 → q.2.2.2.1 m3 j = F j) (hm4 : (q.1 a0 5).toInt = 400) (hb0 : (q.1 a0 10).toInt = 0) (hts : (q.1 a0 6).toInt ≤ (q.1 a0 4).toInt) (hP : rs_P F n9 R9 3 (n1.toInt.toNat + 1) (q.1 a0 8) (q.1 a0 9) (q.1 a0 7) (q.1 a0 6) (q.1 a0 12) (q.1 a0 13) (q.2.1 a0 11) (q.2.2.2.2 m16) (q.2.2.2.2 m17) (q.2.2.2.1 m18) (q.2.2.2.1 m19)) : CMi l dC dI h L yX12_readUnit wsX12_readUnit ({ frames := 3, cells := 0, slots := 0, locals := 65 } : Room) q [.ref a0, .int n1] (fun r q' => sx_V h L q' ∧ sx_fr h L (fun a => h.1 a = 12 ∨ h.1 a = 227 ∨ h.1 a = 128) q q' ∧ sx_kf a0 [6, 7, 8, 9, 11, 12, 13, 14, 15] q q' ∧ mv_N a0 q' ∧ mv_F m18 m19 q' ∧ mv_U m17 q' ∧ ((r.toInt = 1 ∧ (q'.2.2.2.1 m18 (3 + n1).toNatClampNeg).toInt = (q.2.2.2.1 m18 (3 + n1).toNatClampNeg).toInt + 1 ∨ r.toInt = 0) ∧ (r.toInt = 0 ∧ 0 ≤ (q'.1 a0 15).toInt ∧ R9.1 = some (q'.1 a0 15).toInt.toNat ∨ r.toInt = 1 ∧ (q'.1 a0 6).toInt ≤ (q'.1 a0 4).toInt ∧ rs_P F n9 R9 4 (n1.toInt.toNat + 1) (q'.1 a0 8) (q'.1 a0 9) (q'.1 a0 7) (q'.1 a0 6) (q'.1 a0 12) (q'.1 a0 13) (q'.2.1 a0 11) (q'.2.2.2.2 m16) (q'.2.2.2.2 m17) (q'.2.2.2.1 m18) (q'.2.2.2.1 m19)) ∧ rs_lo (q.2.2.2.2 m17) (q'.2.2.2.2 m17) (q.2.2.2.1 m18) (q'.2.2.2.1 m18) (q.2.2.2.1 m19) (q'.2.2.2.1 m19))) := by
  refine cm_z (cc := cX12_readUnit) (mL := 3) (own := RX12) hN (by decide) rfl rfl (Nat.le_of_ble_eq_true rfl) (fun Z B hret => ?_)
  have hF : sx_fr h L (fun a => h.1 a = 12 ∨ h.1 a = 227 ∨ h.1 a = 128) q q := sx_fr.rf
  have hK : sx_kf a0 [6, 7, 8, 9, 11, 12, 13, 14, 15] q q := sx_kf.rf
  obtain ⟨hm3, km3, lm3⟩ : m3 ∈ L ∧ h.1 m3 = 113 ∧ h.2.1 m3 = 500 := by obtain ⟨r9, e9, z1, z2, z3⟩ := hV.refn (t := 113) (n := 500) ha0 ka0 3 rfl (by decide) rfl (by decide); rw [← em3, e9]; exact ⟨z1, z2, z3⟩
  obtain ⟨hm16, km16, lm16⟩ : m16 ∈ L ∧ h.1 m16 = 226 ∧ h.2.1 m16 = 6 := by obtain ⟨r9, e9, z1, z2, z3⟩ := hV.refn (t := 226) (n := 6) ha0 ka0 16 rfl (by decide) rfl (by decide); rw [← em16, e9]; exact ⟨z1, z2, z3⟩
  obtain ⟨hm17, km17, lm17⟩ : m17 ∈ L ∧ h.1 m17 = 227 ∧ h.2.1 m17 = 30 := by obtain ⟨r9, e9, z1, z2, z3⟩ := hV.refn (t := 227) (n := 30) ha0 ka0 17 rfl (by decide) rfl (by decide); rw [← em17, e9]; exact ⟨z1, z2, z3⟩
  obtain ⟨hm18, km18, lm18⟩ : m18 ∈ L ∧ h.1 m18 = 128 ∧ h.2.1 m18 = 6 := by obtain ⟨r9, e9, z1, z2, z3⟩ := hV.refn (t := 128) (n := 6) ha0 ka0 18 rfl (by decide) rfl (by decide); rw [← em18, e9]; exact ⟨z1, z2, z3⟩
  obtain ⟨hm19, km19, lm19⟩ : m19 ∈ L ∧ h.1 m19 = 129 ∧ h.2.1 m19 = 30 := by obtain ⟨r9, e9, z1, z2, z3⟩ := hV.refn (t := 129) (n := 30) ha0 ka0 19 rfl (by decide) rfl (by decide); rw [← em19, e9]; exact ⟨z1, z2, z3⟩
  show WA l dC dI h L ({ frames := 3, cells := 0, slots := 0, locals := 65 } : Room) 3 Z q 0 [(0, .ref a0), (1, .int n1)] []
  obtain ⟨A9, hT, hC⟩ := hP
  have hpl := hT.1
  refine wa_iconst B 3 dX12_readUnit_0 (by decide) ?_
  refine wa_iload_n B dX12_readUnit_1 rfl 1 rfl ?_
  refine wa_iadd B dX12_readUnit_2 (fun v_1 ev_1 => ?_)
  subst ev_1
  refine wa_istore_n B [(2, .int (3 + n1)), (0, .ref a0), (1, .int n1)] dX12_readUnit_3 rfl (by decide) rfl ?_
  have t_2 : (3 + n1).toInt = 3 + n1.toInt := by have b1 := zx_bd n1; exact zx_add (show (-2147483648 : Int) ≤ 3 + n1.toInt by omega) (show 3 + n1.toInt < (2147483648 : Int) by omega)
  have e3 : (3 + n1 : Int32).toNatClampNeg = 3 + n1.toInt.toNat := by rw [zx_nc]; omega
  refine wa_aload_n B dX12_readUnit_4 rfl 1 rfl ?_
  refine wa_callVi B (x := (RX12, TX12, 51)) (As := []) (rest := []) (k_X12_isFree_c l dC dI h L hN q hV (a0 := a0) ha0 ka0  ) (cwV 0 B.1.2.2.2.2 gX12_readUnit_X12_isFree rfl rfl rfl (by decide +kernel) ⟨Nat.le_of_ble_eq_true rfl, Nat.le_of_ble_eq_true rfl⟩) ha0 ka0 (by decide) rfl rfl rfl (Nat.le_of_ble_eq_true rfl) dX12_readUnit_5 (fun r_4 q_3 w_5 => ?_)
  obtain ⟨ew_5, hw_5⟩ := w_5
  subst ew_5
  refine wa_if_ne B 17 dX12_readUnit_8 (by decide) (fun (t_6 : ¬ r_4.toInt = 0) => ?_) (fun (t_6 : r_4.toInt = 0) => ?_)
  · refine wa_aload_n B dX12_readUnit_17 rfl 1 rfl ?_
    refine wa_iload_n B dX12_readUnit_18 rfl 2 rfl ?_
    refine wa_callVi B (x := (RX12, TX12, 51)) (As := [.int n1]) (rest := []) (k_X12_isTaken_c l dC dI h L hN q hV (a0 := a0) ha0 ka0 n1 (m16 := m16) em16 (m17 := m17) em17 (m18 := m18) em18  (by first | assumption | omega | decide) (by first | assumption | omega | decide)) (cwV 1 B.1.2.2.2.2 gX12_readUnit_X12_isTaken rfl rfl rfl (by decide +kernel) ⟨Nat.le_of_ble_eq_true rfl, Nat.le_of_ble_eq_true rfl⟩) ha0 ka0 (by decide) rfl rfl rfl (Nat.le_of_ble_eq_true rfl) dX12_readUnit_19 (fun r_8 q_7 w_9 => ?_)
    obtain ⟨ew_9, hw_9⟩ := w_9
    subst ew_9
    refine wa_if_eq B 31 dX12_readUnit_22 (by decide) (fun (t_10 : r_8.toInt = 0) => ?_) (fun (t_10 : ¬ r_8.toInt = 0) => ?_)
    · refine wa_aload_n B dX12_readUnit_31 rfl 1 rfl ?_
      refine wa_getR B (C := RX12) (T := TX12) (N := 51) iq_X12_readUnit_X12 ha0 ka0 (by decide) rfl 17 (by decide) (by decide) (by decide +kernel) rfl (fun _ _ _ => rfl) (v := m17) em17 dX12_readUnit_32 ?_
      refine wa_iconst B 5 dX12_readUnit_35 (by decide) ?_
      refine wa_iload_n B dX12_readUnit_36 rfl 0 rfl ?_
      refine wa_imul B dX12_readUnit_37 (fun v_11 ev_11 => ?_)
      refine wa_aload_n B dX12_readUnit_38 rfl 1 rfl ?_
      refine wa_getR B (C := RX12) (T := TX12) (N := 51) iq_X12_readUnit_X12 ha0 ka0 (by decide) rfl 18 (by decide) (by decide) (by decide +kernel) rfl (fun _ _ _ => rfl) (v := m18) em18 dX12_readUnit_39 ?_
      refine wa_iload_n B dX12_readUnit_42 rfl 0 rfl ?_
      refine wa_iaload B hm18 km18 (by decide) (by decide) (show 0 ≤ (3 + n1).toInt by omega) (show (3 + n1).toInt < (h.2.1 m18 : Int) by omega) (v := (q.2.2.2.1 m18 ((3 + n1) : Int32).toNatClampNeg)) rfl dX12_readUnit_43 ?_
      have g_12 : (0 : Int) ≤ ((q.2.2.2.1 m18 ((3 + n1) : Int32).toNatClampNeg)).toInt ∧ ((q.2.2.2.1 m18 ((3 + n1) : Int32).toNatClampNeg)).toInt ≤ 5 := hV.cnt hm18 km18 _
      refine wa_iadd B dX12_readUnit_44 (fun v_13 ev_13 => ?_)
      refine wa_aload_n B dX12_readUnit_45 rfl 1 rfl ?_
      refine wa_getJ B (C := RX12) (T := TX12) (N := 51) iq_X12_readUnit_X12 ha0 ka0 (by decide) rfl 11 (by decide) (by decide) (by decide +kernel) rfl (by decide) (v := (q.2.1 a0 11)) rfl dX12_readUnit_46 ?_
      have tv_11 : v_11.toInt = 5 * (3 + n1).toInt := by have b1 := zx_bd (3 + n1); rw [ev_11]; exact zx_mul (show (-2147483648 : Int) ≤ 5 * (3 + n1).toInt by omega) (show 5 * (3 + n1).toInt < (2147483648 : Int) by omega)
      have tv_13 : v_13.toInt = v_11.toInt + ((q.2.2.2.1 m18 ((3 + n1) : Int32).toNatClampNeg)).toInt := by have b0 := zx_bd v_11; have b1 := zx_bd ((q.2.2.2.1 m18 ((3 + n1) : Int32).toNatClampNeg)); rw [ev_13]; exact zx_add (show (-2147483648 : Int) ≤ v_11.toInt + ((q.2.2.2.1 m18 ((3 + n1) : Int32).toNatClampNeg)).toInt by omega) (show v_11.toInt + ((q.2.2.2.1 m18 ((3 + n1) : Int32).toNatClampNeg)).toInt < (2147483648 : Int) by omega)
      refine wa_lastore B hm17 km17 (by decide) (by decide) (show 0 ≤ v_13.toInt by omega) (show v_13.toInt < (h.2.1 m17 : Int) by omega) dX12_readUnit_49 (fun q_14 eq_14 => ?_)
      have hV_q_14 : sx_V h L q_14 := by rw [eq_14]; exact hV.pL
      have hF_q_14 : sx_fr h L (fun a => h.1 a = 12 ∨ h.1 a = 227 ∨ h.1 a = 128) q q_14 := hF.tr (by rw [eq_14]; exact sx_fr.pL (show h.1 m17 = 200 ∨ (h.1 m17 = 12 ∨ h.1 m17 = 227 ∨ h.1 m17 = 128) from Or.inr (Or.inr (Or.inl km17))))
      have z_15 : q_14.2.2.2.2 m17 = (vp_updL (q.2.2.2.2 m17) (v_13 : Int32).toNatClampNeg (q.2.1 a0 11)) := by rw [eq_14, sg_pL_e]
      have z_16 : q_14.2.2.2.2 m17 (v_13 : Int32).toNatClampNeg = (q.2.1 a0 11) := by rw [eq_14, sg_pL_e]; exact if_pos rfl
      have hK_q_14 : sx_kf a0 [6, 7, 8, 9, 11, 12, 13, 14, 15] q q_14 := hK.tr (sx_kf.eq (by rw [eq_14]; rfl) (by rw [eq_14]; rfl))
      have mN_q_14 : mv_N a0 q_14 := mv_N.eq ((show q_14.1 a0 8 = q.1 a0 8 from by rw [eq_14]; rfl)) ((show q_14.2.1 a0 11 = q.2.1 a0 11 from by rw [eq_14]; rfl)) mN
      have mF_q_14 : mv_F m18 m19 q_14 := mv_F.eq ((show q_14.2.2.2.1 m18 = q.2.2.2.1 m18 from by rw [eq_14]; rfl)) ((show q_14.2.2.2.1 m19 = q.2.2.2.1 m19 from by rw [eq_14]; rfl)) mF
      have mU_q_14 : mv_U m17 q_14 := mv_U.up (show q_14.2.2.2.2 m17 = _ from by rw [eq_14]; exact sg_pL_e) (mU) (by exact mN (by omega))
      refine wa_aload_n B dX12_readUnit_50 rfl 1 rfl ?_
      have z_17 : q_14.2.2.1 a0 18 = m18 := ((show q_14.2.2.1 a0 18 = q.2.2.1 a0 18 from by rw [eq_14]; rfl)).trans (em18)
      refine wa_getR B (C := RX12) (T := TX12) (N := 51) iq_X12_readUnit_X12 ha0 ka0 (by decide) rfl 18 (by decide) (by decide) (by decide +kernel) rfl (fun _ _ _ => rfl) (v := m18) z_17 dX12_readUnit_51 ?_
      refine wa_iload_n B dX12_readUnit_54 rfl 0 rfl ?_
      refine wa_dup2 B dX12_readUnit_55 rfl rfl ?_
      have z_18 : q_14.2.2.2.1 m18 ((3 + n1) : Int32).toNatClampNeg = (q.2.2.2.1 m18 ((3 + n1) : Int32).toNatClampNeg) := (congrFun ((show q_14.2.2.2.1 m18 = q.2.2.2.1 m18 from by rw [eq_14]; rfl)) _).trans rfl
      refine wa_iaload B hm18 km18 (by decide) (by decide) (show 0 ≤ (3 + n1).toInt by omega) (show (3 + n1).toInt < (h.2.1 m18 : Int) by omega) (v := (q.2.2.2.1 m18 ((3 + n1) : Int32).toNatClampNeg)) z_18 dX12_readUnit_56 ?_
      refine wa_iconst B 1 dX12_readUnit_57 (by decide) ?_
      refine wa_iadd B dX12_readUnit_58 (fun v_19 ev_19 => ?_)
      have z_20 : q_14.2.2.2.1 m18 = q.2.2.2.1 m18 := (show q_14.2.2.2.1 m18 = q.2.2.2.1 m18 from by rw [eq_14]; rfl)
      have z_21 : q_14.2.2.2.1 m19 = q.2.2.2.1 m19 := (show q_14.2.2.2.1 m19 = q.2.2.2.1 m19 from by rw [eq_14]; rfl)
      refine wa_iastore B hm18 km18 (by decide) (by decide) (show 0 ≤ (3 + n1).toInt by omega) (show (3 + n1).toInt < (h.2.1 m18 : Int) by omega) dX12_readUnit_59 (fun q_22 eq_22 => ?_)
      have tv_19 : v_19.toInt = ((q.2.2.2.1 m18 ((3 + n1) : Int32).toNatClampNeg)).toInt + 1 := by have b0 := zx_bd ((q.2.2.2.1 m18 ((3 + n1) : Int32).toNatClampNeg)); rw [ev_19]; exact zx_add (show (-2147483648 : Int) ≤ ((q.2.2.2.1 m18 ((3 + n1) : Int32).toNatClampNeg)).toInt + 1 by omega) (show ((q.2.2.2.1 m18 ((3 + n1) : Int32).toNatClampNeg)).toInt + 1 < (2147483648 : Int) by omega)
      have hV_q_22 : sx_V h L q_22 := by rw [eq_22]; exact hV_q_14.up1 hm18 km18 (show sx_in v_19 (0) 5 from ⟨by omega, by omega⟩)
      have hF_q_22 : sx_fr h L (fun a => h.1 a = 12 ∨ h.1 a = 227 ∨ h.1 a = 128) q q_22 := hF_q_14.tr (by rw [eq_22]; exact sx_fr.pG (show h.1 m18 = 100 ∨ (h.1 m18 = 12 ∨ h.1 m18 = 227 ∨ h.1 m18 = 128) from Or.inr (Or.inr (Or.inr km18))))
      have z_23 : q_22.2.2.2.1 m18 = (upd (q.2.2.2.1 m18) ((3 + n1) : Int32).toNatClampNeg v_19) := by rw [eq_22, sg_pG_e, z_20]
      have z_24 : q_22.2.2.2.1 m18 ((3 + n1) : Int32).toNatClampNeg = v_19 := by rw [eq_22, sg_pG_e]; exact if_pos rfl
      have hK_q_22 : sx_kf a0 [6, 7, 8, 9, 11, 12, 13, 14, 15] q q_22 := hK_q_14.tr (sx_kf.eq (by rw [eq_22]; rfl) (by rw [eq_22]; rfl))
      have mN_q_22 : mv_N a0 q_22 := mv_N.eq ((show q_22.1 a0 8 = q_14.1 a0 8 from by rw [eq_22]; rfl)) ((show q_22.2.1 a0 11 = q_14.2.1 a0 11 from by rw [eq_22]; rfl)) mN_q_14
      have mF_q_22 : mv_F m18 m19 q_22 := mv_f.F (mv_f.inc (s := (3 + n1 : Int32).toNatClampNeg) (v := v_19) ((mF_q_14).f rfl rfl) (by rw [zx_nc]; omega) (by rw [z_20]; omega) (by rw [z_20]; omega) (by rw [z_20]; rw [z_21]; exact hy3)) (show q_22.2.2.2.1 m18 = _ from by rw [eq_22]; exact sg_pG_e) ((show q_22.2.2.2.1 m19 = q_14.2.2.2.1 m19 from by rw [eq_22]; exact sg_pG_a (sx_ka h km19 km18 (by decide))))
      have mU_q_22 : mv_U m17 q_22 := mv_U.eq ((show q_22.2.2.2.2 m17 = q_14.2.2.2.2 m17 from by rw [eq_22]; rfl)) mU_q_14
      refine wa_aload_n B dX12_readUnit_60 rfl 1 rfl ?_
      have y9 := rr_unit (UC' := (upd (q.2.2.2.1 m18) ((3 + n1) : Int32).toNatClampNeg v_19)) hC hT (hw_5.resolve_right (fun y => absurd y.1 (by omega))).2 (j := n1.toInt.toNat) (i := (v_13 : Int32).toNatClampNeg) (c := v_19) rfl (hw_9.resolve_left (fun y => absurd y.1 (by omega))).2 (by have a9 := zx_nc v_13; rw [← e3]; omega) (by rw [← e3]; omega) (by rw [e3]) rfl
      have z_25 : q_22.2.2.1 a0 3 = m3 := ((show q_22.2.2.1 a0 3 = q_14.2.2.1 a0 3 from by rw [eq_22]; rfl)).trans (((show q_14.2.2.1 a0 3 = q.2.2.1 a0 3 from by rw [eq_14]; rfl)).trans (em3))
      have z_26 : q_22.1 a0 5 = q.1 a0 5 := ((show q_22.1 a0 5 = q_14.1 a0 5 from by rw [eq_22]; rfl)).trans ((show q_14.1 a0 5 = q.1 a0 5 from by rw [eq_14]; rfl))
      have y_27 : (q_22.1 a0 5).toInt = (q.1 a0 5).toInt := by rw [z_26]
      have z_28 : q_22.1 a0 4 = q.1 a0 4 := ((show q_22.1 a0 4 = q_14.1 a0 4 from by rw [eq_22]; rfl)).trans ((show q_14.1 a0 4 = q.1 a0 4 from by rw [eq_14]; rfl))
      have y_29 : (q_22.1 a0 4).toInt = (q.1 a0 4).toInt := by rw [z_28]
      have z_30 : q_22.1 a0 6 = q.1 a0 6 := ((show q_22.1 a0 6 = q_14.1 a0 6 from by rw [eq_22]; rfl)).trans ((show q_14.1 a0 6 = q.1 a0 6 from by rw [eq_14]; rfl))
      have y_31 : (q_22.1 a0 6).toInt = (q.1 a0 6).toInt := by rw [z_30]
      have z_32 : q_22.1 a0 10 = q.1 a0 10 := ((show q_22.1 a0 10 = q_14.1 a0 10 from by rw [eq_22]; rfl)).trans ((show q_14.1 a0 10 = q.1 a0 10 from by rw [eq_14]; rfl))
      have y_33 : (q_22.1 a0 10).toInt = (q.1 a0 10).toInt := by rw [z_32]
      have z_34 : q_22.2.2.2.1 m3 = q.2.2.2.1 m3 := ((show q_22.2.2.2.1 m3 = q_14.2.2.2.1 m3 from by rw [eq_22]; exact sg_pG_a (sx_ka h km3 km18 (by decide)))).trans ((show q_14.2.2.2.1 m3 = q.2.2.2.1 m3 from by rw [eq_14]; rfl))
      refine wa_callVv B (x := (RX12, TX12, 51)) (As := []) (rest := []) (k_X12_go_c l dC dI h L hN q_22 hV_q_22 (a0 := a0) ha0 ka0 (m3 := m3) z_25 F n9 (by first | assumption | omega | decide) (fun j hj => by rw [z_34]; exact hFF j hj) (by first | assumption | omega | decide) (by first | assumption | omega | decide) (by first | assumption | omega | decide)) (cwV 0 B.1.2.2.2.2 gX12_readUnit_X12_go rfl rfl rfl (by decide +kernel) ⟨Nat.le_of_ble_eq_true rfl, Nat.le_of_ble_eq_true rfl⟩) ha0 ka0 (by decide) rfl rfl rfl (Nat.le_of_ble_eq_true rfl) dX12_readUnit_61 (fun q_35 w_36 => ?_)
      obtain ⟨hV_q_35, h2_q_35, h3_q_35, mN_q_35, hw_36⟩ := w_36
      have hF_q_35 : sx_fr h L (fun a => h.1 a = 12 ∨ h.1 a = 227 ∨ h.1 a = 128) q q_35 := hF_q_22.tr (h2_q_35.mono (fun a (z : h.1 a = 12) => ((fun z => (Or.inl z)) z)))
      have hK_q_35 : sx_kf a0 [6, 7, 8, 9, 11, 12, 13, 14, 15] q q_35 := hK_q_22.tr (h3_q_35.mono (by decide))
      have mF_q_35 : mv_F m18 m19 q_35 := mv_F.eq (h2_q_35.G hm18 (show ¬ (h.1 m18 = 12) from (fun z => absurd (z.symm.trans km18) (by decide))) (by rw [km18]; decide)) (h2_q_35.G hm19 (show ¬ (h.1 m19 = 12) from (fun z => absurd (z.symm.trans km19) (by decide))) (by rw [km19]; decide)) mF_q_22
      have mU_q_35 : mv_U m17 q_35 := mv_U.eq (h2_q_35.Lg hm17 (show ¬ (h.1 m17 = 12) from (fun z => absurd (z.symm.trans km17) (by decide))) (by rw [km17]; decide)) mU_q_22
      refine wa_iconst B 1 dX12_readUnit_64 (by decide) ?_
      have z_37 : q_35.1 a0 4 = (q.1 a0 4) := (h3_q_35.1 4 (by decide)).trans (z_28)
      have y_38 : (q_35.1 a0 4).toInt = (q.1 a0 4).toInt := by rw [z_37]
      have z_39 : q_35.2.2.2.1 m18 ((3 + n1) : Int32).toNatClampNeg = v_19 := (congrFun (h2_q_35.G hm18 (show ¬ (h.1 m18 = 12) from (fun z => absurd (z.symm.trans km18) (by decide))) (by rw [km18]; decide)) _).trans z_24
      have y_40 : (q_35.1 a0 4).toInt = (q.1 a0 4).toInt := by rw [z_37]
      have z_41 : q_35.2.2.2.2 m16 = q.2.2.2.2 m16 := (h2_q_35.Lg hm16 (show ¬ (h.1 m16 = 12) from (fun z => absurd (z.symm.trans km16) (by decide))) (by rw [km16]; decide)).trans (((show q_22.2.2.2.2 m16 = q_14.2.2.2.2 m16 from by rw [eq_22]; rfl)).trans ((show q_14.2.2.2.2 m16 = q.2.2.2.2 m16 from by rw [eq_14]; exact sg_pL_a (sx_ka h km16 km17 (by decide)))))
      have z_42 : q_35.2.2.2.2 m17 = (vp_updL (q.2.2.2.2 m17) (v_13 : Int32).toNatClampNeg (q.2.1 a0 11)) := (h2_q_35.Lg hm17 (show ¬ (h.1 m17 = 12) from (fun z => absurd (z.symm.trans km17) (by decide))) (by rw [km17]; decide)).trans (((show q_22.2.2.2.2 m17 = q_14.2.2.2.2 m17 from by rw [eq_22]; rfl)).trans (z_15))
      have z_43 : q_35.2.2.2.1 m18 = (upd (q.2.2.2.1 m18) ((3 + n1) : Int32).toNatClampNeg v_19) := (h2_q_35.G hm18 (show ¬ (h.1 m18 = 12) from (fun z => absurd (z.symm.trans km18) (by decide))) (by rw [km18]; decide)).trans (z_23)
      have z_44 : q_35.2.2.2.1 m19 = (q.2.2.2.1 m19) := (h2_q_35.G hm19 (show ¬ (h.1 m19 = 12) from (fun z => absurd (z.symm.trans km19) (by decide))) (by rw [km19]; decide)).trans (((show q_22.2.2.2.1 m19 = q_14.2.2.2.1 m19 from by rw [eq_22]; exact sg_pG_a (sx_ka h km19 km18 (by decide)))).trans (z_21))
      exact hret _ _ _ _ dX12_readUnit_65 (Or.inr rfl) ⟨hV_q_35, hF_q_35, hK_q_35, mN_q_35, mF_q_35, mU_q_35, ⟨(Or.inl ⟨rfl, by rw [z_39]; omega⟩), Or.inr ⟨rfl, by omega, by rw [z_41, z_42, z_43, z_44]; rw [show (q_22.1 a0 6).toInt.toNat = pz_E F n9 A9 from (by omega)] at hw_36; exact ⟨_, hw_36.2, y9.2⟩⟩, by rw [z_42, z_43, z_44]; exact ⟨fun j hj => if_neg (by have a9 := zx_nc v_13; omega), fun j hj => if_neg (by rw [e3]; omega), fun j hj => rfl⟩⟩⟩
    · refine wa_aload_n B dX12_readUnit_25 rfl 1 rfl ?_
      refine wa_iconst B 3 dX12_readUnit_26 (by decide) ?_
      refine wa_callVi B (x := (RX12, TX12, 51)) (As := [.int 3]) (rest := []) (k_X12_bad_c l dC dI h L hN q hV (a0 := a0) ha0 ka0 3  ) (cwV 1 B.1.2.2.2.2 gX12_readUnit_X12_bad rfl rfl rfl (by decide +kernel) ⟨Nat.le_of_ble_eq_true rfl, Nat.le_of_ble_eq_true rfl⟩) ha0 ka0 (by decide) rfl rfl rfl (Nat.le_of_ble_eq_true rfl) dX12_readUnit_27 (fun r_46 q_45 w_47 => ?_)
      obtain ⟨hV_q_45, h2_q_45, h3_q_45, hw_47⟩ := w_47
      have hF_q_45 : sx_fr h L (fun a => h.1 a = 12 ∨ h.1 a = 227 ∨ h.1 a = 128) q q_45 := hF.tr (h2_q_45.mono (fun a (z : h.1 a = 12) => ((fun z => (Or.inl z)) z)))
      have hK_q_45 : sx_kf a0 [6, 7, 8, 9, 11, 12, 13, 14, 15] q q_45 := hK.tr (h3_q_45.mono (by decide))
      have mN_q_45 : mv_N a0 q_45 := mv_N.eq (h3_q_45.1 8 (by decide)) (h3_q_45.2 11 (by decide)) mN
      have mF_q_45 : mv_F m18 m19 q_45 := mv_F.eq (h2_q_45.G hm18 (show ¬ (h.1 m18 = 12) from (fun z => absurd (z.symm.trans km18) (by decide))) (by rw [km18]; decide)) (h2_q_45.G hm19 (show ¬ (h.1 m19 = 12) from (fun z => absurd (z.symm.trans km19) (by decide))) (by rw [km19]; decide)) mF
      have mU_q_45 : mv_U m17 q_45 := mv_U.eq (h2_q_45.Lg hm17 (show ¬ (h.1 m17 = 12) from (fun z => absurd (z.symm.trans km17) (by decide))) (by rw [km17]; decide)) mU
      have z_48 : q_45.1 a0 4 = q.1 a0 4 := h3_q_45.1 4 (by decide)
      have y_49 : (q_45.1 a0 4).toInt = (q.1 a0 4).toInt := by rw [z_48]
      have z_50 : q_45.1 a0 6 = q.1 a0 6 := h3_q_45.1 6 (by decide)
      have y_51 : (q_45.1 a0 6).toInt = (q.1 a0 6).toInt := by rw [z_50]
      have z_52 : q_45.1 a0 7 = q.1 a0 7 := h3_q_45.1 7 (by decide)
      have y_53 : (q_45.1 a0 7).toInt = (q.1 a0 7).toInt := by rw [z_52]
      have z_54 : q_45.1 a0 8 = q.1 a0 8 := h3_q_45.1 8 (by decide)
      have y_55 : (q_45.1 a0 8).toInt = (q.1 a0 8).toInt := by rw [z_54]
      have y_56 : (q_45.1 a0 4).toInt = (q.1 a0 4).toInt := by rw [z_48]
      have y_57 : (q_45.1 a0 6).toInt = (q.1 a0 6).toInt := by rw [z_50]
      have y_58 : (q_45.1 a0 7).toInt = (q.1 a0 7).toInt := by rw [z_52]
      have z_59 : q_45.2.2.2.2 m16 = q.2.2.2.2 m16 := h2_q_45.Lg hm16 (show ¬ (h.1 m16 = 12) from (fun z => absurd (z.symm.trans km16) (by decide))) (by rw [km16]; decide)
      have z_60 : q_45.2.2.2.2 m17 = q.2.2.2.2 m17 := h2_q_45.Lg hm17 (show ¬ (h.1 m17 = 12) from (fun z => absurd (z.symm.trans km17) (by decide))) (by rw [km17]; decide)
      have z_61 : q_45.2.2.2.1 m18 = q.2.2.2.1 m18 := h2_q_45.G hm18 (show ¬ (h.1 m18 = 12) from (fun z => absurd (z.symm.trans km18) (by decide))) (by rw [km18]; decide)
      have z_62 : q_45.2.2.2.1 m19 = q.2.2.2.1 m19 := h2_q_45.G hm19 (show ¬ (h.1 m19 = 12) from (fun z => absurd (z.symm.trans km19) (by decide))) (by rw [km19]; decide)
      exact hret _ _ _ _ dX12_readUnit_30 (zx_01 (by omega)) ⟨hV_q_45, hF_q_45, hK_q_45, mN_q_45, mF_q_45, mU_q_45, ⟨(Or.inr (by omega)), Or.inl ⟨by omega, by omega, (rr_taken_bad hC (Or.inr rfl) hT ((hw_5.resolve_right (fun y => absurd y.1 (by omega))).2).1 (j := n1.toInt.toNat) (by omega) (by omega) (fun z => by omega) (hw_9.resolve_right (fun y => absurd y.1 (by omega))).2).trans (congrArg some (by omega))⟩, by rw [z_60, z_61, z_62]; exact rs_lo.rf⟩⟩
  · refine wa_aload_n B dX12_readUnit_11 rfl 1 rfl ?_
    refine wa_iconst B 1 dX12_readUnit_12 (by decide) ?_
    refine wa_callVi B (x := (RX12, TX12, 51)) (As := [.int 1]) (rest := []) (k_X12_bad_c l dC dI h L hN q hV (a0 := a0) ha0 ka0 1  ) (cwV 1 B.1.2.2.2.2 gX12_readUnit_X12_bad rfl rfl rfl (by decide +kernel) ⟨Nat.le_of_ble_eq_true rfl, Nat.le_of_ble_eq_true rfl⟩) ha0 ka0 (by decide) rfl rfl rfl (Nat.le_of_ble_eq_true rfl) dX12_readUnit_13 (fun r_64 q_63 w_65 => ?_)
    obtain ⟨hV_q_63, h2_q_63, h3_q_63, hw_65⟩ := w_65
    have hF_q_63 : sx_fr h L (fun a => h.1 a = 12 ∨ h.1 a = 227 ∨ h.1 a = 128) q q_63 := hF.tr (h2_q_63.mono (fun a (z : h.1 a = 12) => ((fun z => (Or.inl z)) z)))
    have hK_q_63 : sx_kf a0 [6, 7, 8, 9, 11, 12, 13, 14, 15] q q_63 := hK.tr (h3_q_63.mono (by decide))
    have mN_q_63 : mv_N a0 q_63 := mv_N.eq (h3_q_63.1 8 (by decide)) (h3_q_63.2 11 (by decide)) mN
    have mF_q_63 : mv_F m18 m19 q_63 := mv_F.eq (h2_q_63.G hm18 (show ¬ (h.1 m18 = 12) from (fun z => absurd (z.symm.trans km18) (by decide))) (by rw [km18]; decide)) (h2_q_63.G hm19 (show ¬ (h.1 m19 = 12) from (fun z => absurd (z.symm.trans km19) (by decide))) (by rw [km19]; decide)) mF
    have mU_q_63 : mv_U m17 q_63 := mv_U.eq (h2_q_63.Lg hm17 (show ¬ (h.1 m17 = 12) from (fun z => absurd (z.symm.trans km17) (by decide))) (by rw [km17]; decide)) mU
    have z_66 : q_63.1 a0 4 = q.1 a0 4 := h3_q_63.1 4 (by decide)
    have y_67 : (q_63.1 a0 4).toInt = (q.1 a0 4).toInt := by rw [z_66]
    have z_68 : q_63.1 a0 6 = q.1 a0 6 := h3_q_63.1 6 (by decide)
    have y_69 : (q_63.1 a0 6).toInt = (q.1 a0 6).toInt := by rw [z_68]
    have z_70 : q_63.1 a0 7 = q.1 a0 7 := h3_q_63.1 7 (by decide)
    have y_71 : (q_63.1 a0 7).toInt = (q.1 a0 7).toInt := by rw [z_70]
    have z_72 : q_63.1 a0 8 = q.1 a0 8 := h3_q_63.1 8 (by decide)
    have y_73 : (q_63.1 a0 8).toInt = (q.1 a0 8).toInt := by rw [z_72]
    have y_74 : (q_63.1 a0 4).toInt = (q.1 a0 4).toInt := by rw [z_66]
    have y_75 : (q_63.1 a0 6).toInt = (q.1 a0 6).toInt := by rw [z_68]
    have y_76 : (q_63.1 a0 7).toInt = (q.1 a0 7).toInt := by rw [z_70]
    have z_77 : q_63.2.2.2.2 m16 = q.2.2.2.2 m16 := h2_q_63.Lg hm16 (show ¬ (h.1 m16 = 12) from (fun z => absurd (z.symm.trans km16) (by decide))) (by rw [km16]; decide)
    have z_78 : q_63.2.2.2.2 m17 = q.2.2.2.2 m17 := h2_q_63.Lg hm17 (show ¬ (h.1 m17 = 12) from (fun z => absurd (z.symm.trans km17) (by decide))) (by rw [km17]; decide)
    have z_79 : q_63.2.2.2.1 m18 = q.2.2.2.1 m18 := h2_q_63.G hm18 (show ¬ (h.1 m18 = 12) from (fun z => absurd (z.symm.trans km18) (by decide))) (by rw [km18]; decide)
    have z_80 : q_63.2.2.2.1 m19 = q.2.2.2.1 m19 := h2_q_63.G hm19 (show ¬ (h.1 m19 = 12) from (fun z => absurd (z.symm.trans km19) (by decide))) (by rw [km19]; decide)
    exact hret _ _ _ _ dX12_readUnit_16 (zx_01 (by omega)) ⟨hV_q_63, hF_q_63, hK_q_63, mN_q_63, mF_q_63, mU_q_63, ⟨(Or.inr (by omega)), Or.inl ⟨by omega, by omega, (rr_free_bad hC (Or.inr rfl) hT (hw_5.resolve_left (fun y => absurd y.1 (by omega))).2).trans (congrArg some (by omega))⟩, by rw [z_78, z_79, z_80]; exact rs_lo.rf⟩⟩
