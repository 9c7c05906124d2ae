set_option maxHeartbeats 4000000 in
set_option maxRecDepth 100000 in
theorem k_X12_readSystem_c (l : Launch) (dC : Nat → ClassId) (dI : Nat → Nat → Nat) (h : Sh) (L : List Nat) (hN : sx_nd L) (q : Sg) (hV : sx_V h L q) {a0 : Nat} (ha0 : a0 ∈ L) (ka0 : h.1 a0 = 12) (n1 : Int32) {m3 : Nat} (em3 : q.2.2.1 a0 3 = m3) {m16 : Nat} (em16 : q.2.2.1 a0 16 = m16) {m17 : Nat} (em17 : q.2.2.1 a0 17 = m17) {m18 : Nat} (em18 : q.2.2.1 a0 18 = m18) {m19 : Nat} (em19 : q.2.2.1 a0 19 = m19) (mN : mv_N a0 q) (mF : mv_F m18 m19 q) (mU : mv_U m17 q) (F : Nat → Int32) (n9 : Nat) (R9 : Option Nat × PU) (hy0 : 0 ≤ n1.toInt) (hy1 : n1.toInt ≤ 2) (hn9 : (n9 : Int) = (q.1 a0 4).toInt) (hFF : ∀ j : Nat, j < n9 → q.2.2.2.1 m3 j = F j) (hm4 : (q.1 a0 5).toInt = 400) (hb0 : (q.1 a0 10).toInt = 0) (hts : (q.1 a0 6).toInt ≤ (q.1 a0 4).toInt) (hP : rs_P F n9 R9 1 n1.toInt.toNat (q.1 a0 8) (q.1 a0 9) (q.1 a0 7) (q.1 a0 6) (q.1 a0 12) (q.1 a0 13) (q.2.1 a0 11) (q.2.2.2.2 m16) (q.2.2.2.2 m17) (q.2.2.2.1 m18) (q.2.2.2.1 m19)) : CMi l dC dI h L yX12_readSystem wsX12_readSystem ({ frames := 4, cells := 0, slots := 0, locals := 87 } : Room) q [.ref a0, .int n1] (fun r q' => sx_V h L q' ∧ sx_fr h L (fun a => h.1 a = 12 ∨ h.1 a = 226 ∨ h.1 a = 227 ∨ h.1 a = 128 ∨ h.1 a = 129) q q' ∧ sx_kf a0 [6, 7, 8, 9, 11, 12, 13, 14, 15] q q' ∧ mv_N a0 q' ∧ mv_F m18 m19 q' ∧ mv_U m17 q' ∧ ((r.toInt = 0 ∧ 0 ≤ (q'.1 a0 15).toInt ∧ R9.1 = some (q'.1 a0 15).toInt.toNat ∨ r.toInt = 1 ∧ (q'.1 a0 6).toInt ≤ (q'.1 a0 4).toInt ∧ rs_P F n9 R9 0 (n1.toInt.toNat + 1) (q'.1 a0 8) (q'.1 a0 9) (q'.1 a0 7) (q'.1 a0 6) (q'.1 a0 12) (q'.1 a0 13) (q'.2.1 a0 11) (q'.2.2.2.2 m16) (q'.2.2.2.2 m17) (q'.2.2.2.1 m18) (q'.2.2.2.1 m19)) ∧ rs_lo (q.2.2.2.2 m17) (q'.2.2.2.2 m17) (q.2.2.2.1 m18) (q'.2.2.2.1 m18) (q.2.2.2.1 m19) (q'.2.2.2.1 m19))) := by
  refine cm_z (cc := cX12_readSystem) (mL := 3) (own := RX12) hN (by decide) rfl rfl (Nat.le_of_ble_eq_true rfl) (fun Z B hret => ?_)
  have hF : sx_fr h L (fun a => h.1 a = 12 ∨ h.1 a = 226 ∨ h.1 a = 227 ∨ h.1 a = 128 ∨ h.1 a = 129) q q := sx_fr.rf
  have hK : sx_kf a0 [6, 7, 8, 9, 11, 12, 13, 14, 15] q q := sx_kf.rf
  obtain ⟨hm3, km3, lm3⟩ : m3 ∈ L ∧ h.1 m3 = 113 ∧ h.2.1 m3 = 500 := by obtain ⟨r9, e9, z1, z2, z3⟩ := hV.refn (t := 113) (n := 500) ha0 ka0 3 rfl (by decide) rfl (by decide); rw [← em3, e9]; exact ⟨z1, z2, z3⟩
  obtain ⟨hm16, km16, lm16⟩ : m16 ∈ L ∧ h.1 m16 = 226 ∧ h.2.1 m16 = 6 := by obtain ⟨r9, e9, z1, z2, z3⟩ := hV.refn (t := 226) (n := 6) ha0 ka0 16 rfl (by decide) rfl (by decide); rw [← em16, e9]; exact ⟨z1, z2, z3⟩
  obtain ⟨hm17, km17, lm17⟩ : m17 ∈ L ∧ h.1 m17 = 227 ∧ h.2.1 m17 = 30 := by obtain ⟨r9, e9, z1, z2, z3⟩ := hV.refn (t := 227) (n := 30) ha0 ka0 17 rfl (by decide) rfl (by decide); rw [← em17, e9]; exact ⟨z1, z2, z3⟩
  obtain ⟨hm18, km18, lm18⟩ : m18 ∈ L ∧ h.1 m18 = 128 ∧ h.2.1 m18 = 6 := by obtain ⟨r9, e9, z1, z2, z3⟩ := hV.refn (t := 128) (n := 6) ha0 ka0 18 rfl (by decide) rfl (by decide); rw [← em18, e9]; exact ⟨z1, z2, z3⟩
  obtain ⟨hm19, km19, lm19⟩ : m19 ∈ L ∧ h.1 m19 = 129 ∧ h.2.1 m19 = 30 := by obtain ⟨r9, e9, z1, z2, z3⟩ := hV.refn (t := 129) (n := 30) ha0 ka0 19 rfl (by decide) rfl (by decide); rw [← em19, e9]; exact ⟨z1, z2, z3⟩
  show WA l dC dI h L ({ frames := 4, cells := 0, slots := 0, locals := 87 } : Room) 3 Z q 0 [(0, .ref a0), (1, .int n1)] []
  obtain ⟨A9, hT, hC⟩ := hP
  have hpl := hT.1
  refine wa_iconst B 3 dX12_readSystem_0 (by decide) ?_
  refine wa_iload_n B dX12_readSystem_1 rfl 1 rfl ?_
  refine wa_iadd B dX12_readSystem_2 (fun v_1 ev_1 => ?_)
  subst ev_1
  refine wa_istore_n B [(2, .int (3 + n1)), (0, .ref a0), (1, .int n1)] dX12_readSystem_3 rfl (by decide) rfl ?_
  have t_2 : (3 + n1).toInt = 3 + n1.toInt := by have b1 := zx_bd n1; exact zx_add (show (-2147483648 : Int) ≤ 3 + n1.toInt by omega) (show 3 + n1.toInt < (2147483648 : Int) by omega)
  have e3 : (3 + n1 : Int32).toNatClampNeg = 3 + n1.toInt.toNat := by rw [zx_nc]; omega
  refine wa_aload_n B dX12_readSystem_4 rfl 1 rfl ?_
  refine wa_getR B (C := RX12) (T := TX12) (N := 51) iq_X12_readSystem_X12 ha0 ka0 (by decide) rfl 16 (by decide) (by decide) (by decide +kernel) rfl (fun _ _ _ => rfl) (v := m16) em16 dX12_readSystem_5 ?_
  refine wa_iload_n B dX12_readSystem_8 rfl 0 rfl ?_
  refine wa_lconst B 0 dX12_readSystem_9 (by decide) ?_
  refine wa_lastore B hm16 km16 (by decide) (by decide) (show 0 ≤ (3 + n1).toInt by omega) (show (3 + n1).toInt < (h.2.1 m16 : Int) by omega) dX12_readSystem_10 (fun q_3 eq_3 => ?_)
  have hV_q_3 : sx_V h L q_3 := by rw [eq_3]; exact hV.pL
  have hF_q_3 : sx_fr h L (fun a => h.1 a = 12 ∨ h.1 a = 226 ∨ h.1 a = 227 ∨ h.1 a = 128 ∨ h.1 a = 129) q q_3 := hF.tr (by rw [eq_3]; exact sx_fr.pL (show h.1 m16 = 200 ∨ (h.1 m16 = 12 ∨ h.1 m16 = 226 ∨ h.1 m16 = 227 ∨ h.1 m16 = 128 ∨ h.1 m16 = 129) from Or.inr (Or.inr (Or.inl km16))))
  have z_4 : q_3.2.2.2.2 m16 = (vp_updL (q.2.2.2.2 m16) ((3 + n1) : Int32).toNatClampNeg 0) := by rw [eq_3, sg_pL_e]
  have z_5 : q_3.2.2.2.2 m16 ((3 + n1) : Int32).toNatClampNeg = 0 := by rw [eq_3, sg_pL_e]; exact if_pos rfl
  have hK_q_3 : sx_kf a0 [6, 7, 8, 9, 11, 12, 13, 14, 15] q q_3 := hK.tr (sx_kf.eq (by rw [eq_3]; rfl) (by rw [eq_3]; rfl))
  have mN_q_3 : mv_N a0 q_3 := mv_N.eq ((show q_3.1 a0 8 = q.1 a0 8 from by rw [eq_3]; rfl)) ((show q_3.2.1 a0 11 = q.2.1 a0 11 from by rw [eq_3]; rfl)) mN
  have mF_q_3 : mv_F m18 m19 q_3 := mv_F.eq ((show q_3.2.2.2.1 m18 = q.2.2.2.1 m18 from by rw [eq_3]; rfl)) ((show q_3.2.2.2.1 m19 = q.2.2.2.1 m19 from by rw [eq_3]; rfl)) mF
  have mU_q_3 : mv_U m17 q_3 := mv_U.eq ((show q_3.2.2.2.2 m17 = q.2.2.2.2 m17 from by rw [eq_3]; exact sg_pL_a (sx_ka h km17 km16 (by decide)))) mU
  refine wa_aload_n B dX12_readSystem_11 rfl 1 rfl ?_
  have z_6 : q_3.2.2.1 a0 18 = m18 := ((show q_3.2.2.1 a0 18 = q.2.2.1 a0 18 from by rw [eq_3]; rfl)).trans (em18)
  refine wa_getR B (C := RX12) (T := TX12) (N := 51) iq_X12_readSystem_X12 ha0 ka0 (by decide) rfl 18 (by decide) (by decide) (by decide +kernel) rfl (fun _ _ _ => rfl) (v := m18) z_6 dX12_readSystem_12 ?_
  refine wa_iload_n B dX12_readSystem_15 rfl 0 rfl ?_
  refine wa_iconst B 0 dX12_readSystem_16 (by decide) ?_
  refine wa_iastore B hm18 km18 (by decide) (by decide) (show 0 ≤ (3 + n1).toInt by omega) (show (3 + n1).toInt < (h.2.1 m18 : Int) by omega) dX12_readSystem_17 (fun q_7 eq_7 => ?_)
  have hV_q_7 : sx_V h L q_7 := by rw [eq_7]; exact hV_q_3.up1 hm18 km18 (show sx_in 0 (0) 5 from ⟨by decide, by decide⟩)
  have hF_q_7 : sx_fr h L (fun a => h.1 a = 12 ∨ h.1 a = 226 ∨ h.1 a = 227 ∨ h.1 a = 128 ∨ h.1 a = 129) q q_7 := hF_q_3.tr (by rw [eq_7]; exact sx_fr.pG (show h.1 m18 = 100 ∨ (h.1 m18 = 12 ∨ h.1 m18 = 226 ∨ h.1 m18 = 227 ∨ h.1 m18 = 128 ∨ h.1 m18 = 129) from Or.inr (Or.inr (Or.inr (Or.inr (Or.inl km18))))))
  have z_8 : q_3.2.2.2.1 m18 = q.2.2.2.1 m18 := (show q_3.2.2.2.1 m18 = q.2.2.2.1 m18 from by rw [eq_3]; rfl)
  have z_9 : q_7.2.2.2.1 m18 = (upd (q.2.2.2.1 m18) ((3 + n1) : Int32).toNatClampNeg 0) := by rw [eq_7, sg_pG_e, z_8]
  have z_10 : q_7.2.2.2.1 m18 ((3 + n1) : Int32).toNatClampNeg = 0 := by rw [eq_7, sg_pG_e]; exact if_pos rfl
  have hK_q_7 : sx_kf a0 [6, 7, 8, 9, 11, 12, 13, 14, 15] q q_7 := hK_q_3.tr (sx_kf.eq (by rw [eq_7]; rfl) (by rw [eq_7]; rfl))
  have mN_q_7 : mv_N a0 q_7 := mv_N.eq ((show q_7.1 a0 8 = q_3.1 a0 8 from by rw [eq_7]; rfl)) ((show q_7.2.1 a0 11 = q_3.2.1 a0 11 from by rw [eq_7]; rfl)) mN_q_3
  have mF_q_7 : mv_F m18 m19 q_7 := mv_f.F (mv_f.up (s := (3 + n1 : Int32).toNatClampNeg) (v := 0) ((mF_q_3).f rfl rfl) (fun k h1 h2 => absurd h2 (show ¬ ((k : Int) < 0) from by omega))) (show q_7.2.2.2.1 m18 = _ from by rw [eq_7]; exact sg_pG_e) ((show q_7.2.2.2.1 m19 = q_3.2.2.2.1 m19 from by rw [eq_7]; exact sg_pG_a (sx_ka h km19 km18 (by decide))))
  have mU_q_7 : mv_U m17 q_7 := mv_U.eq ((show q_7.2.2.2.2 m17 = q_3.2.2.2.2 m17 from by rw [eq_7]; rfl)) mU_q_3
  have hC1 := rr_set (SN' := (vp_updL (q.2.2.2.2 m16) ((3 + n1) : Int32).toNatClampNeg 0)) (UC' := (upd (q.2.2.2.1 m18) ((3 + n1) : Int32).toNatClampNeg 0)) hC (fun s hs => if_neg (by rw [e3]; omega)) (fun s hs => if_neg (by rw [e3]; omega))
  have h00 : (vp_updL (q.2.2.2.2 m16) ((3 + n1) : Int32).toNatClampNeg 0) (3 + n1.toInt.toNat) = 0 ∧ (upd (q.2.2.2.1 m18) ((3 + n1) : Int32).toNatClampNeg 0) (3 + n1.toInt.toNat) = 0 := ⟨by rw [e3]; exact if_pos rfl, by rw [e3]; exact if_pos rfl⟩
  refine wa_aload_n B dX12_readSystem_18 rfl 1 rfl ?_
  have z_11 : q_7.1 a0 8 = q.1 a0 8 := ((show q_7.1 a0 8 = q_3.1 a0 8 from by rw [eq_7]; rfl)).trans ((show q_3.1 a0 8 = q.1 a0 8 from by rw [eq_3]; rfl))
  have y_12 : (q_7.1 a0 8).toInt = (q.1 a0 8).toInt := by rw [z_11]
  refine wa_callVi B (x := (RX12, TX12, 51)) (As := []) (rest := []) (k_X12_isFree_c l dC dI h L hN q_7 hV_q_7 (a0 := a0) ha0 ka0  ) (cwV 0 B.1.2.2.2.2 gX12_readSystem_X12_isFree rfl rfl rfl (by decide +kernel) ⟨Nat.le_of_ble_eq_true rfl, Nat.le_of_ble_eq_true rfl⟩) ha0 ka0 (by decide) rfl rfl rfl (Nat.le_of_ble_eq_true rfl) dX12_readSystem_19 (fun r_14 q_13 w_15 => ?_)
  obtain ⟨ew_15, hw_15⟩ := w_15
  subst ew_15
  have z_16 : q_7.2.2.2.2 m16 = (vp_updL (q.2.2.2.2 m16) ((3 + n1) : Int32).toNatClampNeg 0) := ((show q_7.2.2.2.2 m16 = q_3.2.2.2.2 m16 from by rw [eq_7]; rfl)).trans (z_4)
  have z_17 : q_7.2.2.2.2 m17 = q.2.2.2.2 m17 := ((show q_7.2.2.2.2 m17 = q_3.2.2.2.2 m17 from by rw [eq_7]; rfl)).trans ((show q_3.2.2.2.2 m17 = q.2.2.2.2 m17 from by rw [eq_3]; exact sg_pL_a (sx_ka h km17 km16 (by decide))))
  have z_18 : q_7.2.2.2.1 m19 = q.2.2.2.1 m19 := ((show q_7.2.2.2.1 m19 = q_3.2.2.2.1 m19 from by rw [eq_7]; exact sg_pG_a (sx_ka h km19 km18 (by decide)))).trans ((show q_3.2.2.2.1 m19 = q.2.2.2.1 m19 from by rw [eq_3]; rfl))
  have z_19 : q_7.2.1 a0 11 = q.2.1 a0 11 := ((show q_7.2.1 a0 11 = q_3.2.1 a0 11 from by rw [eq_7]; rfl)).trans ((show q_3.2.1 a0 11 = q.2.1 a0 11 from by rw [eq_3]; rfl))
  have z_20 : q_7.1 a0 9 = q.1 a0 9 := ((show q_7.1 a0 9 = q_3.1 a0 9 from by rw [eq_7]; rfl)).trans ((show q_3.1 a0 9 = q.1 a0 9 from by rw [eq_3]; rfl))
  have z_21 : q_7.1 a0 12 = q.1 a0 12 := ((show q_7.1 a0 12 = q_3.1 a0 12 from by rw [eq_7]; rfl)).trans ((show q_3.1 a0 12 = q.1 a0 12 from by rw [eq_3]; rfl))
  have z_22 : q_7.1 a0 13 = q.1 a0 13 := ((show q_7.1 a0 13 = q_3.1 a0 13 from by rw [eq_7]; rfl)).trans ((show q_3.1 a0 13 = q.1 a0 13 from by rw [eq_3]; rfl))
  try simp only [z_16, z_17, z_9, z_18, z_19, z_11, z_20, z_21, z_22] at hw_15
  refine wa_if_ne B 31 dX12_readSystem_22 (by decide) (fun (t_23 : ¬ r_14.toInt = 0) => ?_) (fun (t_23 : r_14.toInt = 0) => ?_)
  · refine wa_aload_n B dX12_readSystem_31 rfl 1 rfl ?_
    refine wa_iload_n B dX12_readSystem_32 rfl 2 rfl ?_
    have z_24 : q_7.2.2.1 a0 16 = m16 := ((show q_7.2.2.1 a0 16 = q_3.2.2.1 a0 16 from by rw [eq_7]; rfl)).trans (((show q_3.2.2.1 a0 16 = q.2.2.1 a0 16 from by rw [eq_3]; rfl)).trans (em16))
    have z_25 : q_7.2.2.1 a0 17 = m17 := ((show q_7.2.2.1 a0 17 = q_3.2.2.1 a0 17 from by rw [eq_7]; rfl)).trans (((show q_3.2.2.1 a0 17 = q.2.2.1 a0 17 from by rw [eq_3]; rfl)).trans (em17))
    have z_26 : q_7.2.2.1 a0 18 = m18 := ((show q_7.2.2.1 a0 18 = q_3.2.2.1 a0 18 from by rw [eq_7]; rfl)).trans (z_6)
    refine wa_callVi B (x := (RX12, TX12, 51)) (As := [.int n1]) (rest := []) (k_X12_isTaken_c l dC dI h L hN q_7 hV_q_7 (a0 := a0) ha0 ka0 n1 (m16 := m16) z_24 (m17 := m17) z_25 (m18 := m18) z_26  (by first | assumption | omega | decide) (by first | assumption | omega | decide)) (cwV 1 B.1.2.2.2.2 gX12_readSystem_X12_isTaken rfl rfl rfl (by decide +kernel) ⟨Nat.le_of_ble_eq_true rfl, Nat.le_of_ble_eq_true rfl⟩) ha0 ka0 (by decide) rfl rfl rfl (Nat.le_of_ble_eq_true rfl) dX12_readSystem_33 (fun r_28 q_27 w_29 => ?_)
    obtain ⟨ew_29, hw_29⟩ := w_29
    subst ew_29
    try simp only [z_16, z_17, z_9, z_18, z_19, z_11, z_20, z_21, z_22] at hw_29
    refine wa_if_eq B 45 dX12_readSystem_36 (by decide) (fun (t_30 : r_28.toInt = 0) => ?_) (fun (t_30 : ¬ r_28.toInt = 0) => ?_)
    · refine wa_aload_n B dX12_readSystem_45 rfl 1 rfl ?_
      refine wa_getR B (C := RX12) (T := TX12) (N := 51) iq_X12_readSystem_X12 ha0 ka0 (by decide) rfl 16 (by decide) (by decide) (by decide +kernel) rfl (fun _ _ _ => rfl) (v := m16) z_24 dX12_readSystem_46 ?_
      refine wa_iload_n B dX12_readSystem_49 rfl 0 rfl ?_
      refine wa_aload_n B dX12_readSystem_50 rfl 1 rfl ?_
      refine wa_getJ B (C := RX12) (T := TX12) (N := 51) iq_X12_readSystem_X12 ha0 ka0 (by decide) rfl 11 (by decide) (by decide) (by decide +kernel) rfl (by decide) (v := (q.2.1 a0 11)) z_19 dX12_readSystem_51 ?_
      refine wa_lastore B hm16 km16 (by decide) (by decide) (show 0 ≤ (3 + n1).toInt by omega) (show (3 + n1).toInt < (h.2.1 m16 : Int) by omega) dX12_readSystem_54 (fun q_31 eq_31 => ?_)
      have hV_q_31 : sx_V h L q_31 := by rw [eq_31]; exact hV_q_7.pL
      have hF_q_31 : sx_fr h L (fun a => h.1 a = 12 ∨ h.1 a = 226 ∨ h.1 a = 227 ∨ h.1 a = 128 ∨ h.1 a = 129) q q_31 := hF_q_7.tr (by rw [eq_31]; exact sx_fr.pL (show h.1 m16 = 200 ∨ (h.1 m16 = 12 ∨ h.1 m16 = 226 ∨ h.1 m16 = 227 ∨ h.1 m16 = 128 ∨ h.1 m16 = 129) from Or.inr (Or.inr (Or.inl km16))))
      have z_32 : q_31.2.2.2.2 m16 = (vp_updL (vp_updL (q.2.2.2.2 m16) ((3 + n1) : Int32).toNatClampNeg 0) ((3 + n1) : Int32).toNatClampNeg (q.2.1 a0 11)) := by rw [eq_31, sg_pL_e, z_16]
      have z_33 : q_31.2.2.2.2 m16 ((3 + n1) : Int32).toNatClampNeg = (q.2.1 a0 11) := by rw [eq_31, sg_pL_e]; exact if_pos rfl
      have hK_q_31 : sx_kf a0 [6, 7, 8, 9, 11, 12, 13, 14, 15] q q_31 := hK_q_7.tr (sx_kf.eq (by rw [eq_31]; rfl) (by rw [eq_31]; rfl))
      have mN_q_31 : mv_N a0 q_31 := mv_N.eq ((show q_31.1 a0 8 = q_7.1 a0 8 from by rw [eq_31]; rfl)) ((show q_31.2.1 a0 11 = q_7.2.1 a0 11 from by rw [eq_31]; rfl)) mN_q_7
      have mF_q_31 : mv_F m18 m19 q_31 := mv_F.eq ((show q_31.2.2.2.1 m18 = q_7.2.2.2.1 m18 from by rw [eq_31]; rfl)) ((show q_31.2.2.2.1 m19 = q_7.2.2.2.1 m19 from by rw [eq_31]; rfl)) mF_q_7
      have mU_q_31 : mv_U m17 q_31 := mv_U.eq ((show q_31.2.2.2.2 m17 = q_7.2.2.2.2 m17 from by rw [eq_31]; exact sg_pL_a (sx_ka h km17 km16 (by decide)))) mU_q_7
      have y9 := rr_name (SN' := (vp_updL (vp_updL (q.2.2.2.2 m16) ((3 + n1) : Int32).toNatClampNeg 0) ((3 + n1) : Int32).toNatClampNeg (q.2.1 a0 11))) hC1 hT (hw_15.resolve_right (fun y => absurd y.1 (by omega))).2 h00 (hw_29.resolve_left (fun y => absurd y.1 (by omega))).2 (by rw [e3])
      refine wa_aload_n B dX12_readSystem_55 rfl 1 rfl ?_
      have z_34 : q_31.2.2.1 a0 3 = m3 := ((show q_31.2.2.1 a0 3 = q_7.2.2.1 a0 3 from by rw [eq_31]; rfl)).trans (((show q_7.2.2.1 a0 3 = q_3.2.2.1 a0 3 from by rw [eq_7]; rfl)).trans (((show q_3.2.2.1 a0 3 = q.2.2.1 a0 3 from by rw [eq_3]; rfl)).trans (em3)))
      have z_35 : q_31.1 a0 5 = q.1 a0 5 := ((show q_31.1 a0 5 = q_7.1 a0 5 from by rw [eq_31]; rfl)).trans (((show q_7.1 a0 5 = q_3.1 a0 5 from by rw [eq_7]; rfl)).trans ((show q_3.1 a0 5 = q.1 a0 5 from by rw [eq_3]; rfl)))
      have y_36 : (q_31.1 a0 5).toInt = (q.1 a0 5).toInt := by rw [z_35]
      have z_37 : q_31.1 a0 4 = q.1 a0 4 := ((show q_31.1 a0 4 = q_7.1 a0 4 from by rw [eq_31]; rfl)).trans (((show q_7.1 a0 4 = q_3.1 a0 4 from by rw [eq_7]; rfl)).trans ((show q_3.1 a0 4 = q.1 a0 4 from by rw [eq_3]; rfl)))
      have y_38 : (q_31.1 a0 4).toInt = (q.1 a0 4).toInt := by rw [z_37]
      have z_39 : q_31.1 a0 6 = q.1 a0 6 := ((show q_31.1 a0 6 = q_7.1 a0 6 from by rw [eq_31]; rfl)).trans (((show q_7.1 a0 6 = q_3.1 a0 6 from by rw [eq_7]; rfl)).trans ((show q_3.1 a0 6 = q.1 a0 6 from by rw [eq_3]; rfl)))
      have y_40 : (q_31.1 a0 6).toInt = (q.1 a0 6).toInt := by rw [z_39]
      have z_41 : q_31.1 a0 10 = q.1 a0 10 := ((show q_31.1 a0 10 = q_7.1 a0 10 from by rw [eq_31]; rfl)).trans (((show q_7.1 a0 10 = q_3.1 a0 10 from by rw [eq_7]; rfl)).trans ((show q_3.1 a0 10 = q.1 a0 10 from by rw [eq_3]; rfl)))
      have y_42 : (q_31.1 a0 10).toInt = (q.1 a0 10).toInt := by rw [z_41]
      have z_43 : q_31.2.2.2.1 m3 = q.2.2.2.1 m3 := ((show q_31.2.2.2.1 m3 = q_7.2.2.2.1 m3 from by rw [eq_31]; rfl)).trans (((show q_7.2.2.2.1 m3 = q_3.2.2.2.1 m3 from by rw [eq_7]; exact sg_pG_a (sx_ka h km3 km18 (by decide)))).trans ((show q_3.2.2.2.1 m3 = q.2.2.2.1 m3 from by rw [eq_3]; rfl)))
      refine wa_callVv B (x := (RX12, TX12, 51)) (As := []) (rest := []) (k_X12_go_c l dC dI h L hN q_31 hV_q_31 (a0 := a0) ha0 ka0 (m3 := m3) z_34 F n9 (by first | assumption | omega | decide) (fun j hj => by rw [z_43]; exact hFF j hj) (by first | assumption | omega | decide) (by first | assumption | omega | decide) (by first | assumption | omega | decide)) (cwV 0 B.1.2.2.2.2 gX12_readSystem_X12_go rfl rfl rfl (by decide +kernel) ⟨Nat.le_of_ble_eq_true rfl, Nat.le_of_ble_eq_true rfl⟩) ha0 ka0 (by decide) rfl rfl rfl (Nat.le_of_ble_eq_true rfl) dX12_readSystem_56 (fun q_44 w_45 => ?_)
      obtain ⟨hV_q_44, h2_q_44, h3_q_44, mN_q_44, hw_45⟩ := w_45
      have hF_q_44 : sx_fr h L (fun a => h.1 a = 12 ∨ h.1 a = 226 ∨ h.1 a = 227 ∨ h.1 a = 128 ∨ h.1 a = 129) q q_44 := hF_q_31.tr (h2_q_44.mono (fun a (z : h.1 a = 12) => ((fun z => (Or.inl z)) z)))
      have hK_q_44 : sx_kf a0 [6, 7, 8, 9, 11, 12, 13, 14, 15] q q_44 := hK_q_31.tr (h3_q_44.mono (by decide))
      have mF_q_44 : mv_F m18 m19 q_44 := mv_F.eq (h2_q_44.G hm18 (show ¬ (h.1 m18 = 12) from (fun z => absurd (z.symm.trans km18) (by decide))) (by rw [km18]; decide)) (h2_q_44.G hm19 (show ¬ (h.1 m19 = 12) from (fun z => absurd (z.symm.trans km19) (by decide))) (by rw [km19]; decide)) mF_q_31
      have mU_q_44 : mv_U m17 q_44 := mv_U.eq (h2_q_44.Lg hm17 (show ¬ (h.1 m17 = 12) from (fun z => absurd (z.symm.trans km17) (by decide))) (by rw [km17]; decide)) mU_q_31
      rw [show (q_31.1 a0 6).toInt.toNat = pz_E F n9 A9 from (by omega)] at hw_45
      obtain ⟨hT20, hT2⟩ := hw_45
      have hT2p := hT2.1
      refine wa_aload_n B dX12_readSystem_59 rfl 1 rfl ?_
      refine wa_bipush B 58 dX12_readSystem_60 (by decide) ?_
      have n_46 : (58 : Int32).toInt = 58 := rfl
      refine wa_callVi B (x := (RX12, TX12, 51)) (As := [.int 58]) (rest := []) (k_X12_isSign_c l dC dI h L hN q_44 hV_q_44 (a0 := a0) ha0 ka0 58  ) (cwV 1 B.1.2.2.2.2 gX12_readSystem_X12_isSign rfl rfl rfl (by decide +kernel) ⟨Nat.le_of_ble_eq_true rfl, Nat.le_of_ble_eq_true rfl⟩) ha0 ka0 (by decide) rfl rfl rfl (Nat.le_of_ble_eq_true rfl) dX12_readSystem_62 (fun r_48 q_47 w_49 => ?_)
      obtain ⟨ew_49, hw_49⟩ := w_49
      subst ew_49
      have z_50 : q_44.2.2.2.2 m16 = (vp_updL (vp_updL (q.2.2.2.2 m16) ((3 + n1) : Int32).toNatClampNeg 0) ((3 + n1) : Int32).toNatClampNeg (q.2.1 a0 11)) := (h2_q_44.Lg hm16 (show ¬ (h.1 m16 = 12) from (fun z => absurd (z.symm.trans km16) (by decide))) (by rw [km16]; decide)).trans (z_32)
      have z_51 : q_44.2.2.2.2 m17 = (q.2.2.2.2 m17) := (h2_q_44.Lg hm17 (show ¬ (h.1 m17 = 12) from (fun z => absurd (z.symm.trans km17) (by decide))) (by rw [km17]; decide)).trans (((show q_31.2.2.2.2 m17 = q_7.2.2.2.2 m17 from by rw [eq_31]; exact sg_pL_a (sx_ka h km17 km16 (by decide)))).trans (z_17))
      have z_52 : q_44.2.2.2.1 m18 = (upd (q.2.2.2.1 m18) ((3 + n1) : Int32).toNatClampNeg 0) := (h2_q_44.G hm18 (show ¬ (h.1 m18 = 12) from (fun z => absurd (z.symm.trans km18) (by decide))) (by rw [km18]; decide)).trans (((show q_31.2.2.2.1 m18 = q_7.2.2.2.1 m18 from by rw [eq_31]; rfl)).trans (z_9))
      have z_53 : q_44.2.2.2.1 m19 = (q.2.2.2.1 m19) := (h2_q_44.G hm19 (show ¬ (h.1 m19 = 12) from (fun z => absurd (z.symm.trans km19) (by decide))) (by rw [km19]; decide)).trans (((show q_31.2.2.2.1 m19 = q_7.2.2.2.1 m19 from by rw [eq_31]; rfl)).trans (z_18))
      try simp only [z_50, z_51, z_52, z_53] at hw_49
      refine wa_if_ne B 74 dX12_readSystem_65 (by decide) (fun (t_54 : ¬ r_48.toInt = 0) => ?_) (fun (t_54 : r_48.toInt = 0) => ?_)
      · have y8 := rr_colon y9.2 hT2 (hw_49.resolve_right (fun y => absurd y.1 (by omega))).2
        refine wa_aload_n B dX12_readSystem_74 rfl 1 rfl ?_
        have z_55 : q_44.2.2.1 a0 3 = m3 := (h2_q_44.R ha0 (fun z9 => absurd z9.2 (by omega)) 3).trans (z_34)
        have z_56 : q_44.1 a0 5 = (q.1 a0 5) := (h3_q_44.1 5 (by decide)).trans (z_35)
        have y_57 : (q_44.1 a0 5).toInt = (q.1 a0 5).toInt := by rw [z_56]
        have z_58 : q_44.1 a0 4 = (q.1 a0 4) := (h3_q_44.1 4 (by decide)).trans (z_37)
        have y_59 : (q_44.1 a0 4).toInt = (q.1 a0 4).toInt := by rw [z_58]
        have z_60 : q_44.1 a0 10 = (q.1 a0 10) := (h3_q_44.1 10 (by decide)).trans (z_41)
        have y_61 : (q_44.1 a0 10).toInt = (q.1 a0 10).toInt := by rw [z_60]
        have z_62 : q_44.2.2.2.1 m3 = (q.2.2.2.1 m3) := (h2_q_44.G hm3 (show ¬ (h.1 m3 = 12) from (fun z => absurd (z.symm.trans km3) (by decide))) (by rw [km3]; decide)).trans (z_43)
        refine wa_callVv B (x := (RX12, TX12, 51)) (As := []) (rest := []) (k_X12_go_c l dC dI h L hN q_44 hV_q_44 (a0 := a0) ha0 ka0 (m3 := m3) z_55 F n9 (by first | assumption | omega | decide) (fun j hj => by rw [z_62]; exact hFF j hj) (by first | assumption | omega | decide) (by first | assumption | omega | decide) (by first | assumption | omega | decide)) (cwV 0 B.1.2.2.2.2 gX12_readSystem_X12_go rfl rfl rfl (by decide +kernel) ⟨Nat.le_of_ble_eq_true rfl, Nat.le_of_ble_eq_true rfl⟩) ha0 ka0 (by decide) rfl rfl rfl (Nat.le_of_ble_eq_true rfl) dX12_readSystem_75 (fun q_63 w_64 => ?_)
        obtain ⟨hV_q_63, h2_q_63, h3_q_63, mN_q_63, hw_64⟩ := w_64
        have hF_q_63 : sx_fr h L (fun a => h.1 a = 12 ∨ h.1 a = 226 ∨ h.1 a = 227 ∨ h.1 a = 128 ∨ h.1 a = 129) q q_63 := hF_q_44.tr (h2_q_63.mono (fun a (z : h.1 a = 12) => ((fun z => (Or.inl z)) z)))
        have hK_q_63 : sx_kf a0 [6, 7, 8, 9, 11, 12, 13, 14, 15] q q_63 := hK_q_44.tr (h3_q_63.mono (by decide))
        have mF_q_63 : mv_F m18 m19 q_63 := mv_F.eq (h2_q_63.G hm18 (show ¬ (h.1 m18 = 12) from (fun z => absurd (z.symm.trans km18) (by decide))) (by rw [km18]; decide)) (h2_q_63.G hm19 (show ¬ (h.1 m19 = 12) from (fun z => absurd (z.symm.trans km19) (by decide))) (by rw [km19]; decide)) mF_q_44
        have mU_q_63 : mv_U m17 q_63 := mv_U.eq (h2_q_63.Lg hm17 (show ¬ (h.1 m17 = 12) from (fun z => absurd (z.symm.trans km17) (by decide))) (by rw [km17]; decide)) mU_q_44
        rw [show (q_44.1 a0 6).toInt.toNat = pz_E F n9 (pz_E F n9 A9) from (by omega)] at hw_64
        obtain ⟨hT30, hT3⟩ := hw_64
        have hT3p := hT3.1
        refine wa_aload_n B dX12_readSystem_78 rfl 1 rfl ?_
        refine wa_iload_n B dX12_readSystem_79 rfl 2 rfl ?_
        have z_66 : q_63.2.2.2.1 m18 ((3 + n1) : Int32).toNatClampNeg = 0 := (congrFun ((h2_q_63.G hm18 (show ¬ (h.1 m18 = 12) from (fun z => absurd (z.symm.trans km18) (by decide))) (by rw [km18]; decide)).trans ((h2_q_44.G hm18 (show ¬ (h.1 m18 = 12) from (fun z => absurd (z.symm.trans km18) (by decide))) (by rw [km18]; decide)).trans ((show q_31.2.2.2.1 m18 = q_7.2.2.2.1 m18 from by rw [eq_31]; rfl)))) _).trans z_10
        have z_68 : q_63.2.2.2.2 m16 = (vp_updL (vp_updL (q.2.2.2.2 m16) ((3 + n1) : Int32).toNatClampNeg 0) ((3 + n1) : Int32).toNatClampNeg (q.2.1 a0 11)) := (h2_q_63.Lg hm16 (show ¬ (h.1 m16 = 12) from (fun z => absurd (z.symm.trans km16) (by decide))) (by rw [km16]; decide)).trans (z_50)
        have z_69 : q_63.2.2.2.2 m17 = (q.2.2.2.2 m17) := (h2_q_63.Lg hm17 (show ¬ (h.1 m17 = 12) from (fun z => absurd (z.symm.trans km17) (by decide))) (by rw [km17]; decide)).trans (z_51)
        have z_70 : q_63.2.2.2.1 m18 = (upd (q.2.2.2.1 m18) ((3 + n1) : Int32).toNatClampNeg 0) := (h2_q_63.G hm18 (show ¬ (h.1 m18 = 12) from (fun z => absurd (z.symm.trans km18) (by decide))) (by rw [km18]; decide)).trans (z_52)
        have z_71 : q_63.2.2.2.1 m19 = (q.2.2.2.1 m19) := (h2_q_63.G hm19 (show ¬ (h.1 m19 = 12) from (fun z => absurd (z.symm.trans km19) (by decide))) (by rw [km19]; decide)).trans (z_53)
        have y_67 : (q_63.2.2.2.1 m18 (3 + n1).toNatClampNeg).toInt = 0 := by rw [z_66]; rfl
        have lo_65 : rs_lo (q.2.2.2.2 m17) (q_63.2.2.2.2 m17) (q.2.2.2.1 m18) (q_63.2.2.2.1 m18) (q.2.2.2.1 m19) (q_63.2.2.2.1 m19) := by rw [z_69, z_70, z_71]; exact ⟨fun j hj => rfl, fun j hj => if_neg (by rw [e3]; omega), fun j hj => rfl⟩
        have z_72 : q_63.2.2.1 a0 3 = m3 := (h2_q_63.R ha0 (fun z9 => absurd z9.2 (by omega)) 3).trans (z_55)
        have z_73 : q_63.2.2.1 a0 16 = m16 := (h2_q_63.R ha0 (fun z9 => absurd z9.2 (by omega)) 16).trans ((h2_q_44.R ha0 (fun z9 => absurd z9.2 (by omega)) 16).trans (((show q_31.2.2.1 a0 16 = q_7.2.2.1 a0 16 from by rw [eq_31]; rfl)).trans (z_24)))
        have z_74 : q_63.2.2.1 a0 17 = m17 := (h2_q_63.R ha0 (fun z9 => absurd z9.2 (by omega)) 17).trans ((h2_q_44.R ha0 (fun z9 => absurd z9.2 (by omega)) 17).trans (((show q_31.2.2.1 a0 17 = q_7.2.2.1 a0 17 from by rw [eq_31]; rfl)).trans (z_25)))
        have z_75 : q_63.2.2.1 a0 18 = m18 := (h2_q_63.R ha0 (fun z9 => absurd z9.2 (by omega)) 18).trans ((h2_q_44.R ha0 (fun z9 => absurd z9.2 (by omega)) 18).trans (((show q_31.2.2.1 a0 18 = q_7.2.2.1 a0 18 from by rw [eq_31]; rfl)).trans (z_26)))
        have z_76 : q_63.2.2.1 a0 19 = m19 := (h2_q_63.R ha0 (fun z9 => absurd z9.2 (by omega)) 19).trans ((h2_q_44.R ha0 (fun z9 => absurd z9.2 (by omega)) 19).trans (((show q_31.2.2.1 a0 19 = q_7.2.2.1 a0 19 from by rw [eq_31]; rfl)).trans (((show q_7.2.2.1 a0 19 = q_3.2.2.1 a0 19 from by rw [eq_7]; rfl)).trans (((show q_3.2.2.1 a0 19 = q.2.2.1 a0 19 from by rw [eq_3]; rfl)).trans (em19)))))
        have z_77 : q_63.1 a0 10 = (q.1 a0 10) := (h3_q_63.1 10 (by decide)).trans (z_60)
        have y_78 : (q_63.1 a0 10).toInt = (q.1 a0 10).toInt := by rw [z_77]
        have z_79 : q_63.1 a0 5 = (q.1 a0 5) := (h3_q_63.1 5 (by decide)).trans (z_56)
        have y_80 : (q_63.1 a0 5).toInt = (q.1 a0 5).toInt := by rw [z_79]
        have z_81 : q_63.1 a0 4 = (q.1 a0 4) := (h3_q_63.1 4 (by decide)).trans (z_58)
        have y_82 : (q_63.1 a0 4).toInt = (q.1 a0 4).toInt := by rw [z_81]
        have z_83 : q_63.2.2.2.1 m3 = (q.2.2.2.1 m3) := (h2_q_63.G hm3 (show ¬ (h.1 m3 = 12) from (fun z => absurd (z.symm.trans km3) (by decide))) (by rw [km3]; decide)).trans (z_62)
        refine wa_callVi B (x := (RX12, TX12, 51)) (As := [.int n1]) (rest := []) (k_X12_readUnit_c l dC dI h L hN q_63 hV_q_63 (a0 := a0) ha0 ka0 n1 (m3 := m3) z_72 (m16 := m16) z_73 (m17 := m17) z_74 (m18 := m18) z_75 (m19 := m19) z_76 mN_q_63 mF_q_63 mU_q_63 F n9 R9 (by first | assumption | omega | decide) (by first | assumption | omega | decide) (by rw [z_66]; decide) (Or.inl (by rw [z_66]; rfl)) (by first | assumption | omega | decide) (fun j hj => by rw [z_83]; exact hFF j hj) (by first | assumption | omega | decide) (by first | assumption | omega | decide) (by first | assumption | omega | decide) (by rw [z_68, z_69, z_70, z_71]; exact ⟨_, hT3, y8.2.1⟩)) (cwV 1 B.1.2.2.2.2 gX12_readSystem_X12_readUnit rfl rfl rfl (by decide +kernel) ⟨Nat.le_of_ble_eq_true rfl, Nat.le_of_ble_eq_true rfl⟩) ha0 ka0 (by decide) rfl rfl rfl (Nat.le_of_ble_eq_true rfl) dX12_readSystem_80 (fun r_85 q_84 w_86 => ?_)
        obtain ⟨hV_q_84, h2_q_84, h3_q_84, mN_q_84, mF_q_84, mU_q_84, hw_86⟩ := w_86
        have hF_q_84 : sx_fr h L (fun a => h.1 a = 12 ∨ h.1 a = 226 ∨ h.1 a = 227 ∨ h.1 a = 128 ∨ h.1 a = 129) q q_84 := hF_q_63.tr (h2_q_84.mono (fun a (z : h.1 a = 12 ∨ h.1 a = 227 ∨ h.1 a = 128) => ((fun z => z.elim (fun z => (Or.inl z)) (fun z => z.elim (fun z => (Or.inr (Or.inr (Or.inl z)))) (fun z => (Or.inr (Or.inr (Or.inr (Or.inl z))))))) z)))
        have hK_q_84 : sx_kf a0 [6, 7, 8, 9, 11, 12, 13, 14, 15] q q_84 := hK_q_63.tr (h3_q_84.mono (by decide))
        have z_87 : q_84.1 a0 4 = (q.1 a0 4) := (h3_q_84.1 4 (by decide)).trans (z_81)
        have lo_88 : rs_lo (q.2.2.2.2 m17) (q_84.2.2.2.2 m17) (q.2.2.2.1 m18) (q_84.2.2.2.1 m18) (q.2.2.2.1 m19) (q_84.2.2.2.1 m19) := rs_lo.tr lo_65 hw_86.2.2
        refine wa_if_ne B 88 dX12_readSystem_83 (by decide) (fun (t_89 : ¬ r_85.toInt = 0) => ?_) (fun (t_89 : r_85.toInt = 0) => ?_)
        · have z_91 : q_84.1 a0 5 = (q.1 a0 5) := (h3_q_84.1 5 (by decide)).trans (z_79)
          have z_92 : q_84.1 a0 10 = (q.1 a0 10) := (h3_q_84.1 10 (by decide)).trans (z_77)
          have z_93 : q_84.2.2.1 a0 3 = m3 := (h2_q_84.R ha0 (fun z9 => absurd z9.2 (by omega)) 3).trans (z_72)
          have z_94 : q_84.2.2.1 a0 16 = m16 := (h2_q_84.R ha0 (fun z9 => absurd z9.2 (by omega)) 16).trans (z_73)
          have z_95 : q_84.2.2.1 a0 17 = m17 := (h2_q_84.R ha0 (fun z9 => absurd z9.2 (by omega)) 17).trans (z_74)
          have z_96 : q_84.2.2.1 a0 18 = m18 := (h2_q_84.R ha0 (fun z9 => absurd z9.2 (by omega)) 18).trans (z_75)
          have z_97 : q_84.2.2.1 a0 19 = m19 := (h2_q_84.R ha0 (fun z9 => absurd z9.2 (by omega)) 19).trans (z_76)
          have z_98 : q_84.2.2.2.1 m3 = (q.2.2.2.1 m3) := (h2_q_84.G hm3 (show ¬ (h.1 m3 = 12 ∨ h.1 m3 = 227 ∨ h.1 m3 = 128) from (fun z => z.elim (fun z => absurd (z.symm.trans km3) (by decide)) (fun z => z.elim (fun z => absurd (z.symm.trans km3) (by decide)) (fun z => absurd (z.symm.trans km3) (by decide))))) (by rw [km3]; decide)).trans (z_83)
          have z_99 : q_84.2.2.2.1 m19 = (q.2.2.2.1 m19) := (h2_q_84.G hm19 (show ¬ (h.1 m19 = 12 ∨ h.1 m19 = 227 ∨ h.1 m19 = 128) from (fun z => z.elim (fun z => absurd (z.symm.trans km19) (by decide)) (fun z => z.elim (fun z => absurd (z.symm.trans km19) (by decide)) (fun z => absurd (z.symm.trans km19) (by decide))))) (by rw [km19]; decide)).trans (z_71)
          have z_100 : q_84.2.2.2.2 m16 = (vp_updL (vp_updL (q.2.2.2.2 m16) ((3 + n1) : Int32).toNatClampNeg 0) ((3 + n1) : Int32).toNatClampNeg (q.2.1 a0 11)) := (h2_q_84.Lg hm16 (show ¬ (h.1 m16 = 12 ∨ h.1 m16 = 227 ∨ h.1 m16 = 128) from (fun z => z.elim (fun z => absurd (z.symm.trans km16) (by decide)) (fun z => z.elim (fun z => absurd (z.symm.trans km16) (by decide)) (fun z => absurd (z.symm.trans km16) (by decide))))) (by rw [km16]; decide)).trans (z_68)
          have Lp_88_104 : ∀ (n : Nat) (q_90 : Sg), sx_V h L q_90 → sx_fr h L (fun a => h.1 a = 12 ∨ h.1 a = 226 ∨ h.1 a = 227 ∨ h.1 a = 128 ∨ h.1 a = 129) q q_90 → sx_kf a0 [6, 7, 8, 9, 11, 12, 13, 14, 15] q q_90 → mv_N a0 q_90 → mv_F m18 m19 q_90 → mv_U m17 q_90 → q_90.1 a0 4 = (q.1 a0 4) → q_90.1 a0 5 = (q.1 a0 5) → q_90.1 a0 10 = (q.1 a0 10) → q_90.2.2.1 a0 3 = m3 → q_90.2.2.1 a0 16 = m16 → q_90.2.2.1 a0 17 = m17 → q_90.2.2.1 a0 18 = m18 → q_90.2.2.1 a0 19 = m19 → q_90.2.2.2.1 m3 = (q.2.2.2.1 m3) → q_90.2.2.2.2 m16 = (vp_updL (vp_updL (q.2.2.2.2 m16) ((3 + n1) : Int32).toNatClampNeg 0) ((3 + n1) : Int32).toNatClampNeg (q.2.1 a0 11)) → (q_90.1 a0 6).toInt ≤ (q_90.1 a0 4).toInt → rs_lo (q.2.2.2.2 m17) (q_90.2.2.2.2 m17) (q.2.2.2.1 m18) (q_90.2.2.2.1 m18) (q.2.2.2.1 m19) (q_90.2.2.2.1 m19) → rs_P F n9 R9 4 (n1.toInt.toNat + 1) (q_90.1 a0 8) (q_90.1 a0 9) (q_90.1 a0 7) (q_90.1 a0 6) (q_90.1 a0 12) (q_90.1 a0 13) (q_90.2.1 a0 11) (q_90.2.2.2.2 m16) (q_90.2.2.2.2 m17) (q_90.2.2.2.1 m18) (q_90.2.2.2.1 m19) → (5 - (q_90.2.2.2.1 m18 (3 + n1).toNatClampNeg).toInt : Int).toNat < n → WA l dC dI h L ({ frames := 4, cells := 0, slots := 0, locals := 87 } : Room) 3 Z q_90 88 [(2, .int (3 + n1)), (0, .ref a0), (1, .int n1)] [] := by
            intro n
            induction n with
            | zero =>
              intro q_90 hV_q_90 hF_q_90 hK_q_90 mN_q_90 mF_q_90 mU_q_90 p0_q_90 p1_q_90 p2_q_90 p3_q_90 p4_q_90 p5_q_90 p6_q_90 p7_q_90 p8_q_90 p9_q_90 x_101 x_102 x_103 hn
              exact absurd hn (Nat.not_lt_zero _)
            | succ n ih_106 =>
              intro q_90 hV_q_90 hF_q_90 hK_q_90 mN_q_90 mF_q_90 mU_q_90 p0_q_90 p1_q_90 p2_q_90 p3_q_90 p4_q_90 p5_q_90 p6_q_90 p7_q_90 p8_q_90 p9_q_90 x_101 x_102 x_103 hn
              have y_105 : (q_90.1 a0 4).toInt = (q.1 a0 4).toInt := by rw [p0_q_90]
              refine wa_aload_n B dX12_readSystem_88 rfl 1 rfl ?_
              obtain ⟨A8, hT8, hC8⟩ := x_103
              have hT8p := hT8.1
              rw [p9_q_90] at hC8
              refine wa_getI B (C := RX12) (T := TX12) (N := 51) iq_X12_readSystem_X12 ha0 ka0 (by decide) rfl 8 (by decide) (by decide) (by decide +kernel) rfl (by decide) (v := (q_90.1 a0 8)) rfl dX12_readSystem_89 ?_
              refine wa_iconst B 3 dX12_readSystem_92 (by decide) ?_
              refine wa_icmp_ne B 181 dX12_readSystem_93 (by decide) (fun (t_107 : ¬ (q_90.1 a0 8).toInt = 3) => ?_) (fun (t_107 : (q_90.1 a0 8).toInt = 3) => ?_)
              · refine wa_aload_n B dX12_readSystem_181 rfl 1 rfl ?_
                refine wa_bipush B 59 dX12_readSystem_182 (by decide) ?_
                have n_108 : (59 : Int32).toInt = 59 := rfl
                refine wa_callVi B (x := (RX12, TX12, 51)) (As := [.int 59]) (rest := []) (k_X12_isSign_c l dC dI h L hN q_90 hV_q_90 (a0 := a0) ha0 ka0 59  ) (cwV 1 B.1.2.2.2.2 gX12_readSystem_X12_isSign rfl rfl rfl (by decide +kernel) ⟨Nat.le_of_ble_eq_true rfl, Nat.le_of_ble_eq_true rfl⟩) ha0 ka0 (by decide) rfl rfl rfl (Nat.le_of_ble_eq_true rfl) dX12_readSystem_184 (fun r_110 q_109 w_111 => ?_)
                obtain ⟨ew_111, hw_111⟩ := w_111
                subst ew_111
                try simp only [p9_q_90] at hw_111
                refine wa_if_ne B 196 dX12_readSystem_187 (by decide) (fun (t_112 : ¬ r_110.toInt = 0) => ?_) (fun (t_112 : r_110.toInt = 0) => ?_)
                · have y5 := rr_semi hC8 hT8 (hw_111.resolve_right (fun y => absurd y.1 (by omega))).2
                  refine wa_aload_n B dX12_readSystem_196 rfl 1 rfl ?_
                  have y_113 : (q_90.1 a0 5).toInt = (q.1 a0 5).toInt := by rw [p1_q_90]
                  have y_114 : (q_90.1 a0 4).toInt = (q.1 a0 4).toInt := by rw [p0_q_90]
                  have y_115 : (q_90.1 a0 10).toInt = (q.1 a0 10).toInt := by rw [p2_q_90]
                  refine wa_callVv B (x := (RX12, TX12, 51)) (As := []) (rest := []) (k_X12_go_c l dC dI h L hN q_90 hV_q_90 (a0 := a0) ha0 ka0 (m3 := m3) p3_q_90 F n9 (by first | assumption | omega | decide) (fun j hj => by rw [p8_q_90]; exact hFF j hj) (by first | assumption | omega | decide) (by first | assumption | omega | decide) (by first | assumption | omega | decide)) (cwV 0 B.1.2.2.2.2 gX12_readSystem_X12_go rfl rfl rfl (by decide +kernel) ⟨Nat.le_of_ble_eq_true rfl, Nat.le_of_ble_eq_true rfl⟩) ha0 ka0 (by decide) rfl rfl rfl (Nat.le_of_ble_eq_true rfl) dX12_readSystem_197 (fun q_116 w_117 => ?_)
                  obtain ⟨hV_q_116, h2_q_116, h3_q_116, mN_q_116, hw_117⟩ := w_117
                  have hF_q_116 : sx_fr h L (fun a => h.1 a = 12 ∨ h.1 a = 226 ∨ h.1 a = 227 ∨ h.1 a = 128 ∨ h.1 a = 129) q q_116 := hF_q_90.tr (h2_q_116.mono (fun a (z : h.1 a = 12) => ((fun z => (Or.inl z)) z)))
                  have hK_q_116 : sx_kf a0 [6, 7, 8, 9, 11, 12, 13, 14, 15] q q_116 := hK_q_90.tr (h3_q_116.mono (by decide))
                  have mF_q_116 : mv_F m18 m19 q_116 := mv_F.eq (h2_q_116.G hm18 (show ¬ (h.1 m18 = 12) from (fun z => absurd (z.symm.trans km18) (by decide))) (by rw [km18]; decide)) (h2_q_116.G hm19 (show ¬ (h.1 m19 = 12) from (fun z => absurd (z.symm.trans km19) (by decide))) (by rw [km19]; decide)) mF_q_90
                  have mU_q_116 : mv_U m17 q_116 := mv_U.eq (h2_q_116.Lg hm17 (show ¬ (h.1 m17 = 12) from (fun z => absurd (z.symm.trans km17) (by decide))) (by rw [km17]; decide)) mU_q_90
                  rw [show (q_90.1 a0 6).toInt.toNat = pz_E F n9 A8 from (by omega)] at hw_117
                  obtain ⟨hT60, hT6⟩ := hw_117
                  have hT6p := hT6.1
                  refine wa_iconst B 1 dX12_readSystem_200 (by decide) ?_
                  have z_118 : q_116.1 a0 4 = (q.1 a0 4) := (h3_q_116.1 4 (by decide)).trans (p0_q_90)
                  have y_119 : (q_116.1 a0 4).toInt = (q.1 a0 4).toInt := by rw [z_118]
                  have y_120 : (q_116.1 a0 4).toInt = (q.1 a0 4).toInt := by rw [z_118]
                  have z_121 : q_116.2.2.2.2 m16 = (vp_updL (vp_updL (q.2.2.2.2 m16) ((3 + n1) : Int32).toNatClampNeg 0) ((3 + n1) : Int32).toNatClampNeg (q.2.1 a0 11)) := (h2_q_116.Lg hm16 (show ¬ (h.1 m16 = 12) from (fun z => absurd (z.symm.trans km16) (by decide))) (by rw [km16]; decide)).trans (p9_q_90)
                  have z_122 : q_116.2.2.2.2 m17 = q_90.2.2.2.2 m17 := h2_q_116.Lg hm17 (show ¬ (h.1 m17 = 12) from (fun z => absurd (z.symm.trans km17) (by decide))) (by rw [km17]; decide)
                  have z_123 : q_116.2.2.2.1 m18 = q_90.2.2.2.1 m18 := h2_q_116.G hm18 (show ¬ (h.1 m18 = 12) from (fun z => absurd (z.symm.trans km18) (by decide))) (by rw [km18]; decide)
                  have z_124 : q_116.2.2.2.1 m19 = q_90.2.2.2.1 m19 := h2_q_116.G hm19 (show ¬ (h.1 m19 = 12) from (fun z => absurd (z.symm.trans km19) (by decide))) (by rw [km19]; decide)
                  exact hret _ _ _ _ dX12_readSystem_201 (Or.inr rfl) ⟨hV_q_116, hF_q_116, hK_q_116, mN_q_116, mF_q_116, mU_q_116, ⟨(Or.inr ⟨rfl, by omega, by rw [z_121, z_122, z_123, z_124]; exact ⟨_, hT6, y5.2⟩⟩), by rw [z_122, z_123, z_124]; exact x_102⟩⟩
                · refine wa_aload_n B dX12_readSystem_190 rfl 1 rfl ?_
                  refine wa_iconst B 1 dX12_readSystem_191 (by decide) ?_
                  refine wa_callVi B (x := (RX12, TX12, 51)) (As := [.int 1]) (rest := []) (k_X12_bad_c l dC dI h L hN q_90 hV_q_90 (a0 := a0) ha0 ka0 1  ) (cwV 1 B.1.2.2.2.2 gX12_readSystem_X12_bad rfl rfl rfl (by decide +kernel) ⟨Nat.le_of_ble_eq_true rfl, Nat.le_of_ble_eq_true rfl⟩) ha0 ka0 (by decide) rfl rfl rfl (Nat.le_of_ble_eq_true rfl) dX12_readSystem_192 (fun r_126 q_125 w_127 => ?_)
                  obtain ⟨hV_q_125, h2_q_125, h3_q_125, hw_127⟩ := w_127
                  have hF_q_125 : sx_fr h L (fun a => h.1 a = 12 ∨ h.1 a = 226 ∨ h.1 a = 227 ∨ h.1 a = 128 ∨ h.1 a = 129) q q_125 := hF_q_90.tr (h2_q_125.mono (fun a (z : h.1 a = 12) => ((fun z => (Or.inl z)) z)))
                  have hK_q_125 : sx_kf a0 [6, 7, 8, 9, 11, 12, 13, 14, 15] q q_125 := hK_q_90.tr (h3_q_125.mono (by decide))
                  have mN_q_125 : mv_N a0 q_125 := mv_N.eq (h3_q_125.1 8 (by decide)) (h3_q_125.2 11 (by decide)) mN_q_90
                  have mF_q_125 : mv_F m18 m19 q_125 := mv_F.eq (h2_q_125.G hm18 (show ¬ (h.1 m18 = 12) from (fun z => absurd (z.symm.trans km18) (by decide))) (by rw [km18]; decide)) (h2_q_125.G hm19 (show ¬ (h.1 m19 = 12) from (fun z => absurd (z.symm.trans km19) (by decide))) (by rw [km19]; decide)) mF_q_90
                  have mU_q_125 : mv_U m17 q_125 := mv_U.eq (h2_q_125.Lg hm17 (show ¬ (h.1 m17 = 12) from (fun z => absurd (z.symm.trans km17) (by decide))) (by rw [km17]; decide)) mU_q_90
                  have z_128 : q_125.1 a0 12 = q_90.1 a0 12 := h3_q_125.1 12 (by decide)
                  have y_129 : (q_125.1 a0 12).toInt = (q_90.1 a0 12).toInt := by rw [z_128]
                  have z_130 : q_125.1 a0 13 = q_90.1 a0 13 := h3_q_125.1 13 (by decide)
                  have y_131 : (q_125.1 a0 13).toInt = (q_90.1 a0 13).toInt := by rw [z_130]
                  have z_132 : q_125.1 a0 4 = (q.1 a0 4) := (h3_q_125.1 4 (by decide)).trans (p0_q_90)
                  have y_133 : (q_125.1 a0 4).toInt = (q.1 a0 4).toInt := by rw [z_132]
                  have z_134 : q_125.1 a0 6 = q_90.1 a0 6 := h3_q_125.1 6 (by decide)
                  have y_135 : (q_125.1 a0 6).toInt = (q_90.1 a0 6).toInt := by rw [z_134]
                  have z_136 : q_125.1 a0 7 = q_90.1 a0 7 := h3_q_125.1 7 (by decide)
                  have y_137 : (q_125.1 a0 7).toInt = (q_90.1 a0 7).toInt := by rw [z_136]
                  have z_138 : q_125.1 a0 8 = q_90.1 a0 8 := h3_q_125.1 8 (by decide)
                  have y_139 : (q_125.1 a0 8).toInt = (q_90.1 a0 8).toInt := by rw [z_138]
                  have z_140 : q_125.1 a0 9 = q_90.1 a0 9 := h3_q_125.1 9 (by decide)
                  have y_141 : (q_125.1 a0 9).toInt = (q_90.1 a0 9).toInt := by rw [z_140]
                  have y_142 : (q_125.1 a0 4).toInt = (q.1 a0 4).toInt := by rw [z_132]
                  have y_143 : (q_125.1 a0 6).toInt = (q_90.1 a0 6).toInt := by rw [z_134]
                  have y_144 : (q_125.1 a0 7).toInt = (q_90.1 a0 7).toInt := by rw [z_136]
                  have z_145 : q_125.2.2.2.2 m16 = (vp_updL (vp_updL (q.2.2.2.2 m16) ((3 + n1) : Int32).toNatClampNeg 0) ((3 + n1) : Int32).toNatClampNeg (q.2.1 a0 11)) := (h2_q_125.Lg hm16 (show ¬ (h.1 m16 = 12) from (fun z => absurd (z.symm.trans km16) (by decide))) (by rw [km16]; decide)).trans (p9_q_90)
                  have z_146 : q_125.2.2.2.2 m17 = q_90.2.2.2.2 m17 := h2_q_125.Lg hm17 (show ¬ (h.1 m17 = 12) from (fun z => absurd (z.symm.trans km17) (by decide))) (by rw [km17]; decide)
                  have z_147 : q_125.2.2.2.1 m18 = q_90.2.2.2.1 m18 := h2_q_125.G hm18 (show ¬ (h.1 m18 = 12) from (fun z => absurd (z.symm.trans km18) (by decide))) (by rw [km18]; decide)
                  have z_148 : q_125.2.2.2.1 m19 = q_90.2.2.2.1 m19 := h2_q_125.G hm19 (show ¬ (h.1 m19 = 12) from (fun z => absurd (z.symm.trans km19) (by decide))) (by rw [km19]; decide)
                  exact hret _ _ _ _ dX12_readSystem_195 (zx_01 (by omega)) ⟨hV_q_125, hF_q_125, hK_q_125, mN_q_125, mF_q_125, mU_q_125, ⟨(Or.inl ⟨by omega, by omega, (rr_semi_bad hC8 hT8 (by omega) (hw_111.resolve_left (fun y => absurd y.1 (by omega))).2).trans (congrArg some (by omega))⟩), by rw [z_146, z_147, z_148]; exact x_102⟩⟩
              · refine wa_aload_n B dX12_readSystem_96 rfl 1 rfl ?_
                refine wa_callVi B (x := (RX12, TX12, 51)) (As := []) (rest := []) (k_X12_isFactor_c l dC dI h L hN q_90 hV_q_90 (a0 := a0) ha0 ka0  ) (cwV 0 B.1.2.2.2.2 gX12_readSystem_X12_isFactor rfl rfl rfl (by decide +kernel) ⟨Nat.le_of_ble_eq_true rfl, Nat.le_of_ble_eq_true rfl⟩) ha0 ka0 (by decide) rfl rfl rfl (Nat.le_of_ble_eq_true rfl) dX12_readSystem_97 (fun r_150 q_149 w_151 => ?_)
                obtain ⟨ew_151, hw_151⟩ := w_151
                subst ew_151
                try simp only [p9_q_90] at hw_151
                refine wa_if_ne B 109 dX12_readSystem_100 (by decide) (fun (t_152 : ¬ r_150.toInt = 0) => ?_) (fun (t_152 : r_150.toInt = 0) => ?_)
                · refine wa_aload_n B dX12_readSystem_109 rfl 1 rfl ?_
                  refine wa_getR B (C := RX12) (T := TX12) (N := 51) iq_X12_readSystem_X12 ha0 ka0 (by decide) rfl 18 (by decide) (by decide) (by decide +kernel) rfl (fun _ _ _ => rfl) (v := m18) p6_q_90 dX12_readSystem_110 ?_
                  refine wa_iload_n B dX12_readSystem_113 rfl 0 rfl ?_
                  refine wa_iaload B hm18 km18 (by decide) (by decide) (show 0 ≤ (3 + n1).toInt by omega) (show (3 + n1).toInt < (h.2.1 m18 : Int) by omega) (v := (q_90.2.2.2.1 m18 ((3 + n1) : Int32).toNatClampNeg)) rfl dX12_readSystem_114 ?_
                  have g_153 : (0 : Int) ≤ ((q_90.2.2.2.1 m18 ((3 + n1) : Int32).toNatClampNeg)).toInt ∧ ((q_90.2.2.2.1 m18 ((3 + n1) : Int32).toNatClampNeg)).toInt ≤ 5 := hV_q_90.cnt hm18 km18 _
                  refine wa_iconst B 5 dX12_readSystem_115 (by decide) ?_
                  refine wa_icmp_ne B 125 dX12_readSystem_116 (by decide) (fun (t_154 : ¬ ((q_90.2.2.2.1 m18 ((3 + n1) : Int32).toNatClampNeg)).toInt = 5) => ?_) (fun (t_154 : ((q_90.2.2.2.1 m18 ((3 + n1) : Int32).toNatClampNeg)).toInt = 5) => ?_)
                  · refine wa_aload_n B dX12_readSystem_125 rfl 1 rfl ?_
                    refine wa_getR B (C := RX12) (T := TX12) (N := 51) iq_X12_readSystem_X12 ha0 ka0 (by decide) rfl 19 (by decide) (by decide) (by decide +kernel) rfl (fun _ _ _ => rfl) (v := m19) p7_q_90 dX12_readSystem_126 ?_
                    refine wa_iconst B 5 dX12_readSystem_129 (by decide) ?_
                    refine wa_iload_n B dX12_readSystem_130 rfl 0 rfl ?_
                    refine wa_imul B dX12_readSystem_131 (fun v_155 ev_155 => ?_)
                    refine wa_aload_n B dX12_readSystem_132 rfl 1 rfl ?_
                    refine wa_getR B (C := RX12) (T := TX12) (N := 51) iq_X12_readSystem_X12 ha0 ka0 (by decide) rfl 18 (by decide) (by decide) (by decide +kernel) rfl (fun _ _ _ => rfl) (v := m18) p6_q_90 dX12_readSystem_133 ?_
                    refine wa_iload_n B dX12_readSystem_136 rfl 0 rfl ?_
                    refine wa_iaload B hm18 km18 (by decide) (by decide) (show 0 ≤ (3 + n1).toInt by omega) (show (3 + n1).toInt < (h.2.1 m18 : Int) by omega) (v := (q_90.2.2.2.1 m18 ((3 + n1) : Int32).toNatClampNeg)) rfl dX12_readSystem_137 ?_
                    refine wa_iadd B dX12_readSystem_138 (fun v_156 ev_156 => ?_)
                    refine wa_aload_n B dX12_readSystem_139 rfl 1 rfl ?_
                    refine wa_getI B (C := RX12) (T := TX12) (N := 51) iq_X12_readSystem_X12 ha0 ka0 (by decide) rfl 13 (by decide) (by decide) (by decide +kernel) rfl (by decide) (v := (q_90.1 a0 13)) rfl dX12_readSystem_140 ?_
                    have g_157 : (-48 : Int) ≤ (q_90.1 a0 13).toInt ∧ (q_90.1 a0 13).toInt ≤ 207 := hV_q_90.int ha0 ka0 13
                    refine wa_iconst B (-1) dX12_readSystem_143 (by decide) ?_
                    refine wa_icmp_ne B 154 dX12_readSystem_144 (by decide) (fun (t_158 : ¬ (q_90.1 a0 13).toInt = (-1)) => ?_) (fun (t_158 : (q_90.1 a0 13).toInt = (-1)) => ?_)
                    · refine wa_bipush B 10 dX12_readSystem_154 (by decide) ?_
                      refine wa_aload_n B dX12_readSystem_156 rfl 1 rfl ?_
                      refine wa_getI B (C := RX12) (T := TX12) (N := 51) iq_X12_readSystem_X12 ha0 ka0 (by decide) rfl 12 (by decide) (by decide) (by decide +kernel) rfl (by decide) (v := (q_90.1 a0 12)) rfl dX12_readSystem_157 ?_
                      have g_159 : (-48 : Int) ≤ (q_90.1 a0 12).toInt ∧ (q_90.1 a0 12).toInt ≤ 207 := hV_q_90.int ha0 ka0 12
                      refine wa_imul B dX12_readSystem_160 (fun v_160 ev_160 => ?_)
                      refine wa_aload_n B dX12_readSystem_161 rfl 1 rfl ?_
                      refine wa_getI B (C := RX12) (T := TX12) (N := 51) iq_X12_readSystem_X12 ha0 ka0 (by decide) rfl 13 (by decide) (by decide) (by decide +kernel) rfl (by decide) (v := (q_90.1 a0 13)) rfl dX12_readSystem_162 ?_
                      refine wa_iadd B dX12_readSystem_165 (fun v_161 ev_161 => ?_)
                      have tv_160 : v_160.toInt = 10 * (q_90.1 a0 12).toInt := by have b1 := zx_bd (q_90.1 a0 12); rw [ev_160]; exact zx_mul (show (-2147483648 : Int) ≤ 10 * (q_90.1 a0 12).toInt by omega) (show 10 * (q_90.1 a0 12).toInt < (2147483648 : Int) by omega)
                      have tv_161 : v_161.toInt = v_160.toInt + (q_90.1 a0 13).toInt := by have b0 := zx_bd v_160; have b1 := zx_bd (q_90.1 a0 13); rw [ev_161]; exact zx_add (show (-2147483648 : Int) ≤ v_160.toInt + (q_90.1 a0 13).toInt by omega) (show v_160.toInt + (q_90.1 a0 13).toInt < (2147483648 : Int) by omega)
                      have tv_155 : v_155.toInt = 5 * (3 + n1).toInt := by have b1 := zx_bd (3 + n1); rw [ev_155]; exact zx_mul (show (-2147483648 : Int) ≤ 5 * (3 + n1).toInt by omega) (show 5 * (3 + n1).toInt < (2147483648 : Int) by omega)
                      have tv_156 : v_156.toInt = v_155.toInt + ((q_90.2.2.2.1 m18 ((3 + n1) : Int32).toNatClampNeg)).toInt := by have b0 := zx_bd v_155; have b1 := zx_bd ((q_90.2.2.2.1 m18 ((3 + n1) : Int32).toNatClampNeg)); rw [ev_156]; exact zx_add (show (-2147483648 : Int) ≤ v_155.toInt + ((q_90.2.2.2.1 m18 ((3 + n1) : Int32).toNatClampNeg)).toInt by omega) (show v_155.toInt + ((q_90.2.2.2.1 m18 ((3 + n1) : Int32).toNatClampNeg)).toInt < (2147483648 : Int) by omega)
                      refine wa_iastore B hm19 km19 (by decide) (by decide) (show 0 ≤ v_156.toInt by omega) (show v_156.toInt < (h.2.1 m19 : Int) by omega) dX12_readSystem_166 (fun q_162 eq_162 => ?_)
                      have hV_q_162 : sx_V h L q_162 := by rw [eq_162]; exact hV_q_90.up1 hm19 km19 trivial
                      have hF_q_162 : sx_fr h L (fun a => h.1 a = 12 ∨ h.1 a = 226 ∨ h.1 a = 227 ∨ h.1 a = 128 ∨ h.1 a = 129) q q_162 := hF_q_90.tr (by rw [eq_162]; exact sx_fr.pG (show h.1 m19 = 100 ∨ (h.1 m19 = 12 ∨ h.1 m19 = 226 ∨ h.1 m19 = 227 ∨ h.1 m19 = 128 ∨ h.1 m19 = 129) from Or.inr (Or.inr (Or.inr (Or.inr (Or.inr km19))))))
                      have z_163 : q_162.2.2.2.1 m19 = (upd (q_90.2.2.2.1 m19) (v_156 : Int32).toNatClampNeg v_161) := by rw [eq_162, sg_pG_e]
                      have z_164 : q_162.2.2.2.1 m19 (v_156 : Int32).toNatClampNeg = v_161 := by rw [eq_162, sg_pG_e]; exact if_pos rfl
                      have hK_q_162 : sx_kf a0 [6, 7, 8, 9, 11, 12, 13, 14, 15] q q_162 := hK_q_90.tr (sx_kf.eq (by rw [eq_162]; rfl) (by rw [eq_162]; rfl))
                      have mN_q_162 : mv_N a0 q_162 := mv_N.eq ((show q_162.1 a0 8 = q_90.1 a0 8 from by rw [eq_162]; rfl)) ((show q_162.2.1 a0 11 = q_90.2.1 a0 11 from by rw [eq_162]; rfl)) mN_q_90
                      have mF_q_162 : mv_F m18 m19 q_162 := mv_f.F (mv_f.new (s0 := (3 + n1 : Int32).toNatClampNeg) (i := (v_156 : Int32).toNatClampNeg) ((mF_q_90).f rfl rfl) (fun j => (hV_q_90.cnt hm18 km18 j : sx_in _ 0 5).2) (by omega) (by omega) (by have a9 := zx_nc (3 + n1); have a8 := zx_nc v_156; omega)) ((show q_162.2.2.2.1 m18 = q_90.2.2.2.1 m18 from by rw [eq_162]; exact sg_pG_a (sx_ka h km18 km19 (by decide)))) (show q_162.2.2.2.1 m19 = _ from by rw [eq_162]; exact sg_pG_e)
                      have mU_q_162 : mv_U m17 q_162 := mv_U.eq ((show q_162.2.2.2.2 m17 = q_90.2.2.2.2 m17 from by rw [eq_162]; rfl)) mU_q_90
                      have y5 := rr_fac (FA' := (upd (q_90.2.2.2.1 m19) (v_156 : Int32).toNatClampNeg v_161)) hC8 hT8 (by omega) (v := v_161) (by omega) (j := n1.toInt.toNat) (i := (v_156 : Int32).toNatClampNeg) rfl ⟨by omega, by rw [← e3]; omega⟩ (by have a9 := zx_nc v_156; rw [← e3]; omega) rfl
                      refine wa_aload_n B dX12_readSystem_167 rfl 1 rfl ?_
                      have z_165 : q_162.2.2.1 a0 3 = m3 := ((show q_162.2.2.1 a0 3 = q_90.2.2.1 a0 3 from by rw [eq_162]; rfl)).trans (p3_q_90)
                      have z_166 : q_162.1 a0 5 = (q.1 a0 5) := ((show q_162.1 a0 5 = q_90.1 a0 5 from by rw [eq_162]; rfl)).trans (p1_q_90)
                      have y_167 : (q_162.1 a0 5).toInt = (q.1 a0 5).toInt := by rw [z_166]
                      have z_168 : q_162.1 a0 4 = (q.1 a0 4) := ((show q_162.1 a0 4 = q_90.1 a0 4 from by rw [eq_162]; rfl)).trans (p0_q_90)
                      have y_169 : (q_162.1 a0 4).toInt = (q.1 a0 4).toInt := by rw [z_168]
                      have z_170 : q_162.1 a0 6 = q_90.1 a0 6 := (show q_162.1 a0 6 = q_90.1 a0 6 from by rw [eq_162]; rfl)
                      have y_171 : (q_162.1 a0 6).toInt = (q_90.1 a0 6).toInt := by rw [z_170]
                      have z_172 : q_162.1 a0 10 = (q.1 a0 10) := ((show q_162.1 a0 10 = q_90.1 a0 10 from by rw [eq_162]; rfl)).trans (p2_q_90)
                      have y_173 : (q_162.1 a0 10).toInt = (q.1 a0 10).toInt := by rw [z_172]
                      have z_174 : q_162.2.2.2.1 m3 = (q.2.2.2.1 m3) := ((show q_162.2.2.2.1 m3 = q_90.2.2.2.1 m3 from by rw [eq_162]; exact sg_pG_a (sx_ka h km3 km19 (by decide)))).trans (p8_q_90)
                      refine wa_callVv B (x := (RX12, TX12, 51)) (As := []) (rest := []) (k_X12_go_c l dC dI h L hN q_162 hV_q_162 (a0 := a0) ha0 ka0 (m3 := m3) z_165 F n9 (by first | assumption | omega | decide) (fun j hj => by rw [z_174]; exact hFF j hj) (by first | assumption | omega | decide) (by first | assumption | omega | decide) (by first | assumption | omega | decide)) (cwV 0 B.1.2.2.2.2 gX12_readSystem_X12_go rfl rfl rfl (by decide +kernel) ⟨Nat.le_of_ble_eq_true rfl, Nat.le_of_ble_eq_true rfl⟩) ha0 ka0 (by decide) rfl rfl rfl (Nat.le_of_ble_eq_true rfl) dX12_readSystem_168 (fun q_175 w_176 => ?_)
                      obtain ⟨hV_q_175, h2_q_175, h3_q_175, mN_q_175, hw_176⟩ := w_176
                      have hF_q_175 : sx_fr h L (fun a => h.1 a = 12 ∨ h.1 a = 226 ∨ h.1 a = 227 ∨ h.1 a = 128 ∨ h.1 a = 129) q q_175 := hF_q_162.tr (h2_q_175.mono (fun a (z : h.1 a = 12) => ((fun z => (Or.inl z)) z)))
                      have hK_q_175 : sx_kf a0 [6, 7, 8, 9, 11, 12, 13, 14, 15] q q_175 := hK_q_162.tr (h3_q_175.mono (by decide))
                      have mF_q_175 : mv_F m18 m19 q_175 := mv_F.eq (h2_q_175.G hm18 (show ¬ (h.1 m18 = 12) from (fun z => absurd (z.symm.trans km18) (by decide))) (by rw [km18]; decide)) (h2_q_175.G hm19 (show ¬ (h.1 m19 = 12) from (fun z => absurd (z.symm.trans km19) (by decide))) (by rw [km19]; decide)) mF_q_162
                      have mU_q_175 : mv_U m17 q_175 := mv_U.eq (h2_q_175.Lg hm17 (show ¬ (h.1 m17 = 12) from (fun z => absurd (z.symm.trans km17) (by decide))) (by rw [km17]; decide)) mU_q_162
                      rw [show (q_162.1 a0 6).toInt.toNat = pz_E F n9 A8 from (by omega)] at hw_176
                      obtain ⟨hT50, hT5⟩ := hw_176
                      have hT5p := hT5.1
                      refine wa_aload_n B dX12_readSystem_171 rfl 1 rfl ?_
                      refine wa_iload_n B dX12_readSystem_172 rfl 2 rfl ?_
                      have z_178 : q_175.2.2.2.1 m18 ((3 + n1) : Int32).toNatClampNeg = (q_90.2.2.2.1 m18 ((3 + n1) : Int32).toNatClampNeg) := (congrFun ((h2_q_175.G hm18 (show ¬ (h.1 m18 = 12) from (fun z => absurd (z.symm.trans km18) (by decide))) (by rw [km18]; decide)).trans ((show q_162.2.2.2.1 m18 = q_90.2.2.2.1 m18 from by rw [eq_162]; exact sg_pG_a (sx_ka h km18 km19 (by decide))))) _).trans rfl
                      have z_180 : q_175.2.2.2.2 m16 = (vp_updL (vp_updL (q.2.2.2.2 m16) ((3 + n1) : Int32).toNatClampNeg 0) ((3 + n1) : Int32).toNatClampNeg (q.2.1 a0 11)) := (h2_q_175.Lg hm16 (show ¬ (h.1 m16 = 12) from (fun z => absurd (z.symm.trans km16) (by decide))) (by rw [km16]; decide)).trans (((show q_162.2.2.2.2 m16 = q_90.2.2.2.2 m16 from by rw [eq_162]; rfl)).trans (p9_q_90))
                      have z_181 : q_175.2.2.2.2 m17 = q_90.2.2.2.2 m17 := (h2_q_175.Lg hm17 (show ¬ (h.1 m17 = 12) from (fun z => absurd (z.symm.trans km17) (by decide))) (by rw [km17]; decide)).trans ((show q_162.2.2.2.2 m17 = q_90.2.2.2.2 m17 from by rw [eq_162]; rfl))
                      have z_182 : q_175.2.2.2.1 m18 = q_90.2.2.2.1 m18 := (h2_q_175.G hm18 (show ¬ (h.1 m18 = 12) from (fun z => absurd (z.symm.trans km18) (by decide))) (by rw [km18]; decide)).trans ((show q_162.2.2.2.1 m18 = q_90.2.2.2.1 m18 from by rw [eq_162]; exact sg_pG_a (sx_ka h km18 km19 (by decide))))
                      have z_183 : q_175.2.2.2.1 m19 = (upd (q_90.2.2.2.1 m19) (v_156 : Int32).toNatClampNeg v_161) := (h2_q_175.G hm19 (show ¬ (h.1 m19 = 12) from (fun z => absurd (z.symm.trans km19) (by decide))) (by rw [km19]; decide)).trans (z_163)
                      have y_179 : (q_175.2.2.2.1 m18 (3 + n1).toNatClampNeg).toInt = ((q_90.2.2.2.1 m18 ((3 + n1) : Int32).toNatClampNeg)).toInt := by rw [z_178]
                      have lo_177 : rs_lo (q.2.2.2.2 m17) (q_175.2.2.2.2 m17) (q.2.2.2.1 m18) (q_175.2.2.2.1 m18) (q.2.2.2.1 m19) (q_175.2.2.2.1 m19) := by rw [z_181, z_182, z_183]; exact rs_lo.tr x_102 ⟨fun j hj => rfl, fun j hj => rfl, fun j hj => if_neg (by have a9 := zx_nc v_156; omega)⟩
                      have z_184 : q_175.2.2.1 a0 3 = m3 := (h2_q_175.R ha0 (fun z9 => absurd z9.2 (by omega)) 3).trans (z_165)
                      have z_185 : q_175.2.2.1 a0 16 = m16 := (h2_q_175.R ha0 (fun z9 => absurd z9.2 (by omega)) 16).trans (((show q_162.2.2.1 a0 16 = q_90.2.2.1 a0 16 from by rw [eq_162]; rfl)).trans (p4_q_90))
                      have z_186 : q_175.2.2.1 a0 17 = m17 := (h2_q_175.R ha0 (fun z9 => absurd z9.2 (by omega)) 17).trans (((show q_162.2.2.1 a0 17 = q_90.2.2.1 a0 17 from by rw [eq_162]; rfl)).trans (p5_q_90))
                      have z_187 : q_175.2.2.1 a0 18 = m18 := (h2_q_175.R ha0 (fun z9 => absurd z9.2 (by omega)) 18).trans (((show q_162.2.2.1 a0 18 = q_90.2.2.1 a0 18 from by rw [eq_162]; rfl)).trans (p6_q_90))
                      have z_188 : q_175.2.2.1 a0 19 = m19 := (h2_q_175.R ha0 (fun z9 => absurd z9.2 (by omega)) 19).trans (((show q_162.2.2.1 a0 19 = q_90.2.2.1 a0 19 from by rw [eq_162]; rfl)).trans (p7_q_90))
                      have z_189 : q_175.1 a0 10 = (q.1 a0 10) := (h3_q_175.1 10 (by decide)).trans (z_172)
                      have y_190 : (q_175.1 a0 10).toInt = (q.1 a0 10).toInt := by rw [z_189]
                      have z_191 : q_175.1 a0 5 = (q.1 a0 5) := (h3_q_175.1 5 (by decide)).trans (z_166)
                      have y_192 : (q_175.1 a0 5).toInt = (q.1 a0 5).toInt := by rw [z_191]
                      have z_193 : q_175.1 a0 4 = (q.1 a0 4) := (h3_q_175.1 4 (by decide)).trans (z_168)
                      have y_194 : (q_175.1 a0 4).toInt = (q.1 a0 4).toInt := by rw [z_193]
                      have z_195 : q_175.2.2.2.1 m19 (v_156 : Int32).toNatClampNeg = v_161 := (congrFun (h2_q_175.G hm19 (show ¬ (h.1 m19 = 12) from (fun z => absurd (z.symm.trans km19) (by decide))) (by rw [km19]; decide)) _).trans z_164
                      have z_196 : q_175.2.2.2.1 m3 = (q.2.2.2.1 m3) := (h2_q_175.G hm3 (show ¬ (h.1 m3 = 12) from (fun z => absurd (z.symm.trans km3) (by decide))) (by rw [km3]; decide)).trans (z_174)
                      refine wa_callVi B (x := (RX12, TX12, 51)) (As := [.int n1]) (rest := []) (k_X12_readUnit_c l dC dI h L hN q_175 hV_q_175 (a0 := a0) ha0 ka0 n1 (m3 := m3) z_184 (m16 := m16) z_185 (m17 := m17) z_186 (m18 := m18) z_187 (m19 := m19) z_188 mN_q_175 mF_q_175 mU_q_175 F n9 R9 (by first | assumption | omega | decide) (by first | assumption | omega | decide) (by rw [z_178]; omega) (Or.inr (by rw [z_178]; rw [show 5 * (3 + n1 : Int32).toNatClampNeg + ((q_90.2.2.2.1 m18 ((3 + n1) : Int32).toNatClampNeg)).toInt.toNat = (v_156 : Int32).toNatClampNeg from by have a9 := zx_nc (3 + n1); have a8 := zx_nc v_156; omega, z_195]; omega)) (by first | assumption | omega | decide) (fun j hj => by rw [z_196]; exact hFF j hj) (by first | assumption | omega | decide) (by first | assumption | omega | decide) (by first | assumption | omega | decide) (by rw [z_180, z_181, z_182, z_183]; exact ⟨_, hT5, y5.2⟩)) (cwV 1 B.1.2.2.2.2 gX12_readSystem_X12_readUnit rfl rfl rfl (by decide +kernel) ⟨Nat.le_of_ble_eq_true rfl, Nat.le_of_ble_eq_true rfl⟩) ha0 ka0 (by decide) rfl rfl rfl (Nat.le_of_ble_eq_true rfl) dX12_readSystem_173 (fun r_198 q_197 w_199 => ?_)
                      obtain ⟨hV_q_197, h2_q_197, h3_q_197, mN_q_197, mF_q_197, mU_q_197, hw_199⟩ := w_199
                      have hF_q_197 : sx_fr h L (fun a => h.1 a = 12 ∨ h.1 a = 226 ∨ h.1 a = 227 ∨ h.1 a = 128 ∨ h.1 a = 129) q q_197 := hF_q_175.tr (h2_q_197.mono (fun a (z : h.1 a = 12 ∨ h.1 a = 227 ∨ h.1 a = 128) => ((fun z => z.elim (fun z => (Or.inl z)) (fun z => z.elim (fun z => (Or.inr (Or.inr (Or.inl z)))) (fun z => (Or.inr (Or.inr (Or.inr (Or.inl z))))))) z)))
                      have hK_q_197 : sx_kf a0 [6, 7, 8, 9, 11, 12, 13, 14, 15] q q_197 := hK_q_175.tr (h3_q_197.mono (by decide))
                      have z_200 : q_197.1 a0 4 = (q.1 a0 4) := (h3_q_197.1 4 (by decide)).trans (z_193)
                      have lo_201 : rs_lo (q.2.2.2.2 m17) (q_197.2.2.2.2 m17) (q.2.2.2.1 m18) (q_197.2.2.2.1 m18) (q.2.2.2.1 m19) (q_197.2.2.2.1 m19) := rs_lo.tr lo_177 hw_199.2.2
                      refine wa_if_ne B 88 dX12_readSystem_176 (by decide) (fun (t_202 : ¬ r_198.toInt = 0) => ?_) (fun (t_202 : r_198.toInt = 0) => ?_)
                      · have y_203 : (q_197.1 a0 4).toInt = (q.1 a0 4).toInt := by rw [z_200]
                        have z_204 : q_197.1 a0 5 = (q.1 a0 5) := (h3_q_197.1 5 (by decide)).trans (z_191)
                        have z_205 : q_197.1 a0 10 = (q.1 a0 10) := (h3_q_197.1 10 (by decide)).trans (z_189)
                        have z_206 : q_197.2.2.1 a0 3 = m3 := (h2_q_197.R ha0 (fun z9 => absurd z9.2 (by omega)) 3).trans (z_184)
                        have z_207 : q_197.2.2.1 a0 16 = m16 := (h2_q_197.R ha0 (fun z9 => absurd z9.2 (by omega)) 16).trans (z_185)
                        have z_208 : q_197.2.2.1 a0 17 = m17 := (h2_q_197.R ha0 (fun z9 => absurd z9.2 (by omega)) 17).trans (z_186)
                        have z_209 : q_197.2.2.1 a0 18 = m18 := (h2_q_197.R ha0 (fun z9 => absurd z9.2 (by omega)) 18).trans (z_187)
                        have z_210 : q_197.2.2.1 a0 19 = m19 := (h2_q_197.R ha0 (fun z9 => absurd z9.2 (by omega)) 19).trans (z_188)
                        have z_211 : q_197.2.2.2.1 m3 = (q.2.2.2.1 m3) := (h2_q_197.G hm3 (show ¬ (h.1 m3 = 12 ∨ h.1 m3 = 227 ∨ h.1 m3 = 128) from (fun z => z.elim (fun z => absurd (z.symm.trans km3) (by decide)) (fun z => z.elim (fun z => absurd (z.symm.trans km3) (by decide)) (fun z => absurd (z.symm.trans km3) (by decide))))) (by rw [km3]; decide)).trans (z_196)
                        have z_212 : q_197.2.2.2.2 m16 = (vp_updL (vp_updL (q.2.2.2.2 m16) ((3 + n1) : Int32).toNatClampNeg 0) ((3 + n1) : Int32).toNatClampNeg (q.2.1 a0 11)) := (h2_q_197.Lg hm16 (show ¬ (h.1 m16 = 12 ∨ h.1 m16 = 227 ∨ h.1 m16 = 128) from (fun z => z.elim (fun z => absurd (z.symm.trans km16) (by decide)) (fun z => z.elim (fun z => absurd (z.symm.trans km16) (by decide)) (fun z => absurd (z.symm.trans km16) (by decide))))) (by rw [km16]; decide)).trans (z_180)
                        exact ih_106 q_197 hV_q_197 hF_q_197 hK_q_197 mN_q_197 mF_q_197 mU_q_197 z_200 z_204 z_205 z_206 z_207 z_208 z_209 z_210 z_211 z_212 (show (q_197.1 a0 6).toInt ≤ (q_197.1 a0 4).toInt from by have y7 := (hw_199.2.1.resolve_left (fun y => absurd y.1 (by omega))).2.1; omega) (show rs_lo (q.2.2.2.2 m17) (q_197.2.2.2.2 m17) (q.2.2.2.1 m18) (q_197.2.2.2.1 m18) (q.2.2.2.1 m19) (q_197.2.2.2.1 m19) from by exact lo_201) (show rs_P F n9 R9 4 (n1.toInt.toNat + 1) (q_197.1 a0 8) (q_197.1 a0 9) (q_197.1 a0 7) (q_197.1 a0 6) (q_197.1 a0 12) (q_197.1 a0 13) (q_197.2.1 a0 11) (q_197.2.2.2.2 m16) (q_197.2.2.2.2 m17) (q_197.2.2.2.1 m18) (q_197.2.2.2.1 m19) from by exact (hw_199.2.1.resolve_left (fun y => absurd y.1 (by omega))).2.2) (show (5 - (q_197.2.2.2.1 m18 (3 + n1).toNatClampNeg).toInt : Int).toNat < _ from by omega)
                      · refine wa_iconst B 0 dX12_readSystem_179 (by decide) ?_
                        have y_213 : (q_197.1 a0 4).toInt = (q.1 a0 4).toInt := by rw [z_200]
                        have y_214 : (q_197.1 a0 4).toInt = (q.1 a0 4).toInt := by rw [z_200]
                        exact hret _ _ _ _ dX12_readSystem_180 (Or.inl rfl) ⟨hV_q_197, hF_q_197, hK_q_197, mN_q_197, mF_q_197, mU_q_197, ⟨(Or.inl ⟨rfl, (hw_199.2.1.resolve_right (fun y => absurd y.1 (by omega))).2⟩), lo_201⟩⟩
                    · refine wa_aload_n B dX12_readSystem_147 rfl 1 rfl ?_
                      refine wa_getI B (C := RX12) (T := TX12) (N := 51) iq_X12_readSystem_X12 ha0 ka0 (by decide) rfl 12 (by decide) (by decide) (by decide +kernel) rfl (by decide) (v := (q_90.1 a0 12)) rfl dX12_readSystem_148 ?_
                      have g_215 : (-48 : Int) ≤ (q_90.1 a0 12).toInt ∧ (q_90.1 a0 12).toInt ≤ 207 := hV_q_90.int ha0 ka0 12
                      refine wa_goto B 166 dX12_readSystem_151 (by decide) ?_
                      have tv_155 : v_155.toInt = 5 * (3 + n1).toInt := by have b1 := zx_bd (3 + n1); rw [ev_155]; exact zx_mul (show (-2147483648 : Int) ≤ 5 * (3 + n1).toInt by omega) (show 5 * (3 + n1).toInt < (2147483648 : Int) by omega)
                      have tv_156 : v_156.toInt = v_155.toInt + ((q_90.2.2.2.1 m18 ((3 + n1) : Int32).toNatClampNeg)).toInt := by have b0 := zx_bd v_155; have b1 := zx_bd ((q_90.2.2.2.1 m18 ((3 + n1) : Int32).toNatClampNeg)); rw [ev_156]; exact zx_add (show (-2147483648 : Int) ≤ v_155.toInt + ((q_90.2.2.2.1 m18 ((3 + n1) : Int32).toNatClampNeg)).toInt by omega) (show v_155.toInt + ((q_90.2.2.2.1 m18 ((3 + n1) : Int32).toNatClampNeg)).toInt < (2147483648 : Int) by omega)
                      refine wa_iastore B hm19 km19 (by decide) (by decide) (show 0 ≤ v_156.toInt by omega) (show v_156.toInt < (h.2.1 m19 : Int) by omega) dX12_readSystem_166 (fun q_216 eq_216 => ?_)
                      have hV_q_216 : sx_V h L q_216 := by rw [eq_216]; exact hV_q_90.up1 hm19 km19 trivial
                      have hF_q_216 : sx_fr h L (fun a => h.1 a = 12 ∨ h.1 a = 226 ∨ h.1 a = 227 ∨ h.1 a = 128 ∨ h.1 a = 129) q q_216 := hF_q_90.tr (by rw [eq_216]; exact sx_fr.pG (show h.1 m19 = 100 ∨ (h.1 m19 = 12 ∨ h.1 m19 = 226 ∨ h.1 m19 = 227 ∨ h.1 m19 = 128 ∨ h.1 m19 = 129) from Or.inr (Or.inr (Or.inr (Or.inr (Or.inr km19))))))
                      have z_217 : q_216.2.2.2.1 m19 = (upd (q_90.2.2.2.1 m19) (v_156 : Int32).toNatClampNeg (q_90.1 a0 12)) := by rw [eq_216, sg_pG_e]
                      have z_218 : q_216.2.2.2.1 m19 (v_156 : Int32).toNatClampNeg = (q_90.1 a0 12) := by rw [eq_216, sg_pG_e]; exact if_pos rfl
                      have hK_q_216 : sx_kf a0 [6, 7, 8, 9, 11, 12, 13, 14, 15] q q_216 := hK_q_90.tr (sx_kf.eq (by rw [eq_216]; rfl) (by rw [eq_216]; rfl))
                      have mN_q_216 : mv_N a0 q_216 := mv_N.eq ((show q_216.1 a0 8 = q_90.1 a0 8 from by rw [eq_216]; rfl)) ((show q_216.2.1 a0 11 = q_90.2.1 a0 11 from by rw [eq_216]; rfl)) mN_q_90
                      have mF_q_216 : mv_F m18 m19 q_216 := mv_f.F (mv_f.new (s0 := (3 + n1 : Int32).toNatClampNeg) (i := (v_156 : Int32).toNatClampNeg) ((mF_q_90).f rfl rfl) (fun j => (hV_q_90.cnt hm18 km18 j : sx_in _ 0 5).2) (by omega) (by omega) (by have a9 := zx_nc (3 + n1); have a8 := zx_nc v_156; omega)) ((show q_216.2.2.2.1 m18 = q_90.2.2.2.1 m18 from by rw [eq_216]; exact sg_pG_a (sx_ka h km18 km19 (by decide)))) (show q_216.2.2.2.1 m19 = _ from by rw [eq_216]; exact sg_pG_e)
                      have mU_q_216 : mv_U m17 q_216 := mv_U.eq ((show q_216.2.2.2.2 m17 = q_90.2.2.2.2 m17 from by rw [eq_216]; rfl)) mU_q_90
                      have y5 := rr_fac (FA' := (upd (q_90.2.2.2.1 m19) (v_156 : Int32).toNatClampNeg (q_90.1 a0 12))) hC8 hT8 (by omega) (v := (q_90.1 a0 12)) (by omega) (j := n1.toInt.toNat) (i := (v_156 : Int32).toNatClampNeg) rfl ⟨by omega, by rw [← e3]; omega⟩ (by have a9 := zx_nc v_156; rw [← e3]; omega) rfl
                      refine wa_aload_n B dX12_readSystem_167 rfl 1 rfl ?_
                      have z_219 : q_216.2.2.1 a0 3 = m3 := ((show q_216.2.2.1 a0 3 = q_90.2.2.1 a0 3 from by rw [eq_216]; rfl)).trans (p3_q_90)
                      have z_220 : q_216.1 a0 5 = (q.1 a0 5) := ((show q_216.1 a0 5 = q_90.1 a0 5 from by rw [eq_216]; rfl)).trans (p1_q_90)
                      have y_221 : (q_216.1 a0 5).toInt = (q.1 a0 5).toInt := by rw [z_220]
                      have z_222 : q_216.1 a0 4 = (q.1 a0 4) := ((show q_216.1 a0 4 = q_90.1 a0 4 from by rw [eq_216]; rfl)).trans (p0_q_90)
                      have y_223 : (q_216.1 a0 4).toInt = (q.1 a0 4).toInt := by rw [z_222]
                      have z_224 : q_216.1 a0 6 = q_90.1 a0 6 := (show q_216.1 a0 6 = q_90.1 a0 6 from by rw [eq_216]; rfl)
                      have y_225 : (q_216.1 a0 6).toInt = (q_90.1 a0 6).toInt := by rw [z_224]
                      have z_226 : q_216.1 a0 10 = (q.1 a0 10) := ((show q_216.1 a0 10 = q_90.1 a0 10 from by rw [eq_216]; rfl)).trans (p2_q_90)
                      have y_227 : (q_216.1 a0 10).toInt = (q.1 a0 10).toInt := by rw [z_226]
                      have z_228 : q_216.2.2.2.1 m3 = (q.2.2.2.1 m3) := ((show q_216.2.2.2.1 m3 = q_90.2.2.2.1 m3 from by rw [eq_216]; exact sg_pG_a (sx_ka h km3 km19 (by decide)))).trans (p8_q_90)
                      refine wa_callVv B (x := (RX12, TX12, 51)) (As := []) (rest := []) (k_X12_go_c l dC dI h L hN q_216 hV_q_216 (a0 := a0) ha0 ka0 (m3 := m3) z_219 F n9 (by first | assumption | omega | decide) (fun j hj => by rw [z_228]; exact hFF j hj) (by first | assumption | omega | decide) (by first | assumption | omega | decide) (by first | assumption | omega | decide)) (cwV 0 B.1.2.2.2.2 gX12_readSystem_X12_go rfl rfl rfl (by decide +kernel) ⟨Nat.le_of_ble_eq_true rfl, Nat.le_of_ble_eq_true rfl⟩) ha0 ka0 (by decide) rfl rfl rfl (Nat.le_of_ble_eq_true rfl) dX12_readSystem_168 (fun q_229 w_230 => ?_)
                      obtain ⟨hV_q_229, h2_q_229, h3_q_229, mN_q_229, hw_230⟩ := w_230
                      have hF_q_229 : sx_fr h L (fun a => h.1 a = 12 ∨ h.1 a = 226 ∨ h.1 a = 227 ∨ h.1 a = 128 ∨ h.1 a = 129) q q_229 := hF_q_216.tr (h2_q_229.mono (fun a (z : h.1 a = 12) => ((fun z => (Or.inl z)) z)))
                      have hK_q_229 : sx_kf a0 [6, 7, 8, 9, 11, 12, 13, 14, 15] q q_229 := hK_q_216.tr (h3_q_229.mono (by decide))
                      have mF_q_229 : mv_F m18 m19 q_229 := mv_F.eq (h2_q_229.G hm18 (show ¬ (h.1 m18 = 12) from (fun z => absurd (z.symm.trans km18) (by decide))) (by rw [km18]; decide)) (h2_q_229.G hm19 (show ¬ (h.1 m19 = 12) from (fun z => absurd (z.symm.trans km19) (by decide))) (by rw [km19]; decide)) mF_q_216
                      have mU_q_229 : mv_U m17 q_229 := mv_U.eq (h2_q_229.Lg hm17 (show ¬ (h.1 m17 = 12) from (fun z => absurd (z.symm.trans km17) (by decide))) (by rw [km17]; decide)) mU_q_216
                      rw [show (q_216.1 a0 6).toInt.toNat = pz_E F n9 A8 from (by omega)] at hw_230
                      obtain ⟨hT50, hT5⟩ := hw_230
                      have hT5p := hT5.1
                      refine wa_aload_n B dX12_readSystem_171 rfl 1 rfl ?_
                      refine wa_iload_n B dX12_readSystem_172 rfl 2 rfl ?_
                      have z_232 : q_229.2.2.2.1 m18 ((3 + n1) : Int32).toNatClampNeg = (q_90.2.2.2.1 m18 ((3 + n1) : Int32).toNatClampNeg) := (congrFun ((h2_q_229.G hm18 (show ¬ (h.1 m18 = 12) from (fun z => absurd (z.symm.trans km18) (by decide))) (by rw [km18]; decide)).trans ((show q_216.2.2.2.1 m18 = q_90.2.2.2.1 m18 from by rw [eq_216]; exact sg_pG_a (sx_ka h km18 km19 (by decide))))) _).trans rfl
                      have z_234 : q_229.2.2.2.2 m16 = (vp_updL (vp_updL (q.2.2.2.2 m16) ((3 + n1) : Int32).toNatClampNeg 0) ((3 + n1) : Int32).toNatClampNeg (q.2.1 a0 11)) := (h2_q_229.Lg hm16 (show ¬ (h.1 m16 = 12) from (fun z => absurd (z.symm.trans km16) (by decide))) (by rw [km16]; decide)).trans (((show q_216.2.2.2.2 m16 = q_90.2.2.2.2 m16 from by rw [eq_216]; rfl)).trans (p9_q_90))
                      have z_235 : q_229.2.2.2.2 m17 = q_90.2.2.2.2 m17 := (h2_q_229.Lg hm17 (show ¬ (h.1 m17 = 12) from (fun z => absurd (z.symm.trans km17) (by decide))) (by rw [km17]; decide)).trans ((show q_216.2.2.2.2 m17 = q_90.2.2.2.2 m17 from by rw [eq_216]; rfl))
                      have z_236 : q_229.2.2.2.1 m18 = q_90.2.2.2.1 m18 := (h2_q_229.G hm18 (show ¬ (h.1 m18 = 12) from (fun z => absurd (z.symm.trans km18) (by decide))) (by rw [km18]; decide)).trans ((show q_216.2.2.2.1 m18 = q_90.2.2.2.1 m18 from by rw [eq_216]; exact sg_pG_a (sx_ka h km18 km19 (by decide))))
                      have z_237 : q_229.2.2.2.1 m19 = (upd (q_90.2.2.2.1 m19) (v_156 : Int32).toNatClampNeg (q_90.1 a0 12)) := (h2_q_229.G hm19 (show ¬ (h.1 m19 = 12) from (fun z => absurd (z.symm.trans km19) (by decide))) (by rw [km19]; decide)).trans (z_217)
                      have y_233 : (q_229.2.2.2.1 m18 (3 + n1).toNatClampNeg).toInt = ((q_90.2.2.2.1 m18 ((3 + n1) : Int32).toNatClampNeg)).toInt := by rw [z_232]
                      have lo_231 : rs_lo (q.2.2.2.2 m17) (q_229.2.2.2.2 m17) (q.2.2.2.1 m18) (q_229.2.2.2.1 m18) (q.2.2.2.1 m19) (q_229.2.2.2.1 m19) := by rw [z_235, z_236, z_237]; exact rs_lo.tr x_102 ⟨fun j hj => rfl, fun j hj => rfl, fun j hj => if_neg (by have a9 := zx_nc v_156; omega)⟩
                      have z_238 : q_229.2.2.1 a0 3 = m3 := (h2_q_229.R ha0 (fun z9 => absurd z9.2 (by omega)) 3).trans (z_219)
                      have z_239 : q_229.2.2.1 a0 16 = m16 := (h2_q_229.R ha0 (fun z9 => absurd z9.2 (by omega)) 16).trans (((show q_216.2.2.1 a0 16 = q_90.2.2.1 a0 16 from by rw [eq_216]; rfl)).trans (p4_q_90))
                      have z_240 : q_229.2.2.1 a0 17 = m17 := (h2_q_229.R ha0 (fun z9 => absurd z9.2 (by omega)) 17).trans (((show q_216.2.2.1 a0 17 = q_90.2.2.1 a0 17 from by rw [eq_216]; rfl)).trans (p5_q_90))
                      have z_241 : q_229.2.2.1 a0 18 = m18 := (h2_q_229.R ha0 (fun z9 => absurd z9.2 (by omega)) 18).trans (((show q_216.2.2.1 a0 18 = q_90.2.2.1 a0 18 from by rw [eq_216]; rfl)).trans (p6_q_90))
                      have z_242 : q_229.2.2.1 a0 19 = m19 := (h2_q_229.R ha0 (fun z9 => absurd z9.2 (by omega)) 19).trans (((show q_216.2.2.1 a0 19 = q_90.2.2.1 a0 19 from by rw [eq_216]; rfl)).trans (p7_q_90))
                      have z_243 : q_229.1 a0 10 = (q.1 a0 10) := (h3_q_229.1 10 (by decide)).trans (z_226)
                      have y_244 : (q_229.1 a0 10).toInt = (q.1 a0 10).toInt := by rw [z_243]
                      have z_245 : q_229.1 a0 5 = (q.1 a0 5) := (h3_q_229.1 5 (by decide)).trans (z_220)
                      have y_246 : (q_229.1 a0 5).toInt = (q.1 a0 5).toInt := by rw [z_245]
                      have z_247 : q_229.1 a0 4 = (q.1 a0 4) := (h3_q_229.1 4 (by decide)).trans (z_222)
                      have y_248 : (q_229.1 a0 4).toInt = (q.1 a0 4).toInt := by rw [z_247]
                      have z_249 : q_229.2.2.2.1 m19 (v_156 : Int32).toNatClampNeg = (q_90.1 a0 12) := (congrFun (h2_q_229.G hm19 (show ¬ (h.1 m19 = 12) from (fun z => absurd (z.symm.trans km19) (by decide))) (by rw [km19]; decide)) _).trans z_218
                      have z_250 : q_229.2.2.2.1 m3 = (q.2.2.2.1 m3) := (h2_q_229.G hm3 (show ¬ (h.1 m3 = 12) from (fun z => absurd (z.symm.trans km3) (by decide))) (by rw [km3]; decide)).trans (z_228)
                      refine wa_callVi B (x := (RX12, TX12, 51)) (As := [.int n1]) (rest := []) (k_X12_readUnit_c l dC dI h L hN q_229 hV_q_229 (a0 := a0) ha0 ka0 n1 (m3 := m3) z_238 (m16 := m16) z_239 (m17 := m17) z_240 (m18 := m18) z_241 (m19 := m19) z_242 mN_q_229 mF_q_229 mU_q_229 F n9 R9 (by first | assumption | omega | decide) (by first | assumption | omega | decide) (by rw [z_232]; omega) (Or.inr (by rw [z_232]; rw [show 5 * (3 + n1 : Int32).toNatClampNeg + ((q_90.2.2.2.1 m18 ((3 + n1) : Int32).toNatClampNeg)).toInt.toNat = (v_156 : Int32).toNatClampNeg from by have a9 := zx_nc (3 + n1); have a8 := zx_nc v_156; omega, z_249]; omega)) (by first | assumption | omega | decide) (fun j hj => by rw [z_250]; exact hFF j hj) (by first | assumption | omega | decide) (by first | assumption | omega | decide) (by first | assumption | omega | decide) (by rw [z_234, z_235, z_236, z_237]; exact ⟨_, hT5, y5.2⟩)) (cwV 1 B.1.2.2.2.2 gX12_readSystem_X12_readUnit rfl rfl rfl (by decide +kernel) ⟨Nat.le_of_ble_eq_true rfl, Nat.le_of_ble_eq_true rfl⟩) ha0 ka0 (by decide) rfl rfl rfl (Nat.le_of_ble_eq_true rfl) dX12_readSystem_173 (fun r_252 q_251 w_253 => ?_)
                      obtain ⟨hV_q_251, h2_q_251, h3_q_251, mN_q_251, mF_q_251, mU_q_251, hw_253⟩ := w_253
                      have hF_q_251 : sx_fr h L (fun a => h.1 a = 12 ∨ h.1 a = 226 ∨ h.1 a = 227 ∨ h.1 a = 128 ∨ h.1 a = 129) q q_251 := hF_q_229.tr (h2_q_251.mono (fun a (z : h.1 a = 12 ∨ h.1 a = 227 ∨ h.1 a = 128) => ((fun z => z.elim (fun z => (Or.inl z)) (fun z => z.elim (fun z => (Or.inr (Or.inr (Or.inl z)))) (fun z => (Or.inr (Or.inr (Or.inr (Or.inl z))))))) z)))
                      have hK_q_251 : sx_kf a0 [6, 7, 8, 9, 11, 12, 13, 14, 15] q q_251 := hK_q_229.tr (h3_q_251.mono (by decide))
                      have z_254 : q_251.1 a0 4 = (q.1 a0 4) := (h3_q_251.1 4 (by decide)).trans (z_247)
                      have lo_255 : rs_lo (q.2.2.2.2 m17) (q_251.2.2.2.2 m17) (q.2.2.2.1 m18) (q_251.2.2.2.1 m18) (q.2.2.2.1 m19) (q_251.2.2.2.1 m19) := rs_lo.tr lo_231 hw_253.2.2
                      refine wa_if_ne B 88 dX12_readSystem_176 (by decide) (fun (t_256 : ¬ r_252.toInt = 0) => ?_) (fun (t_256 : r_252.toInt = 0) => ?_)
                      · have y_257 : (q_251.1 a0 4).toInt = (q.1 a0 4).toInt := by rw [z_254]
                        have z_258 : q_251.1 a0 5 = (q.1 a0 5) := (h3_q_251.1 5 (by decide)).trans (z_245)
                        have z_259 : q_251.1 a0 10 = (q.1 a0 10) := (h3_q_251.1 10 (by decide)).trans (z_243)
                        have z_260 : q_251.2.2.1 a0 3 = m3 := (h2_q_251.R ha0 (fun z9 => absurd z9.2 (by omega)) 3).trans (z_238)
                        have z_261 : q_251.2.2.1 a0 16 = m16 := (h2_q_251.R ha0 (fun z9 => absurd z9.2 (by omega)) 16).trans (z_239)
                        have z_262 : q_251.2.2.1 a0 17 = m17 := (h2_q_251.R ha0 (fun z9 => absurd z9.2 (by omega)) 17).trans (z_240)
                        have z_263 : q_251.2.2.1 a0 18 = m18 := (h2_q_251.R ha0 (fun z9 => absurd z9.2 (by omega)) 18).trans (z_241)
                        have z_264 : q_251.2.2.1 a0 19 = m19 := (h2_q_251.R ha0 (fun z9 => absurd z9.2 (by omega)) 19).trans (z_242)
                        have z_265 : q_251.2.2.2.1 m3 = (q.2.2.2.1 m3) := (h2_q_251.G hm3 (show ¬ (h.1 m3 = 12 ∨ h.1 m3 = 227 ∨ h.1 m3 = 128) from (fun z => z.elim (fun z => absurd (z.symm.trans km3) (by decide)) (fun z => z.elim (fun z => absurd (z.symm.trans km3) (by decide)) (fun z => absurd (z.symm.trans km3) (by decide))))) (by rw [km3]; decide)).trans (z_250)
                        have z_266 : q_251.2.2.2.2 m16 = (vp_updL (vp_updL (q.2.2.2.2 m16) ((3 + n1) : Int32).toNatClampNeg 0) ((3 + n1) : Int32).toNatClampNeg (q.2.1 a0 11)) := (h2_q_251.Lg hm16 (show ¬ (h.1 m16 = 12 ∨ h.1 m16 = 227 ∨ h.1 m16 = 128) from (fun z => z.elim (fun z => absurd (z.symm.trans km16) (by decide)) (fun z => z.elim (fun z => absurd (z.symm.trans km16) (by decide)) (fun z => absurd (z.symm.trans km16) (by decide))))) (by rw [km16]; decide)).trans (z_234)
                        exact ih_106 q_251 hV_q_251 hF_q_251 hK_q_251 mN_q_251 mF_q_251 mU_q_251 z_254 z_258 z_259 z_260 z_261 z_262 z_263 z_264 z_265 z_266 (show (q_251.1 a0 6).toInt ≤ (q_251.1 a0 4).toInt from by have y7 := (hw_253.2.1.resolve_left (fun y => absurd y.1 (by omega))).2.1; omega) (show rs_lo (q.2.2.2.2 m17) (q_251.2.2.2.2 m17) (q.2.2.2.1 m18) (q_251.2.2.2.1 m18) (q.2.2.2.1 m19) (q_251.2.2.2.1 m19) from by exact lo_255) (show rs_P F n9 R9 4 (n1.toInt.toNat + 1) (q_251.1 a0 8) (q_251.1 a0 9) (q_251.1 a0 7) (q_251.1 a0 6) (q_251.1 a0 12) (q_251.1 a0 13) (q_251.2.1 a0 11) (q_251.2.2.2.2 m16) (q_251.2.2.2.2 m17) (q_251.2.2.2.1 m18) (q_251.2.2.2.1 m19) from by exact (hw_253.2.1.resolve_left (fun y => absurd y.1 (by omega))).2.2) (show (5 - (q_251.2.2.2.1 m18 (3 + n1).toNatClampNeg).toInt : Int).toNat < _ from by omega)
                      · refine wa_iconst B 0 dX12_readSystem_179 (by decide) ?_
                        have y_267 : (q_251.1 a0 4).toInt = (q.1 a0 4).toInt := by rw [z_254]
                        have y_268 : (q_251.1 a0 4).toInt = (q.1 a0 4).toInt := by rw [z_254]
                        exact hret _ _ _ _ dX12_readSystem_180 (Or.inl rfl) ⟨hV_q_251, hF_q_251, hK_q_251, mN_q_251, mF_q_251, mU_q_251, ⟨(Or.inl ⟨rfl, (hw_253.2.1.resolve_right (fun y => absurd y.1 (by omega))).2⟩), lo_255⟩⟩
                  · refine wa_aload_n B dX12_readSystem_119 rfl 1 rfl ?_
                    refine wa_iconst B 4 dX12_readSystem_120 (by decide) ?_
                    refine wa_callVi B (x := (RX12, TX12, 51)) (As := [.int 4]) (rest := []) (k_X12_bad_c l dC dI h L hN q_90 hV_q_90 (a0 := a0) ha0 ka0 4  ) (cwV 1 B.1.2.2.2.2 gX12_readSystem_X12_bad rfl rfl rfl (by decide +kernel) ⟨Nat.le_of_ble_eq_true rfl, Nat.le_of_ble_eq_true rfl⟩) ha0 ka0 (by decide) rfl rfl rfl (Nat.le_of_ble_eq_true rfl) dX12_readSystem_121 (fun r_270 q_269 w_271 => ?_)
                    obtain ⟨hV_q_269, h2_q_269, h3_q_269, hw_271⟩ := w_271
                    have hF_q_269 : sx_fr h L (fun a => h.1 a = 12 ∨ h.1 a = 226 ∨ h.1 a = 227 ∨ h.1 a = 128 ∨ h.1 a = 129) q q_269 := hF_q_90.tr (h2_q_269.mono (fun a (z : h.1 a = 12) => ((fun z => (Or.inl z)) z)))
                    have hK_q_269 : sx_kf a0 [6, 7, 8, 9, 11, 12, 13, 14, 15] q q_269 := hK_q_90.tr (h3_q_269.mono (by decide))
                    have mN_q_269 : mv_N a0 q_269 := mv_N.eq (h3_q_269.1 8 (by decide)) (h3_q_269.2 11 (by decide)) mN_q_90
                    have mF_q_269 : mv_F m18 m19 q_269 := mv_F.eq (h2_q_269.G hm18 (show ¬ (h.1 m18 = 12) from (fun z => absurd (z.symm.trans km18) (by decide))) (by rw [km18]; decide)) (h2_q_269.G hm19 (show ¬ (h.1 m19 = 12) from (fun z => absurd (z.symm.trans km19) (by decide))) (by rw [km19]; decide)) mF_q_90
                    have mU_q_269 : mv_U m17 q_269 := mv_U.eq (h2_q_269.Lg hm17 (show ¬ (h.1 m17 = 12) from (fun z => absurd (z.symm.trans km17) (by decide))) (by rw [km17]; decide)) mU_q_90
                    have z_272 : q_269.1 a0 12 = q_90.1 a0 12 := h3_q_269.1 12 (by decide)
                    have y_273 : (q_269.1 a0 12).toInt = (q_90.1 a0 12).toInt := by rw [z_272]
                    have z_274 : q_269.1 a0 13 = q_90.1 a0 13 := h3_q_269.1 13 (by decide)
                    have y_275 : (q_269.1 a0 13).toInt = (q_90.1 a0 13).toInt := by rw [z_274]
                    have z_276 : q_269.1 a0 4 = (q.1 a0 4) := (h3_q_269.1 4 (by decide)).trans (p0_q_90)
                    have y_277 : (q_269.1 a0 4).toInt = (q.1 a0 4).toInt := by rw [z_276]
                    have z_278 : q_269.1 a0 6 = q_90.1 a0 6 := h3_q_269.1 6 (by decide)
                    have y_279 : (q_269.1 a0 6).toInt = (q_90.1 a0 6).toInt := by rw [z_278]
                    have z_280 : q_269.1 a0 7 = q_90.1 a0 7 := h3_q_269.1 7 (by decide)
                    have y_281 : (q_269.1 a0 7).toInt = (q_90.1 a0 7).toInt := by rw [z_280]
                    have z_282 : q_269.1 a0 8 = q_90.1 a0 8 := h3_q_269.1 8 (by decide)
                    have y_283 : (q_269.1 a0 8).toInt = (q_90.1 a0 8).toInt := by rw [z_282]
                    have z_284 : q_269.1 a0 9 = q_90.1 a0 9 := h3_q_269.1 9 (by decide)
                    have y_285 : (q_269.1 a0 9).toInt = (q_90.1 a0 9).toInt := by rw [z_284]
                    have y_286 : (q_269.1 a0 4).toInt = (q.1 a0 4).toInt := by rw [z_276]
                    have y_287 : (q_269.1 a0 6).toInt = (q_90.1 a0 6).toInt := by rw [z_278]
                    have y_288 : (q_269.1 a0 7).toInt = (q_90.1 a0 7).toInt := by rw [z_280]
                    have z_289 : q_269.2.2.2.2 m16 = (vp_updL (vp_updL (q.2.2.2.2 m16) ((3 + n1) : Int32).toNatClampNeg 0) ((3 + n1) : Int32).toNatClampNeg (q.2.1 a0 11)) := (h2_q_269.Lg hm16 (show ¬ (h.1 m16 = 12) from (fun z => absurd (z.symm.trans km16) (by decide))) (by rw [km16]; decide)).trans (p9_q_90)
                    have z_290 : q_269.2.2.2.2 m17 = q_90.2.2.2.2 m17 := h2_q_269.Lg hm17 (show ¬ (h.1 m17 = 12) from (fun z => absurd (z.symm.trans km17) (by decide))) (by rw [km17]; decide)
                    have z_291 : q_269.2.2.2.1 m18 = q_90.2.2.2.1 m18 := h2_q_269.G hm18 (show ¬ (h.1 m18 = 12) from (fun z => absurd (z.symm.trans km18) (by decide))) (by rw [km18]; decide)
                    have z_292 : q_269.2.2.2.1 m19 = q_90.2.2.2.1 m19 := h2_q_269.G hm19 (show ¬ (h.1 m19 = 12) from (fun z => absurd (z.symm.trans km19) (by decide))) (by rw [km19]; decide)
                    exact hret _ _ _ _ dX12_readSystem_124 (zx_01 (by omega)) ⟨hV_q_269, hF_q_269, hK_q_269, mN_q_269, mF_q_269, mU_q_269, ⟨(Or.inl ⟨by omega, by omega, (rr_fac_bad hC8 hT8 (by omega) (j := n1.toInt.toNat) rfl (fun z => by have z9 := z.2; rw [← e3] at z9; omega)).trans (congrArg some (by omega))⟩), by rw [z_290, z_291, z_292]; exact x_102⟩⟩
                · refine wa_aload_n B dX12_readSystem_103 rfl 1 rfl ?_
                  refine wa_iconst B 2 dX12_readSystem_104 (by decide) ?_
                  refine wa_callVi B (x := (RX12, TX12, 51)) (As := [.int 2]) (rest := []) (k_X12_bad_c l dC dI h L hN q_90 hV_q_90 (a0 := a0) ha0 ka0 2  ) (cwV 1 B.1.2.2.2.2 gX12_readSystem_X12_bad rfl rfl rfl (by decide +kernel) ⟨Nat.le_of_ble_eq_true rfl, Nat.le_of_ble_eq_true rfl⟩) ha0 ka0 (by decide) rfl rfl rfl (Nat.le_of_ble_eq_true rfl) dX12_readSystem_105 (fun r_294 q_293 w_295 => ?_)
                  obtain ⟨hV_q_293, h2_q_293, h3_q_293, hw_295⟩ := w_295
                  have hF_q_293 : sx_fr h L (fun a => h.1 a = 12 ∨ h.1 a = 226 ∨ h.1 a = 227 ∨ h.1 a = 128 ∨ h.1 a = 129) q q_293 := hF_q_90.tr (h2_q_293.mono (fun a (z : h.1 a = 12) => ((fun z => (Or.inl z)) z)))
                  have hK_q_293 : sx_kf a0 [6, 7, 8, 9, 11, 12, 13, 14, 15] q q_293 := hK_q_90.tr (h3_q_293.mono (by decide))
                  have mN_q_293 : mv_N a0 q_293 := mv_N.eq (h3_q_293.1 8 (by decide)) (h3_q_293.2 11 (by decide)) mN_q_90
                  have mF_q_293 : mv_F m18 m19 q_293 := mv_F.eq (h2_q_293.G hm18 (show ¬ (h.1 m18 = 12) from (fun z => absurd (z.symm.trans km18) (by decide))) (by rw [km18]; decide)) (h2_q_293.G hm19 (show ¬ (h.1 m19 = 12) from (fun z => absurd (z.symm.trans km19) (by decide))) (by rw [km19]; decide)) mF_q_90
                  have mU_q_293 : mv_U m17 q_293 := mv_U.eq (h2_q_293.Lg hm17 (show ¬ (h.1 m17 = 12) from (fun z => absurd (z.symm.trans km17) (by decide))) (by rw [km17]; decide)) mU_q_90
                  have z_296 : q_293.1 a0 12 = q_90.1 a0 12 := h3_q_293.1 12 (by decide)
                  have y_297 : (q_293.1 a0 12).toInt = (q_90.1 a0 12).toInt := by rw [z_296]
                  have z_298 : q_293.1 a0 13 = q_90.1 a0 13 := h3_q_293.1 13 (by decide)
                  have y_299 : (q_293.1 a0 13).toInt = (q_90.1 a0 13).toInt := by rw [z_298]
                  have z_300 : q_293.1 a0 4 = (q.1 a0 4) := (h3_q_293.1 4 (by decide)).trans (p0_q_90)
                  have y_301 : (q_293.1 a0 4).toInt = (q.1 a0 4).toInt := by rw [z_300]
                  have z_302 : q_293.1 a0 6 = q_90.1 a0 6 := h3_q_293.1 6 (by decide)
                  have y_303 : (q_293.1 a0 6).toInt = (q_90.1 a0 6).toInt := by rw [z_302]
                  have z_304 : q_293.1 a0 7 = q_90.1 a0 7 := h3_q_293.1 7 (by decide)
                  have y_305 : (q_293.1 a0 7).toInt = (q_90.1 a0 7).toInt := by rw [z_304]
                  have z_306 : q_293.1 a0 8 = q_90.1 a0 8 := h3_q_293.1 8 (by decide)
                  have y_307 : (q_293.1 a0 8).toInt = (q_90.1 a0 8).toInt := by rw [z_306]
                  have z_308 : q_293.1 a0 9 = q_90.1 a0 9 := h3_q_293.1 9 (by decide)
                  have y_309 : (q_293.1 a0 9).toInt = (q_90.1 a0 9).toInt := by rw [z_308]
                  have y_310 : (q_293.1 a0 4).toInt = (q.1 a0 4).toInt := by rw [z_300]
                  have y_311 : (q_293.1 a0 6).toInt = (q_90.1 a0 6).toInt := by rw [z_302]
                  have y_312 : (q_293.1 a0 7).toInt = (q_90.1 a0 7).toInt := by rw [z_304]
                  have z_313 : q_293.2.2.2.2 m16 = (vp_updL (vp_updL (q.2.2.2.2 m16) ((3 + n1) : Int32).toNatClampNeg 0) ((3 + n1) : Int32).toNatClampNeg (q.2.1 a0 11)) := (h2_q_293.Lg hm16 (show ¬ (h.1 m16 = 12) from (fun z => absurd (z.symm.trans km16) (by decide))) (by rw [km16]; decide)).trans (p9_q_90)
                  have z_314 : q_293.2.2.2.2 m17 = q_90.2.2.2.2 m17 := h2_q_293.Lg hm17 (show ¬ (h.1 m17 = 12) from (fun z => absurd (z.symm.trans km17) (by decide))) (by rw [km17]; decide)
                  have z_315 : q_293.2.2.2.1 m18 = q_90.2.2.2.1 m18 := h2_q_293.G hm18 (show ¬ (h.1 m18 = 12) from (fun z => absurd (z.symm.trans km18) (by decide))) (by rw [km18]; decide)
                  have z_316 : q_293.2.2.2.1 m19 = q_90.2.2.2.1 m19 := h2_q_293.G hm19 (show ¬ (h.1 m19 = 12) from (fun z => absurd (z.symm.trans km19) (by decide))) (by rw [km19]; decide)
                  exact hret _ _ _ _ dX12_readSystem_108 (zx_01 (by omega)) ⟨hV_q_293, hF_q_293, hK_q_293, mN_q_293, mF_q_293, mU_q_293, ⟨(Or.inl ⟨by omega, by omega, (rr_fac_bad hC8 hT8 (by omega) (j := n1.toInt.toNat) rfl (fun z => ((hw_151.resolve_left (fun y => absurd y.1 (by omega))).2) z.1)).trans (congrArg some (by omega))⟩), by rw [z_314, z_315, z_316]; exact x_102⟩⟩
          have y_317 : (q_84.1 a0 4).toInt = (q.1 a0 4).toInt := by rw [z_87]
          exact Lp_88_104 _ q_84 hV_q_84 hF_q_84 hK_q_84 mN_q_84 mF_q_84 mU_q_84 z_87 z_91 z_92 z_93 z_94 z_95 z_96 z_97 z_98 z_100 (show (q_84.1 a0 6).toInt ≤ (q_84.1 a0 4).toInt from by have y7 := (hw_86.2.1.resolve_left (fun y => absurd y.1 (by omega))).2.1; omega) (show rs_lo (q.2.2.2.2 m17) (q_84.2.2.2.2 m17) (q.2.2.2.1 m18) (q_84.2.2.2.1 m18) (q.2.2.2.1 m19) (q_84.2.2.2.1 m19) from by exact lo_88) (show rs_P F n9 R9 4 (n1.toInt.toNat + 1) (q_84.1 a0 8) (q_84.1 a0 9) (q_84.1 a0 7) (q_84.1 a0 6) (q_84.1 a0 12) (q_84.1 a0 13) (q_84.2.1 a0 11) (q_84.2.2.2.2 m16) (q_84.2.2.2.2 m17) (q_84.2.2.2.1 m18) (q_84.2.2.2.1 m19) from by exact (hw_86.2.1.resolve_left (fun y => absurd y.1 (by omega))).2.2) (Nat.lt_succ_self _)
        · refine wa_iconst B 0 dX12_readSystem_86 (by decide) ?_
          have y_318 : (q_84.1 a0 4).toInt = (q.1 a0 4).toInt := by rw [z_87]
          have y_319 : (q_84.1 a0 4).toInt = (q.1 a0 4).toInt := by rw [z_87]
          exact hret _ _ _ _ dX12_readSystem_87 (Or.inl rfl) ⟨hV_q_84, hF_q_84, hK_q_84, mN_q_84, mF_q_84, mU_q_84, ⟨(Or.inl ⟨rfl, (hw_86.2.1.resolve_right (fun y => absurd y.1 (by omega))).2⟩), lo_88⟩⟩
      · refine wa_aload_n B dX12_readSystem_68 rfl 1 rfl ?_
        refine wa_iconst B 1 dX12_readSystem_69 (by decide) ?_
        refine wa_callVi B (x := (RX12, TX12, 51)) (As := [.int 1]) (rest := []) (k_X12_bad_c l dC dI h L hN q_44 hV_q_44 (a0 := a0) ha0 ka0 1  ) (cwV 1 B.1.2.2.2.2 gX12_readSystem_X12_bad rfl rfl rfl (by decide +kernel) ⟨Nat.le_of_ble_eq_true rfl, Nat.le_of_ble_eq_true rfl⟩) ha0 ka0 (by decide) rfl rfl rfl (Nat.le_of_ble_eq_true rfl) dX12_readSystem_70 (fun r_321 q_320 w_322 => ?_)
        obtain ⟨hV_q_320, h2_q_320, h3_q_320, hw_322⟩ := w_322
        have hF_q_320 : sx_fr h L (fun a => h.1 a = 12 ∨ h.1 a = 226 ∨ h.1 a = 227 ∨ h.1 a = 128 ∨ h.1 a = 129) q q_320 := hF_q_44.tr (h2_q_320.mono (fun a (z : h.1 a = 12) => ((fun z => (Or.inl z)) z)))
        have hK_q_320 : sx_kf a0 [6, 7, 8, 9, 11, 12, 13, 14, 15] q q_320 := hK_q_44.tr (h3_q_320.mono (by decide))
        have mN_q_320 : mv_N a0 q_320 := mv_N.eq (h3_q_320.1 8 (by decide)) (h3_q_320.2 11 (by decide)) mN_q_44
        have mF_q_320 : mv_F m18 m19 q_320 := mv_F.eq (h2_q_320.G hm18 (show ¬ (h.1 m18 = 12) from (fun z => absurd (z.symm.trans km18) (by decide))) (by rw [km18]; decide)) (h2_q_320.G hm19 (show ¬ (h.1 m19 = 12) from (fun z => absurd (z.symm.trans km19) (by decide))) (by rw [km19]; decide)) mF_q_44
        have mU_q_320 : mv_U m17 q_320 := mv_U.eq (h2_q_320.Lg hm17 (show ¬ (h.1 m17 = 12) from (fun z => absurd (z.symm.trans km17) (by decide))) (by rw [km17]; decide)) mU_q_44
        have z_323 : q_320.1 a0 12 = q_44.1 a0 12 := h3_q_320.1 12 (by decide)
        have y_324 : (q_320.1 a0 12).toInt = (q_44.1 a0 12).toInt := by rw [z_323]
        have z_325 : q_320.1 a0 13 = q_44.1 a0 13 := h3_q_320.1 13 (by decide)
        have y_326 : (q_320.1 a0 13).toInt = (q_44.1 a0 13).toInt := by rw [z_325]
        have z_327 : q_320.1 a0 4 = (q.1 a0 4) := (h3_q_320.1 4 (by decide)).trans ((h3_q_44.1 4 (by decide)).trans (z_37))
        have y_328 : (q_320.1 a0 4).toInt = (q.1 a0 4).toInt := by rw [z_327]
        have z_329 : q_320.1 a0 6 = q_44.1 a0 6 := h3_q_320.1 6 (by decide)
        have y_330 : (q_320.1 a0 6).toInt = (q_44.1 a0 6).toInt := by rw [z_329]
        have z_331 : q_320.1 a0 7 = q_44.1 a0 7 := h3_q_320.1 7 (by decide)
        have y_332 : (q_320.1 a0 7).toInt = (q_44.1 a0 7).toInt := by rw [z_331]
        have z_333 : q_320.1 a0 8 = q_44.1 a0 8 := h3_q_320.1 8 (by decide)
        have y_334 : (q_320.1 a0 8).toInt = (q_44.1 a0 8).toInt := by rw [z_333]
        have z_335 : q_320.1 a0 9 = q_44.1 a0 9 := h3_q_320.1 9 (by decide)
        have y_336 : (q_320.1 a0 9).toInt = (q_44.1 a0 9).toInt := by rw [z_335]
        have y_337 : (q_320.1 a0 4).toInt = (q.1 a0 4).toInt := by rw [z_327]
        have y_338 : (q_320.1 a0 6).toInt = (q_44.1 a0 6).toInt := by rw [z_329]
        have y_339 : (q_320.1 a0 7).toInt = (q_44.1 a0 7).toInt := by rw [z_331]
        have z_340 : q_320.2.2.2.2 m16 = (vp_updL (vp_updL (q.2.2.2.2 m16) ((3 + n1) : Int32).toNatClampNeg 0) ((3 + n1) : Int32).toNatClampNeg (q.2.1 a0 11)) := (h2_q_320.Lg hm16 (show ¬ (h.1 m16 = 12) from (fun z => absurd (z.symm.trans km16) (by decide))) (by rw [km16]; decide)).trans (z_50)
        have z_341 : q_320.2.2.2.2 m17 = (q.2.2.2.2 m17) := (h2_q_320.Lg hm17 (show ¬ (h.1 m17 = 12) from (fun z => absurd (z.symm.trans km17) (by decide))) (by rw [km17]; decide)).trans (z_51)
        have z_342 : q_320.2.2.2.1 m18 = (upd (q.2.2.2.1 m18) ((3 + n1) : Int32).toNatClampNeg 0) := (h2_q_320.G hm18 (show ¬ (h.1 m18 = 12) from (fun z => absurd (z.symm.trans km18) (by decide))) (by rw [km18]; decide)).trans (z_52)
        have z_343 : q_320.2.2.2.1 m19 = (q.2.2.2.1 m19) := (h2_q_320.G hm19 (show ¬ (h.1 m19 = 12) from (fun z => absurd (z.symm.trans km19) (by decide))) (by rw [km19]; decide)).trans (z_53)
        exact hret _ _ _ _ dX12_readSystem_73 (zx_01 (by omega)) ⟨hV_q_320, hF_q_320, hK_q_320, mN_q_320, mF_q_320, mU_q_320, ⟨(Or.inl ⟨by omega, by omega, (rr_colon_bad y9.2 hT2 (hw_49.resolve_left (fun y => absurd y.1 (by omega))).2).trans (congrArg some (by omega))⟩), by rw [z_341, z_342, z_343]; exact ⟨fun j hj => rfl, fun j hj => if_neg (by rw [e3]; omega), fun j hj => rfl⟩⟩⟩
    · refine wa_aload_n B dX12_readSystem_39 rfl 1 rfl ?_
      refine wa_iconst B 3 dX12_readSystem_40 (by decide) ?_
      have z_344 : q_7.1 a0 7 = q.1 a0 7 := ((show q_7.1 a0 7 = q_3.1 a0 7 from by rw [eq_7]; rfl)).trans ((show q_3.1 a0 7 = q.1 a0 7 from by rw [eq_3]; rfl))
      have y_345 : (q_7.1 a0 7).toInt = (q.1 a0 7).toInt := by rw [z_344]
      refine wa_callVi B (x := (RX12, TX12, 51)) (As := [.int 3]) (rest := []) (k_X12_bad_c l dC dI h L hN q_7 hV_q_7 (a0 := a0) ha0 ka0 3  ) (cwV 1 B.1.2.2.2.2 gX12_readSystem_X12_bad rfl rfl rfl (by decide +kernel) ⟨Nat.le_of_ble_eq_true rfl, Nat.le_of_ble_eq_true rfl⟩) ha0 ka0 (by decide) rfl rfl rfl (Nat.le_of_ble_eq_true rfl) dX12_readSystem_41 (fun r_347 q_346 w_348 => ?_)
      obtain ⟨hV_q_346, h2_q_346, h3_q_346, hw_348⟩ := w_348
      have hF_q_346 : sx_fr h L (fun a => h.1 a = 12 ∨ h.1 a = 226 ∨ h.1 a = 227 ∨ h.1 a = 128 ∨ h.1 a = 129) q q_346 := hF_q_7.tr (h2_q_346.mono (fun a (z : h.1 a = 12) => ((fun z => (Or.inl z)) z)))
      have hK_q_346 : sx_kf a0 [6, 7, 8, 9, 11, 12, 13, 14, 15] q q_346 := hK_q_7.tr (h3_q_346.mono (by decide))
      have mN_q_346 : mv_N a0 q_346 := mv_N.eq (h3_q_346.1 8 (by decide)) (h3_q_346.2 11 (by decide)) mN_q_7
      have mF_q_346 : mv_F m18 m19 q_346 := mv_F.eq (h2_q_346.G hm18 (show ¬ (h.1 m18 = 12) from (fun z => absurd (z.symm.trans km18) (by decide))) (by rw [km18]; decide)) (h2_q_346.G hm19 (show ¬ (h.1 m19 = 12) from (fun z => absurd (z.symm.trans km19) (by decide))) (by rw [km19]; decide)) mF_q_7
      have mU_q_346 : mv_U m17 q_346 := mv_U.eq (h2_q_346.Lg hm17 (show ¬ (h.1 m17 = 12) from (fun z => absurd (z.symm.trans km17) (by decide))) (by rw [km17]; decide)) mU_q_7
      have z_349 : q_346.1 a0 12 = (q.1 a0 12) := (h3_q_346.1 12 (by decide)).trans (z_21)
      have y_350 : (q_346.1 a0 12).toInt = (q.1 a0 12).toInt := by rw [z_349]
      have z_351 : q_346.1 a0 13 = (q.1 a0 13) := (h3_q_346.1 13 (by decide)).trans (z_22)
      have y_352 : (q_346.1 a0 13).toInt = (q.1 a0 13).toInt := by rw [z_351]
      have z_353 : q_346.1 a0 4 = q.1 a0 4 := (h3_q_346.1 4 (by decide)).trans (((show q_7.1 a0 4 = q_3.1 a0 4 from by rw [eq_7]; rfl)).trans ((show q_3.1 a0 4 = q.1 a0 4 from by rw [eq_3]; rfl)))
      have y_354 : (q_346.1 a0 4).toInt = (q.1 a0 4).toInt := by rw [z_353]
      have z_355 : q_346.1 a0 6 = q.1 a0 6 := (h3_q_346.1 6 (by decide)).trans (((show q_7.1 a0 6 = q_3.1 a0 6 from by rw [eq_7]; rfl)).trans ((show q_3.1 a0 6 = q.1 a0 6 from by rw [eq_3]; rfl)))
      have y_356 : (q_346.1 a0 6).toInt = (q.1 a0 6).toInt := by rw [z_355]
      have z_357 : q_346.1 a0 7 = (q.1 a0 7) := (h3_q_346.1 7 (by decide)).trans (z_344)
      have y_358 : (q_346.1 a0 7).toInt = (q.1 a0 7).toInt := by rw [z_357]
      have z_359 : q_346.1 a0 8 = (q.1 a0 8) := (h3_q_346.1 8 (by decide)).trans (z_11)
      have y_360 : (q_346.1 a0 8).toInt = (q.1 a0 8).toInt := by rw [z_359]
      have z_361 : q_346.1 a0 9 = (q.1 a0 9) := (h3_q_346.1 9 (by decide)).trans (z_20)
      have y_362 : (q_346.1 a0 9).toInt = (q.1 a0 9).toInt := by rw [z_361]
      have y_363 : (q_346.1 a0 4).toInt = (q.1 a0 4).toInt := by rw [z_353]
      have y_364 : (q_346.1 a0 6).toInt = (q.1 a0 6).toInt := by rw [z_355]
      have y_365 : (q_346.1 a0 7).toInt = (q.1 a0 7).toInt := by rw [z_357]
      have z_366 : q_346.2.2.2.2 m16 = (vp_updL (q.2.2.2.2 m16) ((3 + n1) : Int32).toNatClampNeg 0) := (h2_q_346.Lg hm16 (show ¬ (h.1 m16 = 12) from (fun z => absurd (z.symm.trans km16) (by decide))) (by rw [km16]; decide)).trans (z_16)
      have z_367 : q_346.2.2.2.2 m17 = (q.2.2.2.2 m17) := (h2_q_346.Lg hm17 (show ¬ (h.1 m17 = 12) from (fun z => absurd (z.symm.trans km17) (by decide))) (by rw [km17]; decide)).trans (z_17)
      have z_368 : q_346.2.2.2.1 m18 = (upd (q.2.2.2.1 m18) ((3 + n1) : Int32).toNatClampNeg 0) := (h2_q_346.G hm18 (show ¬ (h.1 m18 = 12) from (fun z => absurd (z.symm.trans km18) (by decide))) (by rw [km18]; decide)).trans (z_9)
      have z_369 : q_346.2.2.2.1 m19 = (q.2.2.2.1 m19) := (h2_q_346.G hm19 (show ¬ (h.1 m19 = 12) from (fun z => absurd (z.symm.trans km19) (by decide))) (by rw [km19]; decide)).trans (z_18)
      exact hret _ _ _ _ dX12_readSystem_44 (zx_01 (by omega)) ⟨hV_q_346, hF_q_346, hK_q_346, mN_q_346, mF_q_346, mU_q_346, ⟨(Or.inl ⟨by omega, by omega, (rr_taken_bad hC1 (Or.inl rfl) hT ((hw_15.resolve_right (fun y => absurd y.1 (by omega))).2).1 (j := n1.toInt.toNat) (by omega) (by omega) (fun _ => h00) (hw_29.resolve_right (fun y => absurd y.1 (by omega))).2).trans (congrArg some (by omega))⟩), by rw [z_367, z_368, z_369]; exact ⟨fun j hj => rfl, fun j hj => if_neg (by rw [e3]; omega), fun j hj => rfl⟩⟩⟩
  · refine wa_aload_n B dX12_readSystem_25 rfl 1 rfl ?_
    refine wa_iconst B 1 dX12_readSystem_26 (by decide) ?_
    have z_370 : q_7.1 a0 7 = q.1 a0 7 := ((show q_7.1 a0 7 = q_3.1 a0 7 from by rw [eq_7]; rfl)).trans ((show q_3.1 a0 7 = q.1 a0 7 from by rw [eq_3]; rfl))
    have y_371 : (q_7.1 a0 7).toInt = (q.1 a0 7).toInt := by rw [z_370]
    refine wa_callVi B (x := (RX12, TX12, 51)) (As := [.int 1]) (rest := []) (k_X12_bad_c l dC dI h L hN q_7 hV_q_7 (a0 := a0) ha0 ka0 1  ) (cwV 1 B.1.2.2.2.2 gX12_readSystem_X12_bad rfl rfl rfl (by decide +kernel) ⟨Nat.le_of_ble_eq_true rfl, Nat.le_of_ble_eq_true rfl⟩) ha0 ka0 (by decide) rfl rfl rfl (Nat.le_of_ble_eq_true rfl) dX12_readSystem_27 (fun r_373 q_372 w_374 => ?_)
    obtain ⟨hV_q_372, h2_q_372, h3_q_372, hw_374⟩ := w_374
    have hF_q_372 : sx_fr h L (fun a => h.1 a = 12 ∨ h.1 a = 226 ∨ h.1 a = 227 ∨ h.1 a = 128 ∨ h.1 a = 129) q q_372 := hF_q_7.tr (h2_q_372.mono (fun a (z : h.1 a = 12) => ((fun z => (Or.inl z)) z)))
    have hK_q_372 : sx_kf a0 [6, 7, 8, 9, 11, 12, 13, 14, 15] q q_372 := hK_q_7.tr (h3_q_372.mono (by decide))
    have mN_q_372 : mv_N a0 q_372 := mv_N.eq (h3_q_372.1 8 (by decide)) (h3_q_372.2 11 (by decide)) mN_q_7
    have mF_q_372 : mv_F m18 m19 q_372 := mv_F.eq (h2_q_372.G hm18 (show ¬ (h.1 m18 = 12) from (fun z => absurd (z.symm.trans km18) (by decide))) (by rw [km18]; decide)) (h2_q_372.G hm19 (show ¬ (h.1 m19 = 12) from (fun z => absurd (z.symm.trans km19) (by decide))) (by rw [km19]; decide)) mF_q_7
    have mU_q_372 : mv_U m17 q_372 := mv_U.eq (h2_q_372.Lg hm17 (show ¬ (h.1 m17 = 12) from (fun z => absurd (z.symm.trans km17) (by decide))) (by rw [km17]; decide)) mU_q_7
    have z_375 : q_372.1 a0 12 = (q.1 a0 12) := (h3_q_372.1 12 (by decide)).trans (z_21)
    have y_376 : (q_372.1 a0 12).toInt = (q.1 a0 12).toInt := by rw [z_375]
    have z_377 : q_372.1 a0 13 = (q.1 a0 13) := (h3_q_372.1 13 (by decide)).trans (z_22)
    have y_378 : (q_372.1 a0 13).toInt = (q.1 a0 13).toInt := by rw [z_377]
    have z_379 : q_372.1 a0 4 = q.1 a0 4 := (h3_q_372.1 4 (by decide)).trans (((show q_7.1 a0 4 = q_3.1 a0 4 from by rw [eq_7]; rfl)).trans ((show q_3.1 a0 4 = q.1 a0 4 from by rw [eq_3]; rfl)))
    have y_380 : (q_372.1 a0 4).toInt = (q.1 a0 4).toInt := by rw [z_379]
    have z_381 : q_372.1 a0 6 = q.1 a0 6 := (h3_q_372.1 6 (by decide)).trans (((show q_7.1 a0 6 = q_3.1 a0 6 from by rw [eq_7]; rfl)).trans ((show q_3.1 a0 6 = q.1 a0 6 from by rw [eq_3]; rfl)))
    have y_382 : (q_372.1 a0 6).toInt = (q.1 a0 6).toInt := by rw [z_381]
    have z_383 : q_372.1 a0 7 = (q.1 a0 7) := (h3_q_372.1 7 (by decide)).trans (z_370)
    have y_384 : (q_372.1 a0 7).toInt = (q.1 a0 7).toInt := by rw [z_383]
    have z_385 : q_372.1 a0 8 = (q.1 a0 8) := (h3_q_372.1 8 (by decide)).trans (z_11)
    have y_386 : (q_372.1 a0 8).toInt = (q.1 a0 8).toInt := by rw [z_385]
    have z_387 : q_372.1 a0 9 = (q.1 a0 9) := (h3_q_372.1 9 (by decide)).trans (z_20)
    have y_388 : (q_372.1 a0 9).toInt = (q.1 a0 9).toInt := by rw [z_387]
    have y_389 : (q_372.1 a0 4).toInt = (q.1 a0 4).toInt := by rw [z_379]
    have y_390 : (q_372.1 a0 6).toInt = (q.1 a0 6).toInt := by rw [z_381]
    have y_391 : (q_372.1 a0 7).toInt = (q.1 a0 7).toInt := by rw [z_383]
    have z_392 : q_372.2.2.2.2 m16 = (vp_updL (q.2.2.2.2 m16) ((3 + n1) : Int32).toNatClampNeg 0) := (h2_q_372.Lg hm16 (show ¬ (h.1 m16 = 12) from (fun z => absurd (z.symm.trans km16) (by decide))) (by rw [km16]; decide)).trans (z_16)
    have z_393 : q_372.2.2.2.2 m17 = (q.2.2.2.2 m17) := (h2_q_372.Lg hm17 (show ¬ (h.1 m17 = 12) from (fun z => absurd (z.symm.trans km17) (by decide))) (by rw [km17]; decide)).trans (z_17)
    have z_394 : q_372.2.2.2.1 m18 = (upd (q.2.2.2.1 m18) ((3 + n1) : Int32).toNatClampNeg 0) := (h2_q_372.G hm18 (show ¬ (h.1 m18 = 12) from (fun z => absurd (z.symm.trans km18) (by decide))) (by rw [km18]; decide)).trans (z_9)
    have z_395 : q_372.2.2.2.1 m19 = (q.2.2.2.1 m19) := (h2_q_372.G hm19 (show ¬ (h.1 m19 = 12) from (fun z => absurd (z.symm.trans km19) (by decide))) (by rw [km19]; decide)).trans (z_18)
    exact hret _ _ _ _ dX12_readSystem_30 (zx_01 (by omega)) ⟨hV_q_372, hF_q_372, hK_q_372, mN_q_372, mF_q_372, mU_q_372, ⟨(Or.inl ⟨by omega, by omega, (rr_free_bad hC1 (Or.inl rfl) hT (hw_15.resolve_left (fun y => absurd y.1 (by omega))).2).trans (congrArg some (by omega))⟩), by rw [z_393, z_394, z_395]; exact ⟨fun j hj => rfl, fun j hj => if_neg (by rw [e3]; omega), fun j hj => rfl⟩⟩⟩
