set_option maxHeartbeats 4000000 in
set_option maxRecDepth 100000 in
theorem k_X12_readSystem_c (l : Launch) (dC : Nat → ClassId) (dI : Nat → Nat → Nat) (h : Sh) (L : List Nat) (hN : sx_nd L) (q : Sg) (hV : sx_V h L q) {a0 : Nat} (ha0 : a0 ∈ L) (ka0 : h.1 a0 = 12) (n1 : Int32) {m3 : Nat} (em3 : q.2.2.1 a0 3 = m3) {m16 : Nat} (em16 : q.2.2.1 a0 16 = m16) {m17 : Nat} (em17 : q.2.2.1 a0 17 = m17) {m18 : Nat} (em18 : q.2.2.1 a0 18 = m18) {m19 : Nat} (em19 : q.2.2.1 a0 19 = m19) (mN : mv_N a0 q) (mF : mv_F m18 m19 q) (mU : mv_U m17 q) (F : Nat → Int32) (n9 : Nat) (R9 : Option Nat × PU) (hy0 : 0 ≤ n1.toInt) (hy1 : n1.toInt ≤ 2) (hn9 : (n9 : Int) = (q.1 a0 4).toInt) (hFF : ∀ j : Nat, j < n9 → q.2.2.2.1 m3 j = F j) (hm4 : (q.1 a0 5).toInt = 400) (hb0 : (q.1 a0 10).toInt = 0) (hts : (q.1 a0 6).toInt ≤ (q.1 a0 4).toInt) (hP : rs_P F n9 R9 1 n1.toInt.toNat (q.1 a0 8) (q.1 a0 9) (q.1 a0 7) (q.1 a0 6) (q.1 a0 12) (q.1 a0 13) (q.2.1 a0 11) (q.2.2.2.2 m16) (q.2.2.2.2 m17) (q.2.2.2.1 m18) (q.2.2.2.1 m19)) : CMi l dC dI h L yX12_readSystem wsX12_readSystem ({ frames := 4, cells := 0, slots := 0, locals := 87 } : Room) q [.ref a0, .int n1] (fun r q' => sx_V h L q' ∧ sx_fr h L (fun a => h.1 a = 12 ∨ h.1 a = 226 ∨ h.1 a = 227 ∨ h.1 a = 128 ∨ h.1 a = 129) q q' ∧ sx_kf a0 [6, 7, 8, 9, 11, 12, 13, 14, 15] q q' ∧ mv_N a0 q' ∧ mv_F m18 m19 q' ∧ mv_U m17 q' ∧ (r.toInt = 0 ∧ 0 ≤ (q'.1 a0 15).toInt ∧ R9.1 = some (q'.1 a0 15).toInt.toNat ∨ r.toInt = 1 ∧ (q'.1 a0 6).toInt ≤ (q'.1 a0 4).toInt ∧ rs_P F n9 R9 0 (n1.toInt.toNat + 1) (q'.1 a0 8) (q'.1 a0 9) (q'.1 a0 7) (q'.1 a0 6) (q'.1 a0 12) (q'.1 a0 13) (q'.2.1 a0 11) (q'.2.2.2.2 m16) (q'.2.2.2.2 m17) (q'.2.2.2.1 m18) (q'.2.2.2.1 m19))) := by
  refine cm_z (cc := cX12_readSystem) (mL := 3) (own := RX12) hN (by decide) rfl rfl (Nat.le_of_ble_eq_true rfl) (fun Z B hret => ?_)
  have hF : sx_fr h L (fun a => h.1 a = 12 ∨ h.1 a = 226 ∨ h.1 a = 227 ∨ h.1 a = 128 ∨ h.1 a = 129) q q := sx_fr.rf
  have hK : sx_kf a0 [6, 7, 8, 9, 11, 12, 13, 14, 15] q q := sx_kf.rf
  obtain ⟨hm3, km3, lm3⟩ : m3 ∈ L ∧ h.1 m3 = 113 ∧ h.2.1 m3 = 500 := by obtain ⟨r9, e9, z1, z2, z3⟩ := hV.refn (t := 113) (n := 500) ha0 ka0 3 rfl (by decide) rfl (by decide); rw [← em3, e9]; exact ⟨z1, z2, z3⟩
  obtain ⟨hm16, km16, lm16⟩ : m16 ∈ L ∧ h.1 m16 = 226 ∧ h.2.1 m16 = 6 := by obtain ⟨r9, e9, z1, z2, z3⟩ := hV.refn (t := 226) (n := 6) ha0 ka0 16 rfl (by decide) rfl (by decide); rw [← em16, e9]; exact ⟨z1, z2, z3⟩
  obtain ⟨hm17, km17, lm17⟩ : m17 ∈ L ∧ h.1 m17 = 227 ∧ h.2.1 m17 = 30 := by obtain ⟨r9, e9, z1, z2, z3⟩ := hV.refn (t := 227) (n := 30) ha0 ka0 17 rfl (by decide) rfl (by decide); rw [← em17, e9]; exact ⟨z1, z2, z3⟩
  obtain ⟨hm18, km18, lm18⟩ : m18 ∈ L ∧ h.1 m18 = 128 ∧ h.2.1 m18 = 6 := by obtain ⟨r9, e9, z1, z2, z3⟩ := hV.refn (t := 128) (n := 6) ha0 ka0 18 rfl (by decide) rfl (by decide); rw [← em18, e9]; exact ⟨z1, z2, z3⟩
  obtain ⟨hm19, km19, lm19⟩ : m19 ∈ L ∧ h.1 m19 = 129 ∧ h.2.1 m19 = 30 := by obtain ⟨r9, e9, z1, z2, z3⟩ := hV.refn (t := 129) (n := 30) ha0 ka0 19 rfl (by decide) rfl (by decide); rw [← em19, e9]; exact ⟨z1, z2, z3⟩
  show WA l dC dI h L ({ frames := 4, cells := 0, slots := 0, locals := 87 } : Room) 3 Z q 0 [(0, .ref a0), (1, .int n1)] []
  obtain ⟨A9, hT, hC⟩ := hP
  have hpl := hT.1
  refine wa_iconst B 3 dX12_readSystem_0 (by decide) ?_
  refine wa_iload_n B dX12_readSystem_1 rfl 1 rfl ?_
  refine wa_iadd B dX12_readSystem_2 (fun v_1 ev_1 => ?_)
  subst ev_1
  refine wa_istore_n B [(2, .int (3 + n1)), (0, .ref a0), (1, .int n1)] dX12_readSystem_3 rfl (by decide) rfl ?_
  have t_2 : (3 + n1).toInt = 3 + n1.toInt := by have b1 := zx_bd n1; exact zx_add (show (-2147483648 : Int) ≤ 3 + n1.toInt by omega) (show 3 + n1.toInt < (2147483648 : Int) by omega)
  have e3 : (3 + n1 : Int32).toNatClampNeg = 3 + n1.toInt.toNat := by rw [zx_nc]; omega
  refine wa_aload_n B dX12_readSystem_4 rfl 1 rfl ?_
  refine wa_getR B (C := RX12) (T := TX12) (N := 51) iq_X12_readSystem_X12 ha0 ka0 (by decide) rfl 16 (by decide) (by decide) (by decide +kernel) rfl (fun _ _ _ => rfl) (v := m16) em16 dX12_readSystem_5 ?_
  refine wa_iload_n B dX12_readSystem_8 rfl 0 rfl ?_
  refine wa_lconst B 0 dX12_readSystem_9 (by decide) ?_
  refine wa_lastore B hm16 km16 (by decide) (by decide) (show 0 ≤ (3 + n1).toInt by omega) (show (3 + n1).toInt < (h.2.1 m16 : Int) by omega) dX12_readSystem_10 (fun q_3 eq_3 => ?_)
  have hV_q_3 : sx_V h L q_3 := by rw [eq_3]; exact hV.pL
  have hF_q_3 : sx_fr h L (fun a => h.1 a = 12 ∨ h.1 a = 226 ∨ h.1 a = 227 ∨ h.1 a = 128 ∨ h.1 a = 129) q q_3 := hF.tr (by rw [eq_3]; exact sx_fr.pL (show h.1 m16 = 200 ∨ (h.1 m16 = 12 ∨ h.1 m16 = 226 ∨ h.1 m16 = 227 ∨ h.1 m16 = 128 ∨ h.1 m16 = 129) from Or.inr (Or.inr (Or.inl km16))))
  have z_4 : q_3.2.2.2.2 m16 = (vp_updL (q.2.2.2.2 m16) ((3 + n1) : Int32).toNatClampNeg 0) := by rw [eq_3, sg_pL_e]
  have z_5 : q_3.2.2.2.2 m16 ((3 + n1) : Int32).toNatClampNeg = 0 := by rw [eq_3, sg_pL_e]; exact if_pos rfl
  have hK_q_3 : sx_kf a0 [6, 7, 8, 9, 11, 12, 13, 14, 15] q q_3 := hK.tr (sx_kf.eq (by rw [eq_3]; rfl) (by rw [eq_3]; rfl))
  have mN_q_3 : mv_N a0 q_3 := mv_N.eq ((show q_3.1 a0 8 = q.1 a0 8 from by rw [eq_3]; rfl)) ((show q_3.2.1 a0 11 = q.2.1 a0 11 from by rw [eq_3]; rfl)) mN
  have mF_q_3 : mv_F m18 m19 q_3 := mv_F.eq ((show q_3.2.2.2.1 m18 = q.2.2.2.1 m18 from by rw [eq_3]; rfl)) ((show q_3.2.2.2.1 m19 = q.2.2.2.1 m19 from by rw [eq_3]; rfl)) mF
  have mU_q_3 : mv_U m17 q_3 := mv_U.eq ((show q_3.2.2.2.2 m17 = q.2.2.2.2 m17 from by rw [eq_3]; exact sg_pL_a (sx_ka h km17 km16 (by decide)))) mU
  refine wa_aload_n B dX12_readSystem_11 rfl 1 rfl ?_
  have z_6 : q_3.2.2.1 a0 18 = m18 := ((show q_3.2.2.1 a0 18 = q.2.2.1 a0 18 from by rw [eq_3]; rfl)).trans (em18)
  refine wa_getR B (C := RX12) (T := TX12) (N := 51) iq_X12_readSystem_X12 ha0 ka0 (by decide) rfl 18 (by decide) (by decide) (by decide +kernel) rfl (fun _ _ _ => rfl) (v := m18) z_6 dX12_readSystem_12 ?_
  refine wa_iload_n B dX12_readSystem_15 rfl 0 rfl ?_
  refine wa_iconst B 0 dX12_readSystem_16 (by decide) ?_
  refine wa_iastore B hm18 km18 (by decide) (by decide) (show 0 ≤ (3 + n1).toInt by omega) (show (3 + n1).toInt < (h.2.1 m18 : Int) by omega) dX12_readSystem_17 (fun q_7 eq_7 => ?_)
  have hV_q_7 : sx_V h L q_7 := by rw [eq_7]; exact hV_q_3.up1 hm18 km18 (show sx_in 0 (0) 5 from ⟨by decide, by decide⟩)
  have hF_q_7 : sx_fr h L (fun a => h.1 a = 12 ∨ h.1 a = 226 ∨ h.1 a = 227 ∨ h.1 a = 128 ∨ h.1 a = 129) q q_7 := hF_q_3.tr (by rw [eq_7]; exact sx_fr.pG (show h.1 m18 = 100 ∨ (h.1 m18 = 12 ∨ h.1 m18 = 226 ∨ h.1 m18 = 227 ∨ h.1 m18 = 128 ∨ h.1 m18 = 129) from Or.inr (Or.inr (Or.inr (Or.inr (Or.inl km18))))))
  have z_8 : q_3.2.2.2.1 m18 = q.2.2.2.1 m18 := (show q_3.2.2.2.1 m18 = q.2.2.2.1 m18 from by rw [eq_3]; rfl)
  have z_9 : q_7.2.2.2.1 m18 = (upd (q.2.2.2.1 m18) ((3 + n1) : Int32).toNatClampNeg 0) := by rw [eq_7, sg_pG_e, z_8]
  have z_10 : q_7.2.2.2.1 m18 ((3 + n1) : Int32).toNatClampNeg = 0 := by rw [eq_7, sg_pG_e]; exact if_pos rfl
  have hK_q_7 : sx_kf a0 [6, 7, 8, 9, 11, 12, 13, 14, 15] q q_7 := hK_q_3.tr (sx_kf.eq (by rw [eq_7]; rfl) (by rw [eq_7]; rfl))
  have mN_q_7 : mv_N a0 q_7 := mv_N.eq ((show q_7.1 a0 8 = q_3.1 a0 8 from by rw [eq_7]; rfl)) ((show q_7.2.1 a0 11 = q_3.2.1 a0 11 from by rw [eq_7]; rfl)) mN_q_3
  have mF_q_7 : mv_F m18 m19 q_7 := mv_f.F (mv_f.up (s := (3 + n1 : Int32).toNatClampNeg) (v := 0) ((mF_q_3).f rfl rfl) (fun k h1 h2 => absurd h2 (show ¬ ((k : Int) < 0) from by omega))) (show q_7.2.2.2.1 m18 = _ from by rw [eq_7]; exact sg_pG_e) ((show q_7.2.2.2.1 m19 = q_3.2.2.2.1 m19 from by rw [eq_7]; exact sg_pG_a (sx_ka h km19 km18 (by decide))))
  have mU_q_7 : mv_U m17 q_7 := mv_U.eq ((show q_7.2.2.2.2 m17 = q_3.2.2.2.2 m17 from by rw [eq_7]; rfl)) mU_q_3
  have hC1 := rr_set (SN' := (vp_updL (q.2.2.2.2 m16) ((3 + n1) : Int32).toNatClampNeg 0)) (UC' := (upd (q.2.2.2.1 m18) ((3 + n1) : Int32).toNatClampNeg 0)) hC (fun s hs => if_neg (by rw [e3]; omega)) (fun s hs => if_neg (by rw [e3]; omega))
  have h00 : (vp_updL (q.2.2.2.2 m16) ((3 + n1) : Int32).toNatClampNeg 0) (3 + n1.toInt.toNat) = 0 ∧ (upd (q.2.2.2.1 m18) ((3 + n1) : Int32).toNatClampNeg 0) (3 + n1.toInt.toNat) = 0 := ⟨by rw [e3]; exact if_pos rfl, by rw [e3]; exact if_pos rfl⟩
  refine wa_aload_n B dX12_readSystem_18 rfl 1 rfl ?_
  have z_11 : q_7.1 a0 8 = q.1 a0 8 := ((show q_7.1 a0 8 = q_3.1 a0 8 from by rw [eq_7]; rfl)).trans ((show q_3.1 a0 8 = q.1 a0 8 from by rw [eq_3]; rfl))
  have y_12 : (q_7.1 a0 8).toInt = (q.1 a0 8).toInt := by rw [z_11]
  refine wa_callVi B (x := (RX12, TX12, 51)) (As := []) (rest := []) (k_X12_isFree_c l dC dI h L hN q_7 hV_q_7 (a0 := a0) ha0 ka0  ) (cwV 0 B.1.2.2.2.2 gX12_readSystem_X12_isFree rfl rfl rfl (by decide +kernel) ⟨Nat.le_of_ble_eq_true rfl, Nat.le_of_ble_eq_true rfl⟩) ha0 ka0 (by decide) rfl rfl rfl (Nat.le_of_ble_eq_true rfl) dX12_readSystem_19 (fun r_14 q_13 w_15 => ?_)
  obtain ⟨ew_15, hw_15⟩ := w_15
  subst ew_15
  have z_16 : q_7.2.2.2.2 m16 = (vp_updL (q.2.2.2.2 m16) ((3 + n1) : Int32).toNatClampNeg 0) := ((show q_7.2.2.2.2 m16 = q_3.2.2.2.2 m16 from by rw [eq_7]; rfl)).trans (z_4)
  have z_17 : q_7.2.2.2.2 m17 = q.2.2.2.2 m17 := ((show q_7.2.2.2.2 m17 = q_3.2.2.2.2 m17 from by rw [eq_7]; rfl)).trans ((show q_3.2.2.2.2 m17 = q.2.2.2.2 m17 from by rw [eq_3]; exact sg_pL_a (sx_ka h km17 km16 (by decide))))
  have z_18 : q_7.2.2.2.1 m19 = q.2.2.2.1 m19 := ((show q_7.2.2.2.1 m19 = q_3.2.2.2.1 m19 from by rw [eq_7]; exact sg_pG_a (sx_ka h km19 km18 (by decide)))).trans ((show q_3.2.2.2.1 m19 = q.2.2.2.1 m19 from by rw [eq_3]; rfl))
  have z_19 : q_7.2.1 a0 11 = q.2.1 a0 11 := ((show q_7.2.1 a0 11 = q_3.2.1 a0 11 from by rw [eq_7]; rfl)).trans ((show q_3.2.1 a0 11 = q.2.1 a0 11 from by rw [eq_3]; rfl))
  have z_20 : q_7.1 a0 9 = q.1 a0 9 := ((show q_7.1 a0 9 = q_3.1 a0 9 from by rw [eq_7]; rfl)).trans ((show q_3.1 a0 9 = q.1 a0 9 from by rw [eq_3]; rfl))
  have z_21 : q_7.1 a0 12 = q.1 a0 12 := ((show q_7.1 a0 12 = q_3.1 a0 12 from by rw [eq_7]; rfl)).trans ((show q_3.1 a0 12 = q.1 a0 12 from by rw [eq_3]; rfl))
  have z_22 : q_7.1 a0 13 = q.1 a0 13 := ((show q_7.1 a0 13 = q_3.1 a0 13 from by rw [eq_7]; rfl)).trans ((show q_3.1 a0 13 = q.1 a0 13 from by rw [eq_3]; rfl))
  try simp only [z_16, z_17, z_9, z_18, z_19, z_11, z_20, z_21, z_22] at hw_15
  refine wa_if_ne B 31 dX12_readSystem_22 (by decide) (fun (t_23 : ¬ r_14.toInt = 0) => ?_) (fun (t_23 : r_14.toInt = 0) => ?_)
  · refine wa_aload_n B dX12_readSystem_31 rfl 1 rfl ?_
    refine wa_iload_n B dX12_readSystem_32 rfl 2 rfl ?_
    have z_24 : q_7.2.2.1 a0 16 = m16 := ((show q_7.2.2.1 a0 16 = q_3.2.2.1 a0 16 from by rw [eq_7]; rfl)).trans (((show q_3.2.2.1 a0 16 = q.2.2.1 a0 16 from by rw [eq_3]; rfl)).trans (em16))
    have z_25 : q_7.2.2.1 a0 17 = m17 := ((show q_7.2.2.1 a0 17 = q_3.2.2.1 a0 17 from by rw [eq_7]; rfl)).trans (((show q_3.2.2.1 a0 17 = q.2.2.1 a0 17 from by rw [eq_3]; rfl)).trans (em17))
    have z_26 : q_7.2.2.1 a0 18 = m18 := ((show q_7.2.2.1 a0 18 = q_3.2.2.1 a0 18 from by rw [eq_7]; rfl)).trans (z_6)
    refine wa_callVi B (x := (RX12, TX12, 51)) (As := [.int n1]) (rest := []) (k_X12_isTaken_c l dC dI h L hN q_7 hV_q_7 (a0 := a0) ha0 ka0 n1 (m16 := m16) z_24 (m17 := m17) z_25 (m18 := m18) z_26  (by first | assumption | omega | decide) (by first | assumption | omega | decide)) (cwV 1 B.1.2.2.2.2 gX12_readSystem_X12_isTaken rfl rfl rfl (by decide +kernel) ⟨Nat.le_of_ble_eq_true rfl, Nat.le_of_ble_eq_true rfl⟩) ha0 ka0 (by decide) rfl rfl rfl (Nat.le_of_ble_eq_true rfl) dX12_readSystem_33 (fun r_28 q_27 w_29 => ?_)
    obtain ⟨ew_29, hw_29⟩ := w_29
    subst ew_29
    try simp only [z_16, z_17, z_9, z_18, z_19, z_11, z_20, z_21, z_22] at hw_29
    refine wa_if_eq B 45 dX12_readSystem_36 (by decide) (fun (t_30 : r_28.toInt = 0) => ?_) (fun (t_30 : ¬ r_28.toInt = 0) => ?_)
    · refine wa_aload_n B dX12_readSystem_45 rfl 1 rfl ?_
      refine wa_getR B (C := RX12) (T := TX12) (N := 51) iq_X12_readSystem_X12 ha0 ka0 (by decide) rfl 16 (by decide) (by decide) (by decide +kernel) rfl (fun _ _ _ => rfl) (v := m16) z_24 dX12_readSystem_46 ?_
      refine wa_iload_n B dX12_readSystem_49 rfl 0 rfl ?_
      refine wa_aload_n B dX12_readSystem_50 rfl 1 rfl ?_
      refine wa_getJ B (C := RX12) (T := TX12) (N := 51) iq_X12_readSystem_X12 ha0 ka0 (by decide) rfl 11 (by decide) (by decide) (by decide +kernel) rfl (by decide) (v := (q.2.1 a0 11)) z_19 dX12_readSystem_51 ?_
      refine wa_lastore B hm16 km16 (by decide) (by decide) (show 0 ≤ (3 + n1).toInt by omega) (show (3 + n1).toInt < (h.2.1 m16 : Int) by omega) dX12_readSystem_54 (fun q_31 eq_31 => ?_)
      have hV_q_31 : sx_V h L q_31 := by rw [eq_31]; exact hV_q_7.pL
      have hF_q_31 : sx_fr h L (fun a => h.1 a = 12 ∨ h.1 a = 226 ∨ h.1 a = 227 ∨ h.1 a = 128 ∨ h.1 a = 129) q q_31 := hF_q_7.tr (by rw [eq_31]; exact sx_fr.pL (show h.1 m16 = 200 ∨ (h.1 m16 = 12 ∨ h.1 m16 = 226 ∨ h.1 m16 = 227 ∨ h.1 m16 = 128 ∨ h.1 m16 = 129) from Or.inr (Or.inr (Or.inl km16))))
      have z_32 : q_31.2.2.2.2 m16 = (vp_updL (vp_updL (q.2.2.2.2 m16) ((3 + n1) : Int32).toNatClampNeg 0) ((3 + n1) : Int32).toNatClampNeg (q.2.1 a0 11)) := by rw [eq_31, sg_pL_e, z_16]
      have z_33 : q_31.2.2.2.2 m16 ((3 + n1) : Int32).toNatClampNeg = (q.2.1 a0 11) := by rw [eq_31, sg_pL_e]; exact if_pos rfl
      have hK_q_31 : sx_kf a0 [6, 7, 8, 9, 11, 12, 13, 14, 15] q q_31 := hK_q_7.tr (sx_kf.eq (by rw [eq_31]; rfl) (by rw [eq_31]; rfl))
      have mN_q_31 : mv_N a0 q_31 := mv_N.eq ((show q_31.1 a0 8 = q_7.1 a0 8 from by rw [eq_31]; rfl)) ((show q_31.2.1 a0 11 = q_7.2.1 a0 11 from by rw [eq_31]; rfl)) mN_q_7
      have mF_q_31 : mv_F m18 m19 q_31 := mv_F.eq ((show q_31.2.2.2.1 m18 = q_7.2.2.2.1 m18 from by rw [eq_31]; rfl)) ((show q_31.2.2.2.1 m19 = q_7.2.2.2.1 m19 from by rw [eq_31]; rfl)) mF_q_7
      have mU_q_31 : mv_U m17 q_31 := mv_U.eq ((show q_31.2.2.2.2 m17 = q_7.2.2.2.2 m17 from by rw [eq_31]; exact sg_pL_a (sx_ka h km17 km16 (by decide)))) mU_q_7
      have y9 := rr_name (SN' := (vp_updL (vp_updL (q.2.2.2.2 m16) ((3 + n1) : Int32).toNatClampNeg 0) ((3 + n1) : Int32).toNatClampNeg (q.2.1 a0 11))) hC1 hT (hw_15.resolve_right (fun y => absurd y.1 (by omega))).2 h00 (hw_29.resolve_left (fun y => absurd y.1 (by omega))).2 (by rw [e3])
      refine wa_aload_n B dX12_readSystem_55 rfl 1 rfl ?_
      have z_34 : q_31.2.2.1 a0 3 = m3 := ((show q_31.2.2.1 a0 3 = q_7.2.2.1 a0 3 from by rw [eq_31]; rfl)).trans (((show q_7.2.2.1 a0 3 = q_3.2.2.1 a0 3 from by rw [eq_7]; rfl)).trans (((show q_3.2.2.1 a0 3 = q.2.2.1 a0 3 from by rw [eq_3]; rfl)).trans (em3)))
      have z_35 : q_31.1 a0 5 = q.1 a0 5 := ((show q_31.1 a0 5 = q_7.1 a0 5 from by rw [eq_31]; rfl)).trans (((show q_7.1 a0 5 = q_3.1 a0 5 from by rw [eq_7]; rfl)).trans ((show q_3.1 a0 5 = q.1 a0 5 from by rw [eq_3]; rfl)))
      have y_36 : (q_31.1 a0 5).toInt = (q.1 a0 5).toInt := by rw [z_35]
      have z_37 : q_31.1 a0 4 = q.1 a0 4 := ((show q_31.1 a0 4 = q_7.1 a0 4 from by rw [eq_31]; rfl)).trans (((show q_7.1 a0 4 = q_3.1 a0 4 from by rw [eq_7]; rfl)).trans ((show q_3.1 a0 4 = q.1 a0 4 from by rw [eq_3]; rfl)))
      have y_38 : (q_31.1 a0 4).toInt = (q.1 a0 4).toInt := by rw [z_37]
      have z_39 : q_31.1 a0 6 = q.1 a0 6 := ((show q_31.1 a0 6 = q_7.1 a0 6 from by rw [eq_31]; rfl)).trans (((show q_7.1 a0 6 = q_3.1 a0 6 from by rw [eq_7]; rfl)).trans ((show q_3.1 a0 6 = q.1 a0 6 from by rw [eq_3]; rfl)))
      have y_40 : (q_31.1 a0 6).toInt = (q.1 a0 6).toInt := by rw [z_39]
      have z_41 : q_31.1 a0 10 = q.1 a0 10 := ((show q_31.1 a0 10 = q_7.1 a0 10 from by rw [eq_31]; rfl)).trans (((show q_7.1 a0 10 = q_3.1 a0 10 from by rw [eq_7]; rfl)).trans ((show q_3.1 a0 10 = q.1 a0 10 from by rw [eq_3]; rfl)))
      have y_42 : (q_31.1 a0 10).toInt = (q.1 a0 10).toInt := by rw [z_41]
      have z_43 : q_31.2.2.2.1 m3 = q.2.2.2.1 m3 := ((show q_31.2.2.2.1 m3 = q_7.2.2.2.1 m3 from by rw [eq_31]; rfl)).trans (((show q_7.2.2.2.1 m3 = q_3.2.2.2.1 m3 from by rw [eq_7]; exact sg_pG_a (sx_ka h km3 km18 (by decide)))).trans ((show q_3.2.2.2.1 m3 = q.2.2.2.1 m3 from by rw [eq_3]; rfl)))
      refine wa_callVv B (x := (RX12, TX12, 51)) (As := []) (rest := []) (k_X12_go_c l dC dI h L hN q_31 hV_q_31 (a0 := a0) ha0 ka0 (m3 := m3) z_34 F n9 (by first | assumption | omega | decide) (fun j hj => by rw [z_43]; exact hFF j hj) (by first | assumption | omega | decide) (by first | assumption | omega | decide) (by first | assumption | omega | decide)) (cwV 0 B.1.2.2.2.2 gX12_readSystem_X12_go rfl rfl rfl (by decide +kernel) ⟨Nat.le_of_ble_eq_true rfl, Nat.le_of_ble_eq_true rfl⟩) ha0 ka0 (by decide) rfl rfl rfl (Nat.le_of_ble_eq_true rfl) dX12_readSystem_56 (fun q_44 w_45 => ?_)
      obtain ⟨hV_q_44, h2_q_44, h3_q_44, mN_q_44, hw_45⟩ := w_45
      have hF_q_44 : sx_fr h L (fun a => h.1 a = 12 ∨ h.1 a = 226 ∨ h.1 a = 227 ∨ h.1 a = 128 ∨ h.1 a = 129) q q_44 := hF_q_31.tr (h2_q_44.mono (fun a (z : h.1 a = 12) => ((fun z => (Or.inl z)) z)))
      have hK_q_44 : sx_kf a0 [6, 7, 8, 9, 11, 12, 13, 14, 15] q q_44 := hK_q_31.tr (h3_q_44.mono (by decide))
      have mF_q_44 : mv_F m18 m19 q_44 := mv_F.eq (h2_q_44.G hm18 (show ¬ (h.1 m18 = 12) from (fun z => absurd (z.symm.trans km18) (by decide))) (by rw [km18]; decide)) (h2_q_44.G hm19 (show ¬ (h.1 m19 = 12) from (fun z => absurd (z.symm.trans km19) (by decide))) (by rw [km19]; decide)) mF_q_31
      have mU_q_44 : mv_U m17 q_44 := mv_U.eq (h2_q_44.Lg hm17 (show ¬ (h.1 m17 = 12) from (fun z => absurd (z.symm.trans km17) (by decide))) (by rw [km17]; decide)) mU_q_31
      rw [show (q_31.1 a0 6).toInt.toNat = pz_E F n9 A9 from (by omega)] at hw_45
      obtain ⟨hT20, hT2⟩ := hw_45
      have hT2p := hT2.1
      refine wa_aload_n B dX12_readSystem_59 rfl 1 rfl ?_
      refine wa_bipush B 58 dX12_readSystem_60 (by decide) ?_
      have n_46 : (58 : Int32).toInt = 58 := rfl
      refine wa_callVi B (x := (RX12, TX12, 51)) (As := [.int 58]) (rest := []) (k_X12_isSign_c l dC dI h L hN q_44 hV_q_44 (a0 := a0) ha0 ka0 58  ) (cwV 1 B.1.2.2.2.2 gX12_readSystem_X12_isSign rfl rfl rfl (by decide +kernel) ⟨Nat.le_of_ble_eq_true rfl, Nat.le_of_ble_eq_true rfl⟩) ha0 ka0 (by decide) rfl rfl rfl (Nat.le_of_ble_eq_true rfl) dX12_readSystem_62 (fun r_48 q_47 w_49 => ?_)
      obtain ⟨ew_49, hw_49⟩ := w_49
      subst ew_49
      have z_50 : q_44.2.2.2.2 m16 = (vp_updL (vp_updL (q.2.2.2.2 m16) ((3 + n1) : Int32).toNatClampNeg 0) ((3 + n1) : Int32).toNatClampNeg (q.2.1 a0 11)) := (h2_q_44.Lg hm16 (show ¬ (h.1 m16 = 12) from (fun z => absurd (z.symm.trans km16) (by decide))) (by rw [km16]; decide)).trans (z_32)
      have z_51 : q_44.2.2.2.2 m17 = (q.2.2.2.2 m17) := (h2_q_44.Lg hm17 (show ¬ (h.1 m17 = 12) from (fun z => absurd (z.symm.trans km17) (by decide))) (by rw [km17]; decide)).trans (((show q_31.2.2.2.2 m17 = q_7.2.2.2.2 m17 from by rw [eq_31]; exact sg_pL_a (sx_ka h km17 km16 (by decide)))).trans (z_17))
      have z_52 : q_44.2.2.2.1 m18 = (upd (q.2.2.2.1 m18) ((3 + n1) : Int32).toNatClampNeg 0) := (h2_q_44.G hm18 (show ¬ (h.1 m18 = 12) from (fun z => absurd (z.symm.trans km18) (by decide))) (by rw [km18]; decide)).trans (((show q_31.2.2.2.1 m18 = q_7.2.2.2.1 m18 from by rw [eq_31]; rfl)).trans (z_9))
      have z_53 : q_44.2.2.2.1 m19 = (q.2.2.2.1 m19) := (h2_q_44.G hm19 (show ¬ (h.1 m19 = 12) from (fun z => absurd (z.symm.trans km19) (by decide))) (by rw [km19]; decide)).trans (((show q_31.2.2.2.1 m19 = q_7.2.2.2.1 m19 from by rw [eq_31]; rfl)).trans (z_18))
      try simp only [z_50, z_51, z_52, z_53] at hw_49
      refine wa_if_ne B 74 dX12_readSystem_65 (by decide) (fun (t_54 : ¬ r_48.toInt = 0) => ?_) (fun (t_54 : r_48.toInt = 0) => ?_)
      · have y8 := rr_colon y9.2 hT2 (hw_49.resolve_right (fun y => absurd y.1 (by omega))).2
        refine wa_aload_n B dX12_readSystem_74 rfl 1 rfl ?_
        have z_55 : q_44.2.2.1 a0 3 = m3 := (h2_q_44.R ha0 (fun z9 => absurd z9.2 (by omega)) 3).trans (z_34)
        have z_56 : q_44.1 a0 5 = (q.1 a0 5) := (h3_q_44.1 5 (by decide)).trans (z_35)
        have y_57 : (q_44.1 a0 5).toInt = (q.1 a0 5).toInt := by rw [z_56]
        have z_58 : q_44.1 a0 4 = (q.1 a0 4) := (h3_q_44.1 4 (by decide)).trans (z_37)
        have y_59 : (q_44.1 a0 4).toInt = (q.1 a0 4).toInt := by rw [z_58]
        have z_60 : q_44.1 a0 10 = (q.1 a0 10) := (h3_q_44.1 10 (by decide)).trans (z_41)
        have y_61 : (q_44.1 a0 10).toInt = (q.1 a0 10).toInt := by rw [z_60]
        have z_62 : q_44.2.2.2.1 m3 = (q.2.2.2.1 m3) := (h2_q_44.G hm3 (show ¬ (h.1 m3 = 12) from (fun z => absurd (z.symm.trans km3) (by decide))) (by rw [km3]; decide)).trans (z_43)
        refine wa_callVv B (x := (RX12, TX12, 51)) (As := []) (rest := []) (k_X12_go_c l dC dI h L hN q_44 hV_q_44 (a0 := a0) ha0 ka0 (m3 := m3) z_55 F n9 (by first | assumption | omega | decide) (fun j hj => by rw [z_62]; exact hFF j hj) (by first | assumption | omega | decide) (by first | assumption | omega | decide) (by first | assumption | omega | decide)) (cwV 0 B.1.2.2.2.2 gX12_readSystem_X12_go rfl rfl rfl (by decide +kernel) ⟨Nat.le_of_ble_eq_true rfl, Nat.le_of_ble_eq_true rfl⟩) ha0 ka0 (by decide) rfl rfl rfl (Nat.le_of_ble_eq_true rfl) dX12_readSystem_75 (fun q_63 w_64 => ?_)
        obtain ⟨hV_q_63, h2_q_63, h3_q_63, mN_q_63, hw_64⟩ := w_64
        have hF_q_63 : sx_fr h L (fun a => h.1 a = 12 ∨ h.1 a = 226 ∨ h.1 a = 227 ∨ h.1 a = 128 ∨ h.1 a = 129) q q_63 := hF_q_44.tr (h2_q_63.mono (fun a (z : h.1 a = 12) => ((fun z => (Or.inl z)) z)))
        have hK_q_63 : sx_kf a0 [6, 7, 8, 9, 11, 12, 13, 14, 15] q q_63 := hK_q_44.tr (h3_q_63.mono (by decide))
        have mF_q_63 : mv_F m18 m19 q_63 := mv_F.eq (h2_q_63.G hm18 (show ¬ (h.1 m18 = 12) from (fun z => absurd (z.symm.trans km18) (by decide))) (by rw [km18]; decide)) (h2_q_63.G hm19 (show ¬ (h.1 m19 = 12) from (fun z => absurd (z.symm.trans km19) (by decide))) (by rw [km19]; decide)) mF_q_44
        have mU_q_63 : mv_U m17 q_63 := mv_U.eq (h2_q_63.Lg hm17 (show ¬ (h.1 m17 = 12) from (fun z => absurd (z.symm.trans km17) (by decide))) (by rw [km17]; decide)) mU_q_44
        rw [show (q_44.1 a0 6).toInt.toNat = pz_E F n9 (pz_E F n9 A9) from (by omega)] at hw_64
        obtain ⟨hT30, hT3⟩ := hw_64
        have hT3p := hT3.1
        refine wa_aload_n B dX12_readSystem_78 rfl 1 rfl ?_
        refine wa_iload_n B dX12_readSystem_79 rfl 2 rfl ?_
        have z_65 : q_63.2.2.2.1 m18 ((3 + n1) : Int32).toNatClampNeg = 0 := (congrFun ((h2_q_63.G hm18 (show ¬ (h.1 m18 = 12) from (fun z => absurd (z.symm.trans km18) (by decide))) (by rw [km18]; decide)).trans ((h2_q_44.G hm18 (show ¬ (h.1 m18 = 12) from (fun z => absurd (z.symm.trans km18) (by decide))) (by rw [km18]; decide)).trans ((show q_31.2.2.2.1 m18 = q_7.2.2.2.1 m18 from by rw [eq_31]; rfl)))) _).trans z_10
        have y_66 : (q_63.2.2.2.1 m18 (3 + n1).toNatClampNeg).toInt = 0 := by rw [z_65]; rfl
        have z_67 : q_63.2.2.1 a0 3 = m3 := (h2_q_63.R ha0 (fun z9 => absurd z9.2 (by omega)) 3).trans (z_55)
        have z_68 : q_63.2.2.1 a0 16 = m16 := (h2_q_63.R ha0 (fun z9 => absurd z9.2 (by omega)) 16).trans ((h2_q_44.R ha0 (fun z9 => absurd z9.2 (by omega)) 16).trans (((show q_31.2.2.1 a0 16 = q_7.2.2.1 a0 16 from by rw [eq_31]; rfl)).trans (z_24)))
        have z_69 : q_63.2.2.1 a0 17 = m17 := (h2_q_63.R ha0 (fun z9 => absurd z9.2 (by omega)) 17).trans ((h2_q_44.R ha0 (fun z9 => absurd z9.2 (by omega)) 17).trans (((show q_31.2.2.1 a0 17 = q_7.2.2.1 a0 17 from by rw [eq_31]; rfl)).trans (z_25)))
        have z_70 : q_63.2.2.1 a0 18 = m18 := (h2_q_63.R ha0 (fun z9 => absurd z9.2 (by omega)) 18).trans ((h2_q_44.R ha0 (fun z9 => absurd z9.2 (by omega)) 18).trans (((show q_31.2.2.1 a0 18 = q_7.2.2.1 a0 18 from by rw [eq_31]; rfl)).trans (z_26)))
        have z_71 : q_63.2.2.1 a0 19 = m19 := (h2_q_63.R ha0 (fun z9 => absurd z9.2 (by omega)) 19).trans ((h2_q_44.R ha0 (fun z9 => absurd z9.2 (by omega)) 19).trans (((show q_31.2.2.1 a0 19 = q_7.2.2.1 a0 19 from by rw [eq_31]; rfl)).trans (((show q_7.2.2.1 a0 19 = q_3.2.2.1 a0 19 from by rw [eq_7]; rfl)).trans (((show q_3.2.2.1 a0 19 = q.2.2.1 a0 19 from by rw [eq_3]; rfl)).trans (em19)))))
        have z_72 : q_63.1 a0 10 = (q.1 a0 10) := (h3_q_63.1 10 (by decide)).trans (z_60)
        have y_73 : (q_63.1 a0 10).toInt = (q.1 a0 10).toInt := by rw [z_72]
        have z_74 : q_63.1 a0 5 = (q.1 a0 5) := (h3_q_63.1 5 (by decide)).trans (z_56)
        have y_75 : (q_63.1 a0 5).toInt = (q.1 a0 5).toInt := by rw [z_74]
        have z_76 : q_63.1 a0 4 = (q.1 a0 4) := (h3_q_63.1 4 (by decide)).trans (z_58)
        have y_77 : (q_63.1 a0 4).toInt = (q.1 a0 4).toInt := by rw [z_76]
        have z_78 : q_63.2.2.2.1 m3 = (q.2.2.2.1 m3) := (h2_q_63.G hm3 (show ¬ (h.1 m3 = 12) from (fun z => absurd (z.symm.trans km3) (by decide))) (by rw [km3]; decide)).trans (z_62)
        have z_79 : q_63.2.2.2.2 m16 = (vp_updL (vp_updL (q.2.2.2.2 m16) ((3 + n1) : Int32).toNatClampNeg 0) ((3 + n1) : Int32).toNatClampNeg (q.2.1 a0 11)) := (h2_q_63.Lg hm16 (show ¬ (h.1 m16 = 12) from (fun z => absurd (z.symm.trans km16) (by decide))) (by rw [km16]; decide)).trans (z_50)
        have z_80 : q_63.2.2.2.2 m17 = (q.2.2.2.2 m17) := (h2_q_63.Lg hm17 (show ¬ (h.1 m17 = 12) from (fun z => absurd (z.symm.trans km17) (by decide))) (by rw [km17]; decide)).trans (z_51)
        have z_81 : q_63.2.2.2.1 m18 = (upd (q.2.2.2.1 m18) ((3 + n1) : Int32).toNatClampNeg 0) := (h2_q_63.G hm18 (show ¬ (h.1 m18 = 12) from (fun z => absurd (z.symm.trans km18) (by decide))) (by rw [km18]; decide)).trans (z_52)
        have z_82 : q_63.2.2.2.1 m19 = (q.2.2.2.1 m19) := (h2_q_63.G hm19 (show ¬ (h.1 m19 = 12) from (fun z => absurd (z.symm.trans km19) (by decide))) (by rw [km19]; decide)).trans (z_53)
        refine wa_callVi B (x := (RX12, TX12, 51)) (As := [.int n1]) (rest := []) (k_X12_readUnit_c l dC dI h L hN q_63 hV_q_63 (a0 := a0) ha0 ka0 n1 (m3 := m3) z_67 (m16 := m16) z_68 (m17 := m17) z_69 (m18 := m18) z_70 (m19 := m19) z_71 mN_q_63 mF_q_63 mU_q_63 F n9 R9 (by first | assumption | omega | decide) (by first | assumption | omega | decide) (by rw [z_65]; decide) (Or.inl (by rw [z_65]; rfl)) (by first | assumption | omega | decide) (fun j hj => by rw [z_78]; exact hFF j hj) (by first | assumption | omega | decide) (by first | assumption | omega | decide) (by first | assumption | omega | decide) (by rw [z_79, z_80, z_81, z_82]; exact ⟨_, hT3, y8.2.1⟩)) (cwV 1 B.1.2.2.2.2 gX12_readSystem_X12_readUnit rfl rfl rfl (by decide +kernel) ⟨Nat.le_of_ble_eq_true rfl, Nat.le_of_ble_eq_true rfl⟩) ha0 ka0 (by decide) rfl rfl rfl (Nat.le_of_ble_eq_true rfl) dX12_readSystem_80 (fun r_84 q_83 w_85 => ?_)
        obtain ⟨hV_q_83, h2_q_83, h3_q_83, mN_q_83, mF_q_83, mU_q_83, hw_85⟩ := w_85
        have hF_q_83 : sx_fr h L (fun a => h.1 a = 12 ∨ h.1 a = 226 ∨ h.1 a = 227 ∨ h.1 a = 128 ∨ h.1 a = 129) q q_83 := hF_q_63.tr (h2_q_83.mono (fun a (z : h.1 a = 12 ∨ h.1 a = 227 ∨ h.1 a = 128) => ((fun z => z.elim (fun z => (Or.inl z)) (fun z => z.elim (fun z => (Or.inr (Or.inr (Or.inl z)))) (fun z => (Or.inr (Or.inr (Or.inr (Or.inl z))))))) z)))
        have hK_q_83 : sx_kf a0 [6, 7, 8, 9, 11, 12, 13, 14, 15] q q_83 := hK_q_63.tr (h3_q_83.mono (by decide))
        have z_86 : q_83.1 a0 4 = (q.1 a0 4) := (h3_q_83.1 4 (by decide)).trans (z_76)
        have k_87 := hw_85.2
        refine wa_if_ne B 88 dX12_readSystem_83 (by decide) (fun (t_88 : ¬ r_84.toInt = 0) => ?_) (fun (t_88 : r_84.toInt = 0) => ?_)
        · have z_90 : q_83.1 a0 5 = (q.1 a0 5) := (h3_q_83.1 5 (by decide)).trans (z_74)
          have z_91 : q_83.1 a0 10 = (q.1 a0 10) := (h3_q_83.1 10 (by decide)).trans (z_72)
          have z_92 : q_83.2.2.1 a0 3 = m3 := (h2_q_83.R ha0 (fun z9 => absurd z9.2 (by omega)) 3).trans (z_67)
          have z_93 : q_83.2.2.1 a0 16 = m16 := (h2_q_83.R ha0 (fun z9 => absurd z9.2 (by omega)) 16).trans (z_68)
          have z_94 : q_83.2.2.1 a0 17 = m17 := (h2_q_83.R ha0 (fun z9 => absurd z9.2 (by omega)) 17).trans (z_69)
          have z_95 : q_83.2.2.1 a0 18 = m18 := (h2_q_83.R ha0 (fun z9 => absurd z9.2 (by omega)) 18).trans (z_70)
          have z_96 : q_83.2.2.1 a0 19 = m19 := (h2_q_83.R ha0 (fun z9 => absurd z9.2 (by omega)) 19).trans (z_71)
          have z_97 : q_83.2.2.2.1 m3 = (q.2.2.2.1 m3) := (h2_q_83.G hm3 (show ¬ (h.1 m3 = 12 ∨ h.1 m3 = 227 ∨ h.1 m3 = 128) from (fun z => z.elim (fun z => absurd (z.symm.trans km3) (by decide)) (fun z => z.elim (fun z => absurd (z.symm.trans km3) (by decide)) (fun z => absurd (z.symm.trans km3) (by decide))))) (by rw [km3]; decide)).trans (z_78)
          have z_98 : q_83.2.2.2.1 m19 = (q.2.2.2.1 m19) := (h2_q_83.G hm19 (show ¬ (h.1 m19 = 12 ∨ h.1 m19 = 227 ∨ h.1 m19 = 128) from (fun z => z.elim (fun z => absurd (z.symm.trans km19) (by decide)) (fun z => z.elim (fun z => absurd (z.symm.trans km19) (by decide)) (fun z => absurd (z.symm.trans km19) (by decide))))) (by rw [km19]; decide)).trans (z_82)
          have z_99 : q_83.2.2.2.2 m16 = (vp_updL (vp_updL (q.2.2.2.2 m16) ((3 + n1) : Int32).toNatClampNeg 0) ((3 + n1) : Int32).toNatClampNeg (q.2.1 a0 11)) := (h2_q_83.Lg hm16 (show ¬ (h.1 m16 = 12 ∨ h.1 m16 = 227 ∨ h.1 m16 = 128) from (fun z => z.elim (fun z => absurd (z.symm.trans km16) (by decide)) (fun z => z.elim (fun z => absurd (z.symm.trans km16) (by decide)) (fun z => absurd (z.symm.trans km16) (by decide))))) (by rw [km16]; decide)).trans (z_79)
          have Lp_88_102 : ∀ (n : Nat) (q_89 : Sg), sx_V h L q_89 → sx_fr h L (fun a => h.1 a = 12 ∨ h.1 a = 226 ∨ h.1 a = 227 ∨ h.1 a = 128 ∨ h.1 a = 129) q q_89 → sx_kf a0 [6, 7, 8, 9, 11, 12, 13, 14, 15] q q_89 → mv_N a0 q_89 → mv_F m18 m19 q_89 → mv_U m17 q_89 → q_89.1 a0 4 = (q.1 a0 4) → q_89.1 a0 5 = (q.1 a0 5) → q_89.1 a0 10 = (q.1 a0 10) → q_89.2.2.1 a0 3 = m3 → q_89.2.2.1 a0 16 = m16 → q_89.2.2.1 a0 17 = m17 → q_89.2.2.1 a0 18 = m18 → q_89.2.2.1 a0 19 = m19 → q_89.2.2.2.1 m3 = (q.2.2.2.1 m3) → q_89.2.2.2.2 m16 = (vp_updL (vp_updL (q.2.2.2.2 m16) ((3 + n1) : Int32).toNatClampNeg 0) ((3 + n1) : Int32).toNatClampNeg (q.2.1 a0 11)) → (q_89.1 a0 6).toInt ≤ (q_89.1 a0 4).toInt → rs_P F n9 R9 4 (n1.toInt.toNat + 1) (q_89.1 a0 8) (q_89.1 a0 9) (q_89.1 a0 7) (q_89.1 a0 6) (q_89.1 a0 12) (q_89.1 a0 13) (q_89.2.1 a0 11) (q_89.2.2.2.2 m16) (q_89.2.2.2.2 m17) (q_89.2.2.2.1 m18) (q_89.2.2.2.1 m19) → (5 - (q_89.2.2.2.1 m18 (3 + n1).toNatClampNeg).toInt : Int).toNat < n → WA l dC dI h L ({ frames := 4, cells := 0, slots := 0, locals := 87 } : Room) 3 Z q_89 88 [(2, .int (3 + n1)), (0, .ref a0), (1, .int n1)] [] := by
            intro n
            induction n with
            | zero =>
              intro q_89 hV_q_89 hF_q_89 hK_q_89 mN_q_89 mF_q_89 mU_q_89 p0_q_89 p1_q_89 p2_q_89 p3_q_89 p4_q_89 p5_q_89 p6_q_89 p7_q_89 p8_q_89 p9_q_89 x_100 x_101 hn
              exact absurd hn (Nat.not_lt_zero _)
            | succ n ih_104 =>
              intro q_89 hV_q_89 hF_q_89 hK_q_89 mN_q_89 mF_q_89 mU_q_89 p0_q_89 p1_q_89 p2_q_89 p3_q_89 p4_q_89 p5_q_89 p6_q_89 p7_q_89 p8_q_89 p9_q_89 x_100 x_101 hn
              have y_103 : (q_89.1 a0 4).toInt = (q.1 a0 4).toInt := by rw [p0_q_89]
              refine wa_aload_n B dX12_readSystem_88 rfl 1 rfl ?_
              obtain ⟨A8, hT8, hC8⟩ := x_101
              have hT8p := hT8.1
              rw [p9_q_89] at hC8
              refine wa_getI B (C := RX12) (T := TX12) (N := 51) iq_X12_readSystem_X12 ha0 ka0 (by decide) rfl 8 (by decide) (by decide) (by decide +kernel) rfl (by decide) (v := (q_89.1 a0 8)) rfl dX12_readSystem_89 ?_
              refine wa_iconst B 3 dX12_readSystem_92 (by decide) ?_
              refine wa_icmp_ne B 181 dX12_readSystem_93 (by decide) (fun (t_105 : ¬ (q_89.1 a0 8).toInt = 3) => ?_) (fun (t_105 : (q_89.1 a0 8).toInt = 3) => ?_)
              · refine wa_aload_n B dX12_readSystem_181 rfl 1 rfl ?_
                refine wa_bipush B 59 dX12_readSystem_182 (by decide) ?_
                have n_106 : (59 : Int32).toInt = 59 := rfl
                refine wa_callVi B (x := (RX12, TX12, 51)) (As := [.int 59]) (rest := []) (k_X12_isSign_c l dC dI h L hN q_89 hV_q_89 (a0 := a0) ha0 ka0 59  ) (cwV 1 B.1.2.2.2.2 gX12_readSystem_X12_isSign rfl rfl rfl (by decide +kernel) ⟨Nat.le_of_ble_eq_true rfl, Nat.le_of_ble_eq_true rfl⟩) ha0 ka0 (by decide) rfl rfl rfl (Nat.le_of_ble_eq_true rfl) dX12_readSystem_184 (fun r_108 q_107 w_109 => ?_)
                obtain ⟨ew_109, hw_109⟩ := w_109
                subst ew_109
                try simp only [p9_q_89] at hw_109
                refine wa_if_ne B 196 dX12_readSystem_187 (by decide) (fun (t_110 : ¬ r_108.toInt = 0) => ?_) (fun (t_110 : r_108.toInt = 0) => ?_)
                · have y5 := rr_semi hC8 hT8 (hw_109.resolve_right (fun y => absurd y.1 (by omega))).2
                  refine wa_aload_n B dX12_readSystem_196 rfl 1 rfl ?_
                  have y_111 : (q_89.1 a0 5).toInt = (q.1 a0 5).toInt := by rw [p1_q_89]
                  have y_112 : (q_89.1 a0 4).toInt = (q.1 a0 4).toInt := by rw [p0_q_89]
                  have y_113 : (q_89.1 a0 10).toInt = (q.1 a0 10).toInt := by rw [p2_q_89]
                  refine wa_callVv B (x := (RX12, TX12, 51)) (As := []) (rest := []) (k_X12_go_c l dC dI h L hN q_89 hV_q_89 (a0 := a0) ha0 ka0 (m3 := m3) p3_q_89 F n9 (by first | assumption | omega | decide) (fun j hj => by rw [p8_q_89]; exact hFF j hj) (by first | assumption | omega | decide) (by first | assumption | omega | decide) (by first | assumption | omega | decide)) (cwV 0 B.1.2.2.2.2 gX12_readSystem_X12_go rfl rfl rfl (by decide +kernel) ⟨Nat.le_of_ble_eq_true rfl, Nat.le_of_ble_eq_true rfl⟩) ha0 ka0 (by decide) rfl rfl rfl (Nat.le_of_ble_eq_true rfl) dX12_readSystem_197 (fun q_114 w_115 => ?_)
                  obtain ⟨hV_q_114, h2_q_114, h3_q_114, mN_q_114, hw_115⟩ := w_115
                  have hF_q_114 : sx_fr h L (fun a => h.1 a = 12 ∨ h.1 a = 226 ∨ h.1 a = 227 ∨ h.1 a = 128 ∨ h.1 a = 129) q q_114 := hF_q_89.tr (h2_q_114.mono (fun a (z : h.1 a = 12) => ((fun z => (Or.inl z)) z)))
                  have hK_q_114 : sx_kf a0 [6, 7, 8, 9, 11, 12, 13, 14, 15] q q_114 := hK_q_89.tr (h3_q_114.mono (by decide))
                  have mF_q_114 : mv_F m18 m19 q_114 := mv_F.eq (h2_q_114.G hm18 (show ¬ (h.1 m18 = 12) from (fun z => absurd (z.symm.trans km18) (by decide))) (by rw [km18]; decide)) (h2_q_114.G hm19 (show ¬ (h.1 m19 = 12) from (fun z => absurd (z.symm.trans km19) (by decide))) (by rw [km19]; decide)) mF_q_89
                  have mU_q_114 : mv_U m17 q_114 := mv_U.eq (h2_q_114.Lg hm17 (show ¬ (h.1 m17 = 12) from (fun z => absurd (z.symm.trans km17) (by decide))) (by rw [km17]; decide)) mU_q_89
                  rw [show (q_89.1 a0 6).toInt.toNat = pz_E F n9 A8 from (by omega)] at hw_115
                  obtain ⟨hT60, hT6⟩ := hw_115
                  have hT6p := hT6.1
                  refine wa_iconst B 1 dX12_readSystem_200 (by decide) ?_
                  have z_116 : q_114.1 a0 4 = (q.1 a0 4) := (h3_q_114.1 4 (by decide)).trans (p0_q_89)
                  have y_117 : (q_114.1 a0 4).toInt = (q.1 a0 4).toInt := by rw [z_116]
                  have y_118 : (q_114.1 a0 4).toInt = (q.1 a0 4).toInt := by rw [z_116]
                  have z_119 : q_114.2.2.2.2 m16 = (vp_updL (vp_updL (q.2.2.2.2 m16) ((3 + n1) : Int32).toNatClampNeg 0) ((3 + n1) : Int32).toNatClampNeg (q.2.1 a0 11)) := (h2_q_114.Lg hm16 (show ¬ (h.1 m16 = 12) from (fun z => absurd (z.symm.trans km16) (by decide))) (by rw [km16]; decide)).trans (p9_q_89)
                  have z_120 : q_114.2.2.2.2 m17 = q_89.2.2.2.2 m17 := h2_q_114.Lg hm17 (show ¬ (h.1 m17 = 12) from (fun z => absurd (z.symm.trans km17) (by decide))) (by rw [km17]; decide)
                  have z_121 : q_114.2.2.2.1 m18 = q_89.2.2.2.1 m18 := h2_q_114.G hm18 (show ¬ (h.1 m18 = 12) from (fun z => absurd (z.symm.trans km18) (by decide))) (by rw [km18]; decide)
                  have z_122 : q_114.2.2.2.1 m19 = q_89.2.2.2.1 m19 := h2_q_114.G hm19 (show ¬ (h.1 m19 = 12) from (fun z => absurd (z.symm.trans km19) (by decide))) (by rw [km19]; decide)
                  exact hret _ _ _ _ dX12_readSystem_201 (Or.inr rfl) ⟨hV_q_114, hF_q_114, hK_q_114, mN_q_114, mF_q_114, mU_q_114, (Or.inr ⟨rfl, by omega, by rw [z_119, z_120, z_121, z_122]; exact ⟨_, hT6, y5.2⟩⟩)⟩
                · refine wa_aload_n B dX12_readSystem_190 rfl 1 rfl ?_
                  refine wa_iconst B 1 dX12_readSystem_191 (by decide) ?_
                  refine wa_callVi B (x := (RX12, TX12, 51)) (As := [.int 1]) (rest := []) (k_X12_bad_c l dC dI h L hN q_89 hV_q_89 (a0 := a0) ha0 ka0 1  ) (cwV 1 B.1.2.2.2.2 gX12_readSystem_X12_bad rfl rfl rfl (by decide +kernel) ⟨Nat.le_of_ble_eq_true rfl, Nat.le_of_ble_eq_true rfl⟩) ha0 ka0 (by decide) rfl rfl rfl (Nat.le_of_ble_eq_true rfl) dX12_readSystem_192 (fun r_124 q_123 w_125 => ?_)
                  obtain ⟨hV_q_123, h2_q_123, h3_q_123, hw_125⟩ := w_125
                  have hF_q_123 : sx_fr h L (fun a => h.1 a = 12 ∨ h.1 a = 226 ∨ h.1 a = 227 ∨ h.1 a = 128 ∨ h.1 a = 129) q q_123 := hF_q_89.tr (h2_q_123.mono (fun a (z : h.1 a = 12) => ((fun z => (Or.inl z)) z)))
                  have hK_q_123 : sx_kf a0 [6, 7, 8, 9, 11, 12, 13, 14, 15] q q_123 := hK_q_89.tr (h3_q_123.mono (by decide))
                  have mN_q_123 : mv_N a0 q_123 := mv_N.eq (h3_q_123.1 8 (by decide)) (h3_q_123.2 11 (by decide)) mN_q_89
                  have mF_q_123 : mv_F m18 m19 q_123 := mv_F.eq (h2_q_123.G hm18 (show ¬ (h.1 m18 = 12) from (fun z => absurd (z.symm.trans km18) (by decide))) (by rw [km18]; decide)) (h2_q_123.G hm19 (show ¬ (h.1 m19 = 12) from (fun z => absurd (z.symm.trans km19) (by decide))) (by rw [km19]; decide)) mF_q_89
                  have mU_q_123 : mv_U m17 q_123 := mv_U.eq (h2_q_123.Lg hm17 (show ¬ (h.1 m17 = 12) from (fun z => absurd (z.symm.trans km17) (by decide))) (by rw [km17]; decide)) mU_q_89
                  have z_126 : q_123.1 a0 12 = q_89.1 a0 12 := h3_q_123.1 12 (by decide)
                  have y_127 : (q_123.1 a0 12).toInt = (q_89.1 a0 12).toInt := by rw [z_126]
                  have z_128 : q_123.1 a0 13 = q_89.1 a0 13 := h3_q_123.1 13 (by decide)
                  have y_129 : (q_123.1 a0 13).toInt = (q_89.1 a0 13).toInt := by rw [z_128]
                  have z_130 : q_123.1 a0 4 = (q.1 a0 4) := (h3_q_123.1 4 (by decide)).trans (p0_q_89)
                  have y_131 : (q_123.1 a0 4).toInt = (q.1 a0 4).toInt := by rw [z_130]
                  have z_132 : q_123.1 a0 6 = q_89.1 a0 6 := h3_q_123.1 6 (by decide)
                  have y_133 : (q_123.1 a0 6).toInt = (q_89.1 a0 6).toInt := by rw [z_132]
                  have z_134 : q_123.1 a0 7 = q_89.1 a0 7 := h3_q_123.1 7 (by decide)
                  have y_135 : (q_123.1 a0 7).toInt = (q_89.1 a0 7).toInt := by rw [z_134]
                  have z_136 : q_123.1 a0 8 = q_89.1 a0 8 := h3_q_123.1 8 (by decide)
                  have y_137 : (q_123.1 a0 8).toInt = (q_89.1 a0 8).toInt := by rw [z_136]
                  have z_138 : q_123.1 a0 9 = q_89.1 a0 9 := h3_q_123.1 9 (by decide)
                  have y_139 : (q_123.1 a0 9).toInt = (q_89.1 a0 9).toInt := by rw [z_138]
                  have y_140 : (q_123.1 a0 4).toInt = (q.1 a0 4).toInt := by rw [z_130]
                  have y_141 : (q_123.1 a0 6).toInt = (q_89.1 a0 6).toInt := by rw [z_132]
                  have y_142 : (q_123.1 a0 7).toInt = (q_89.1 a0 7).toInt := by rw [z_134]
                  exact hret _ _ _ _ dX12_readSystem_195 (zx_01 (by omega)) ⟨hV_q_123, hF_q_123, hK_q_123, mN_q_123, mF_q_123, mU_q_123, (Or.inl ⟨by omega, by omega, (rr_semi_bad hC8 hT8 (by omega) (hw_109.resolve_left (fun y => absurd y.1 (by omega))).2).trans (congrArg some (by omega))⟩)⟩
              · refine wa_aload_n B dX12_readSystem_96 rfl 1 rfl ?_
                refine wa_callVi B (x := (RX12, TX12, 51)) (As := []) (rest := []) (k_X12_isFactor_c l dC dI h L hN q_89 hV_q_89 (a0 := a0) ha0 ka0  ) (cwV 0 B.1.2.2.2.2 gX12_readSystem_X12_isFactor rfl rfl rfl (by decide +kernel) ⟨Nat.le_of_ble_eq_true rfl, Nat.le_of_ble_eq_true rfl⟩) ha0 ka0 (by decide) rfl rfl rfl (Nat.le_of_ble_eq_true rfl) dX12_readSystem_97 (fun r_144 q_143 w_145 => ?_)
                obtain ⟨ew_145, hw_145⟩ := w_145
                subst ew_145
                try simp only [p9_q_89] at hw_145
                refine wa_if_ne B 109 dX12_readSystem_100 (by decide) (fun (t_146 : ¬ r_144.toInt = 0) => ?_) (fun (t_146 : r_144.toInt = 0) => ?_)
                · refine wa_aload_n B dX12_readSystem_109 rfl 1 rfl ?_
                  refine wa_getR B (C := RX12) (T := TX12) (N := 51) iq_X12_readSystem_X12 ha0 ka0 (by decide) rfl 18 (by decide) (by decide) (by decide +kernel) rfl (fun _ _ _ => rfl) (v := m18) p6_q_89 dX12_readSystem_110 ?_
                  refine wa_iload_n B dX12_readSystem_113 rfl 0 rfl ?_
                  refine wa_iaload B hm18 km18 (by decide) (by decide) (show 0 ≤ (3 + n1).toInt by omega) (show (3 + n1).toInt < (h.2.1 m18 : Int) by omega) (v := (q_89.2.2.2.1 m18 ((3 + n1) : Int32).toNatClampNeg)) rfl dX12_readSystem_114 ?_
                  have g_147 : (0 : Int) ≤ ((q_89.2.2.2.1 m18 ((3 + n1) : Int32).toNatClampNeg)).toInt ∧ ((q_89.2.2.2.1 m18 ((3 + n1) : Int32).toNatClampNeg)).toInt ≤ 5 := hV_q_89.cnt hm18 km18 _
                  refine wa_iconst B 5 dX12_readSystem_115 (by decide) ?_
                  refine wa_icmp_ne B 125 dX12_readSystem_116 (by decide) (fun (t_148 : ¬ ((q_89.2.2.2.1 m18 ((3 + n1) : Int32).toNatClampNeg)).toInt = 5) => ?_) (fun (t_148 : ((q_89.2.2.2.1 m18 ((3 + n1) : Int32).toNatClampNeg)).toInt = 5) => ?_)
                  · refine wa_aload_n B dX12_readSystem_125 rfl 1 rfl ?_
                    refine wa_getR B (C := RX12) (T := TX12) (N := 51) iq_X12_readSystem_X12 ha0 ka0 (by decide) rfl 19 (by decide) (by decide) (by decide +kernel) rfl (fun _ _ _ => rfl) (v := m19) p7_q_89 dX12_readSystem_126 ?_
                    refine wa_iconst B 5 dX12_readSystem_129 (by decide) ?_
                    refine wa_iload_n B dX12_readSystem_130 rfl 0 rfl ?_
                    refine wa_imul B dX12_readSystem_131 (fun v_149 ev_149 => ?_)
                    refine wa_aload_n B dX12_readSystem_132 rfl 1 rfl ?_
                    refine wa_getR B (C := RX12) (T := TX12) (N := 51) iq_X12_readSystem_X12 ha0 ka0 (by decide) rfl 18 (by decide) (by decide) (by decide +kernel) rfl (fun _ _ _ => rfl) (v := m18) p6_q_89 dX12_readSystem_133 ?_
                    refine wa_iload_n B dX12_readSystem_136 rfl 0 rfl ?_
                    refine wa_iaload B hm18 km18 (by decide) (by decide) (show 0 ≤ (3 + n1).toInt by omega) (show (3 + n1).toInt < (h.2.1 m18 : Int) by omega) (v := (q_89.2.2.2.1 m18 ((3 + n1) : Int32).toNatClampNeg)) rfl dX12_readSystem_137 ?_
                    refine wa_iadd B dX12_readSystem_138 (fun v_150 ev_150 => ?_)
                    refine wa_aload_n B dX12_readSystem_139 rfl 1 rfl ?_
                    refine wa_getI B (C := RX12) (T := TX12) (N := 51) iq_X12_readSystem_X12 ha0 ka0 (by decide) rfl 13 (by decide) (by decide) (by decide +kernel) rfl (by decide) (v := (q_89.1 a0 13)) rfl dX12_readSystem_140 ?_
                    have g_151 : (-48 : Int) ≤ (q_89.1 a0 13).toInt ∧ (q_89.1 a0 13).toInt ≤ 207 := hV_q_89.int ha0 ka0 13
                    refine wa_iconst B (-1) dX12_readSystem_143 (by decide) ?_
                    refine wa_icmp_ne B 154 dX12_readSystem_144 (by decide) (fun (t_152 : ¬ (q_89.1 a0 13).toInt = (-1)) => ?_) (fun (t_152 : (q_89.1 a0 13).toInt = (-1)) => ?_)
                    · refine wa_bipush B 10 dX12_readSystem_154 (by decide) ?_
                      refine wa_aload_n B dX12_readSystem_156 rfl 1 rfl ?_
                      refine wa_getI B (C := RX12) (T := TX12) (N := 51) iq_X12_readSystem_X12 ha0 ka0 (by decide) rfl 12 (by decide) (by decide) (by decide +kernel) rfl (by decide) (v := (q_89.1 a0 12)) rfl dX12_readSystem_157 ?_
                      have g_153 : (-48 : Int) ≤ (q_89.1 a0 12).toInt ∧ (q_89.1 a0 12).toInt ≤ 207 := hV_q_89.int ha0 ka0 12
                      refine wa_imul B dX12_readSystem_160 (fun v_154 ev_154 => ?_)
                      refine wa_aload_n B dX12_readSystem_161 rfl 1 rfl ?_
                      refine wa_getI B (C := RX12) (T := TX12) (N := 51) iq_X12_readSystem_X12 ha0 ka0 (by decide) rfl 13 (by decide) (by decide) (by decide +kernel) rfl (by decide) (v := (q_89.1 a0 13)) rfl dX12_readSystem_162 ?_
                      refine wa_iadd B dX12_readSystem_165 (fun v_155 ev_155 => ?_)
                      have tv_154 : v_154.toInt = 10 * (q_89.1 a0 12).toInt := by have b1 := zx_bd (q_89.1 a0 12); rw [ev_154]; exact zx_mul (show (-2147483648 : Int) ≤ 10 * (q_89.1 a0 12).toInt by omega) (show 10 * (q_89.1 a0 12).toInt < (2147483648 : Int) by omega)
                      have tv_155 : v_155.toInt = v_154.toInt + (q_89.1 a0 13).toInt := by have b0 := zx_bd v_154; have b1 := zx_bd (q_89.1 a0 13); rw [ev_155]; exact zx_add (show (-2147483648 : Int) ≤ v_154.toInt + (q_89.1 a0 13).toInt by omega) (show v_154.toInt + (q_89.1 a0 13).toInt < (2147483648 : Int) by omega)
                      have tv_149 : v_149.toInt = 5 * (3 + n1).toInt := by have b1 := zx_bd (3 + n1); rw [ev_149]; exact zx_mul (show (-2147483648 : Int) ≤ 5 * (3 + n1).toInt by omega) (show 5 * (3 + n1).toInt < (2147483648 : Int) by omega)
                      have tv_150 : v_150.toInt = v_149.toInt + ((q_89.2.2.2.1 m18 ((3 + n1) : Int32).toNatClampNeg)).toInt := by have b0 := zx_bd v_149; have b1 := zx_bd ((q_89.2.2.2.1 m18 ((3 + n1) : Int32).toNatClampNeg)); rw [ev_150]; exact zx_add (show (-2147483648 : Int) ≤ v_149.toInt + ((q_89.2.2.2.1 m18 ((3 + n1) : Int32).toNatClampNeg)).toInt by omega) (show v_149.toInt + ((q_89.2.2.2.1 m18 ((3 + n1) : Int32).toNatClampNeg)).toInt < (2147483648 : Int) by omega)
                      refine wa_iastore B hm19 km19 (by decide) (by decide) (show 0 ≤ v_150.toInt by omega) (show v_150.toInt < (h.2.1 m19 : Int) by omega) dX12_readSystem_166 (fun q_156 eq_156 => ?_)
                      have hV_q_156 : sx_V h L q_156 := by rw [eq_156]; exact hV_q_89.up1 hm19 km19 trivial
                      have hF_q_156 : sx_fr h L (fun a => h.1 a = 12 ∨ h.1 a = 226 ∨ h.1 a = 227 ∨ h.1 a = 128 ∨ h.1 a = 129) q q_156 := hF_q_89.tr (by rw [eq_156]; exact sx_fr.pG (show h.1 m19 = 100 ∨ (h.1 m19 = 12 ∨ h.1 m19 = 226 ∨ h.1 m19 = 227 ∨ h.1 m19 = 128 ∨ h.1 m19 = 129) from Or.inr (Or.inr (Or.inr (Or.inr (Or.inr km19))))))
                      have z_157 : q_156.2.2.2.1 m19 = (upd (q_89.2.2.2.1 m19) (v_150 : Int32).toNatClampNeg v_155) := by rw [eq_156, sg_pG_e]
                      have z_158 : q_156.2.2.2.1 m19 (v_150 : Int32).toNatClampNeg = v_155 := by rw [eq_156, sg_pG_e]; exact if_pos rfl
                      have hK_q_156 : sx_kf a0 [6, 7, 8, 9, 11, 12, 13, 14, 15] q q_156 := hK_q_89.tr (sx_kf.eq (by rw [eq_156]; rfl) (by rw [eq_156]; rfl))
                      have mN_q_156 : mv_N a0 q_156 := mv_N.eq ((show q_156.1 a0 8 = q_89.1 a0 8 from by rw [eq_156]; rfl)) ((show q_156.2.1 a0 11 = q_89.2.1 a0 11 from by rw [eq_156]; rfl)) mN_q_89
                      have mF_q_156 : mv_F m18 m19 q_156 := mv_f.F (mv_f.new (s0 := (3 + n1 : Int32).toNatClampNeg) (i := (v_150 : Int32).toNatClampNeg) ((mF_q_89).f rfl rfl) (fun j => (hV_q_89.cnt hm18 km18 j : sx_in _ 0 5).2) (by omega) (by omega) (by have a9 := zx_nc (3 + n1); have a8 := zx_nc v_150; omega)) ((show q_156.2.2.2.1 m18 = q_89.2.2.2.1 m18 from by rw [eq_156]; exact sg_pG_a (sx_ka h km18 km19 (by decide)))) (show q_156.2.2.2.1 m19 = _ from by rw [eq_156]; exact sg_pG_e)
                      have mU_q_156 : mv_U m17 q_156 := mv_U.eq ((show q_156.2.2.2.2 m17 = q_89.2.2.2.2 m17 from by rw [eq_156]; rfl)) mU_q_89
                      have y5 := rr_fac (FA' := (upd (q_89.2.2.2.1 m19) (v_150 : Int32).toNatClampNeg v_155)) hC8 hT8 (by omega) (v := v_155) (by omega) (j := n1.toInt.toNat) (i := (v_150 : Int32).toNatClampNeg) rfl ⟨by omega, by rw [← e3]; omega⟩ (by have a9 := zx_nc v_150; rw [← e3]; omega) rfl
                      refine wa_aload_n B dX12_readSystem_167 rfl 1 rfl ?_
                      have z_159 : q_156.2.2.1 a0 3 = m3 := ((show q_156.2.2.1 a0 3 = q_89.2.2.1 a0 3 from by rw [eq_156]; rfl)).trans (p3_q_89)
                      have z_160 : q_156.1 a0 5 = (q.1 a0 5) := ((show q_156.1 a0 5 = q_89.1 a0 5 from by rw [eq_156]; rfl)).trans (p1_q_89)
                      have y_161 : (q_156.1 a0 5).toInt = (q.1 a0 5).toInt := by rw [z_160]
                      have z_162 : q_156.1 a0 4 = (q.1 a0 4) := ((show q_156.1 a0 4 = q_89.1 a0 4 from by rw [eq_156]; rfl)).trans (p0_q_89)
                      have y_163 : (q_156.1 a0 4).toInt = (q.1 a0 4).toInt := by rw [z_162]
                      have z_164 : q_156.1 a0 6 = q_89.1 a0 6 := (show q_156.1 a0 6 = q_89.1 a0 6 from by rw [eq_156]; rfl)
                      have y_165 : (q_156.1 a0 6).toInt = (q_89.1 a0 6).toInt := by rw [z_164]
                      have z_166 : q_156.1 a0 10 = (q.1 a0 10) := ((show q_156.1 a0 10 = q_89.1 a0 10 from by rw [eq_156]; rfl)).trans (p2_q_89)
                      have y_167 : (q_156.1 a0 10).toInt = (q.1 a0 10).toInt := by rw [z_166]
                      have z_168 : q_156.2.2.2.1 m3 = (q.2.2.2.1 m3) := ((show q_156.2.2.2.1 m3 = q_89.2.2.2.1 m3 from by rw [eq_156]; exact sg_pG_a (sx_ka h km3 km19 (by decide)))).trans (p8_q_89)
                      refine wa_callVv B (x := (RX12, TX12, 51)) (As := []) (rest := []) (k_X12_go_c l dC dI h L hN q_156 hV_q_156 (a0 := a0) ha0 ka0 (m3 := m3) z_159 F n9 (by first | assumption | omega | decide) (fun j hj => by rw [z_168]; exact hFF j hj) (by first | assumption | omega | decide) (by first | assumption | omega | decide) (by first | assumption | omega | decide)) (cwV 0 B.1.2.2.2.2 gX12_readSystem_X12_go rfl rfl rfl (by decide +kernel) ⟨Nat.le_of_ble_eq_true rfl, Nat.le_of_ble_eq_true rfl⟩) ha0 ka0 (by decide) rfl rfl rfl (Nat.le_of_ble_eq_true rfl) dX12_readSystem_168 (fun q_169 w_170 => ?_)
                      obtain ⟨hV_q_169, h2_q_169, h3_q_169, mN_q_169, hw_170⟩ := w_170
                      have hF_q_169 : sx_fr h L (fun a => h.1 a = 12 ∨ h.1 a = 226 ∨ h.1 a = 227 ∨ h.1 a = 128 ∨ h.1 a = 129) q q_169 := hF_q_156.tr (h2_q_169.mono (fun a (z : h.1 a = 12) => ((fun z => (Or.inl z)) z)))
                      have hK_q_169 : sx_kf a0 [6, 7, 8, 9, 11, 12, 13, 14, 15] q q_169 := hK_q_156.tr (h3_q_169.mono (by decide))
                      have mF_q_169 : mv_F m18 m19 q_169 := mv_F.eq (h2_q_169.G hm18 (show ¬ (h.1 m18 = 12) from (fun z => absurd (z.symm.trans km18) (by decide))) (by rw [km18]; decide)) (h2_q_169.G hm19 (show ¬ (h.1 m19 = 12) from (fun z => absurd (z.symm.trans km19) (by decide))) (by rw [km19]; decide)) mF_q_156
                      have mU_q_169 : mv_U m17 q_169 := mv_U.eq (h2_q_169.Lg hm17 (show ¬ (h.1 m17 = 12) from (fun z => absurd (z.symm.trans km17) (by decide))) (by rw [km17]; decide)) mU_q_156
                      rw [show (q_156.1 a0 6).toInt.toNat = pz_E F n9 A8 from (by omega)] at hw_170
                      obtain ⟨hT50, hT5⟩ := hw_170
                      have hT5p := hT5.1
                      refine wa_aload_n B dX12_readSystem_171 rfl 1 rfl ?_
                      refine wa_iload_n B dX12_readSystem_172 rfl 2 rfl ?_
                      have z_171 : q_169.2.2.2.1 m18 ((3 + n1) : Int32).toNatClampNeg = (q_89.2.2.2.1 m18 ((3 + n1) : Int32).toNatClampNeg) := (congrFun ((h2_q_169.G hm18 (show ¬ (h.1 m18 = 12) from (fun z => absurd (z.symm.trans km18) (by decide))) (by rw [km18]; decide)).trans ((show q_156.2.2.2.1 m18 = q_89.2.2.2.1 m18 from by rw [eq_156]; exact sg_pG_a (sx_ka h km18 km19 (by decide))))) _).trans rfl
                      have y_172 : (q_169.2.2.2.1 m18 (3 + n1).toNatClampNeg).toInt = ((q_89.2.2.2.1 m18 ((3 + n1) : Int32).toNatClampNeg)).toInt := by rw [z_171]
                      have z_173 : q_169.2.2.1 a0 3 = m3 := (h2_q_169.R ha0 (fun z9 => absurd z9.2 (by omega)) 3).trans (z_159)
                      have z_174 : q_169.2.2.1 a0 16 = m16 := (h2_q_169.R ha0 (fun z9 => absurd z9.2 (by omega)) 16).trans (((show q_156.2.2.1 a0 16 = q_89.2.2.1 a0 16 from by rw [eq_156]; rfl)).trans (p4_q_89))
                      have z_175 : q_169.2.2.1 a0 17 = m17 := (h2_q_169.R ha0 (fun z9 => absurd z9.2 (by omega)) 17).trans (((show q_156.2.2.1 a0 17 = q_89.2.2.1 a0 17 from by rw [eq_156]; rfl)).trans (p5_q_89))
                      have z_176 : q_169.2.2.1 a0 18 = m18 := (h2_q_169.R ha0 (fun z9 => absurd z9.2 (by omega)) 18).trans (((show q_156.2.2.1 a0 18 = q_89.2.2.1 a0 18 from by rw [eq_156]; rfl)).trans (p6_q_89))
                      have z_177 : q_169.2.2.1 a0 19 = m19 := (h2_q_169.R ha0 (fun z9 => absurd z9.2 (by omega)) 19).trans (((show q_156.2.2.1 a0 19 = q_89.2.2.1 a0 19 from by rw [eq_156]; rfl)).trans (p7_q_89))
                      have z_178 : q_169.1 a0 10 = (q.1 a0 10) := (h3_q_169.1 10 (by decide)).trans (z_166)
                      have y_179 : (q_169.1 a0 10).toInt = (q.1 a0 10).toInt := by rw [z_178]
                      have z_180 : q_169.1 a0 5 = (q.1 a0 5) := (h3_q_169.1 5 (by decide)).trans (z_160)
                      have y_181 : (q_169.1 a0 5).toInt = (q.1 a0 5).toInt := by rw [z_180]
                      have z_182 : q_169.1 a0 4 = (q.1 a0 4) := (h3_q_169.1 4 (by decide)).trans (z_162)
                      have y_183 : (q_169.1 a0 4).toInt = (q.1 a0 4).toInt := by rw [z_182]
                      have z_184 : q_169.2.2.2.1 m19 (v_150 : Int32).toNatClampNeg = v_155 := (congrFun (h2_q_169.G hm19 (show ¬ (h.1 m19 = 12) from (fun z => absurd (z.symm.trans km19) (by decide))) (by rw [km19]; decide)) _).trans z_158
                      have z_185 : q_169.2.2.2.1 m3 = (q.2.2.2.1 m3) := (h2_q_169.G hm3 (show ¬ (h.1 m3 = 12) from (fun z => absurd (z.symm.trans km3) (by decide))) (by rw [km3]; decide)).trans (z_168)
                      have z_186 : q_169.2.2.2.2 m16 = (vp_updL (vp_updL (q.2.2.2.2 m16) ((3 + n1) : Int32).toNatClampNeg 0) ((3 + n1) : Int32).toNatClampNeg (q.2.1 a0 11)) := (h2_q_169.Lg hm16 (show ¬ (h.1 m16 = 12) from (fun z => absurd (z.symm.trans km16) (by decide))) (by rw [km16]; decide)).trans (((show q_156.2.2.2.2 m16 = q_89.2.2.2.2 m16 from by rw [eq_156]; rfl)).trans (p9_q_89))
                      have z_187 : q_169.2.2.2.2 m17 = q_89.2.2.2.2 m17 := (h2_q_169.Lg hm17 (show ¬ (h.1 m17 = 12) from (fun z => absurd (z.symm.trans km17) (by decide))) (by rw [km17]; decide)).trans ((show q_156.2.2.2.2 m17 = q_89.2.2.2.2 m17 from by rw [eq_156]; rfl))
                      have z_188 : q_169.2.2.2.1 m18 = q_89.2.2.2.1 m18 := (h2_q_169.G hm18 (show ¬ (h.1 m18 = 12) from (fun z => absurd (z.symm.trans km18) (by decide))) (by rw [km18]; decide)).trans ((show q_156.2.2.2.1 m18 = q_89.2.2.2.1 m18 from by rw [eq_156]; exact sg_pG_a (sx_ka h km18 km19 (by decide))))
                      have z_189 : q_169.2.2.2.1 m19 = (upd (q_89.2.2.2.1 m19) (v_150 : Int32).toNatClampNeg v_155) := (h2_q_169.G hm19 (show ¬ (h.1 m19 = 12) from (fun z => absurd (z.symm.trans km19) (by decide))) (by rw [km19]; decide)).trans (z_157)
                      refine wa_callVi B (x := (RX12, TX12, 51)) (As := [.int n1]) (rest := []) (k_X12_readUnit_c l dC dI h L hN q_169 hV_q_169 (a0 := a0) ha0 ka0 n1 (m3 := m3) z_173 (m16 := m16) z_174 (m17 := m17) z_175 (m18 := m18) z_176 (m19 := m19) z_177 mN_q_169 mF_q_169 mU_q_169 F n9 R9 (by first | assumption | omega | decide) (by first | assumption | omega | decide) (by rw [z_171]; omega) (Or.inr (by rw [z_171]; rw [show 5 * (3 + n1 : Int32).toNatClampNeg + ((q_89.2.2.2.1 m18 ((3 + n1) : Int32).toNatClampNeg)).toInt.toNat = (v_150 : Int32).toNatClampNeg from by have a9 := zx_nc (3 + n1); have a8 := zx_nc v_150; omega, z_184]; omega)) (by first | assumption | omega | decide) (fun j hj => by rw [z_185]; exact hFF j hj) (by first | assumption | omega | decide) (by first | assumption | omega | decide) (by first | assumption | omega | decide) (by rw [z_186, z_187, z_188, z_189]; exact ⟨_, hT5, y5.2⟩)) (cwV 1 B.1.2.2.2.2 gX12_readSystem_X12_readUnit rfl rfl rfl (by decide +kernel) ⟨Nat.le_of_ble_eq_true rfl, Nat.le_of_ble_eq_true rfl⟩) ha0 ka0 (by decide) rfl rfl rfl (Nat.le_of_ble_eq_true rfl) dX12_readSystem_173 (fun r_191 q_190 w_192 => ?_)
                      obtain ⟨hV_q_190, h2_q_190, h3_q_190, mN_q_190, mF_q_190, mU_q_190, hw_192⟩ := w_192
                      have hF_q_190 : sx_fr h L (fun a => h.1 a = 12 ∨ h.1 a = 226 ∨ h.1 a = 227 ∨ h.1 a = 128 ∨ h.1 a = 129) q q_190 := hF_q_169.tr (h2_q_190.mono (fun a (z : h.1 a = 12 ∨ h.1 a = 227 ∨ h.1 a = 128) => ((fun z => z.elim (fun z => (Or.inl z)) (fun z => z.elim (fun z => (Or.inr (Or.inr (Or.inl z)))) (fun z => (Or.inr (Or.inr (Or.inr (Or.inl z))))))) z)))
                      have hK_q_190 : sx_kf a0 [6, 7, 8, 9, 11, 12, 13, 14, 15] q q_190 := hK_q_169.tr (h3_q_190.mono (by decide))
                      have z_193 : q_190.1 a0 4 = (q.1 a0 4) := (h3_q_190.1 4 (by decide)).trans (z_182)
                      have k_194 := hw_192.2
                      refine wa_if_ne B 88 dX12_readSystem_176 (by decide) (fun (t_195 : ¬ r_191.toInt = 0) => ?_) (fun (t_195 : r_191.toInt = 0) => ?_)
                      · have y_196 : (q_190.1 a0 4).toInt = (q.1 a0 4).toInt := by rw [z_193]
                        have z_197 : q_190.1 a0 5 = (q.1 a0 5) := (h3_q_190.1 5 (by decide)).trans (z_180)
                        have z_198 : q_190.1 a0 10 = (q.1 a0 10) := (h3_q_190.1 10 (by decide)).trans (z_178)
                        have z_199 : q_190.2.2.1 a0 3 = m3 := (h2_q_190.R ha0 (fun z9 => absurd z9.2 (by omega)) 3).trans (z_173)
                        have z_200 : q_190.2.2.1 a0 16 = m16 := (h2_q_190.R ha0 (fun z9 => absurd z9.2 (by omega)) 16).trans (z_174)
                        have z_201 : q_190.2.2.1 a0 17 = m17 := (h2_q_190.R ha0 (fun z9 => absurd z9.2 (by omega)) 17).trans (z_175)
                        have z_202 : q_190.2.2.1 a0 18 = m18 := (h2_q_190.R ha0 (fun z9 => absurd z9.2 (by omega)) 18).trans (z_176)
                        have z_203 : q_190.2.2.1 a0 19 = m19 := (h2_q_190.R ha0 (fun z9 => absurd z9.2 (by omega)) 19).trans (z_177)
                        have z_204 : q_190.2.2.2.1 m3 = (q.2.2.2.1 m3) := (h2_q_190.G hm3 (show ¬ (h.1 m3 = 12 ∨ h.1 m3 = 227 ∨ h.1 m3 = 128) from (fun z => z.elim (fun z => absurd (z.symm.trans km3) (by decide)) (fun z => z.elim (fun z => absurd (z.symm.trans km3) (by decide)) (fun z => absurd (z.symm.trans km3) (by decide))))) (by rw [km3]; decide)).trans (z_185)
                        have z_205 : q_190.2.2.2.2 m16 = (vp_updL (vp_updL (q.2.2.2.2 m16) ((3 + n1) : Int32).toNatClampNeg 0) ((3 + n1) : Int32).toNatClampNeg (q.2.1 a0 11)) := (h2_q_190.Lg hm16 (show ¬ (h.1 m16 = 12 ∨ h.1 m16 = 227 ∨ h.1 m16 = 128) from (fun z => z.elim (fun z => absurd (z.symm.trans km16) (by decide)) (fun z => z.elim (fun z => absurd (z.symm.trans km16) (by decide)) (fun z => absurd (z.symm.trans km16) (by decide))))) (by rw [km16]; decide)).trans (z_186)
                        exact ih_104 q_190 hV_q_190 hF_q_190 hK_q_190 mN_q_190 mF_q_190 mU_q_190 z_193 z_197 z_198 z_199 z_200 z_201 z_202 z_203 z_204 z_205 (show (q_190.1 a0 6).toInt ≤ (q_190.1 a0 4).toInt from by have y7 := (hw_192.2.resolve_left (fun y => absurd y.1 (by omega))).2.1; omega) (show rs_P F n9 R9 4 (n1.toInt.toNat + 1) (q_190.1 a0 8) (q_190.1 a0 9) (q_190.1 a0 7) (q_190.1 a0 6) (q_190.1 a0 12) (q_190.1 a0 13) (q_190.2.1 a0 11) (q_190.2.2.2.2 m16) (q_190.2.2.2.2 m17) (q_190.2.2.2.1 m18) (q_190.2.2.2.1 m19) from by exact (hw_192.2.resolve_left (fun y => absurd y.1 (by omega))).2.2) (show (5 - (q_190.2.2.2.1 m18 (3 + n1).toNatClampNeg).toInt : Int).toNat < _ from by omega)
                      · refine wa_iconst B 0 dX12_readSystem_179 (by decide) ?_
                        have y_206 : (q_190.1 a0 4).toInt = (q.1 a0 4).toInt := by rw [z_193]
                        have y_207 : (q_190.1 a0 4).toInt = (q.1 a0 4).toInt := by rw [z_193]
                        exact hret _ _ _ _ dX12_readSystem_180 (Or.inl rfl) ⟨hV_q_190, hF_q_190, hK_q_190, mN_q_190, mF_q_190, mU_q_190, (Or.inl ⟨rfl, (hw_192.2.resolve_right (fun y => absurd y.1 (by omega))).2⟩)⟩
                    · refine wa_aload_n B dX12_readSystem_147 rfl 1 rfl ?_
                      refine wa_getI B (C := RX12) (T := TX12) (N := 51) iq_X12_readSystem_X12 ha0 ka0 (by decide) rfl 12 (by decide) (by decide) (by decide +kernel) rfl (by decide) (v := (q_89.1 a0 12)) rfl dX12_readSystem_148 ?_
                      have g_208 : (-48 : Int) ≤ (q_89.1 a0 12).toInt ∧ (q_89.1 a0 12).toInt ≤ 207 := hV_q_89.int ha0 ka0 12
                      refine wa_goto B 166 dX12_readSystem_151 (by decide) ?_
                      have tv_149 : v_149.toInt = 5 * (3 + n1).toInt := by have b1 := zx_bd (3 + n1); rw [ev_149]; exact zx_mul (show (-2147483648 : Int) ≤ 5 * (3 + n1).toInt by omega) (show 5 * (3 + n1).toInt < (2147483648 : Int) by omega)
                      have tv_150 : v_150.toInt = v_149.toInt + ((q_89.2.2.2.1 m18 ((3 + n1) : Int32).toNatClampNeg)).toInt := by have b0 := zx_bd v_149; have b1 := zx_bd ((q_89.2.2.2.1 m18 ((3 + n1) : Int32).toNatClampNeg)); rw [ev_150]; exact zx_add (show (-2147483648 : Int) ≤ v_149.toInt + ((q_89.2.2.2.1 m18 ((3 + n1) : Int32).toNatClampNeg)).toInt by omega) (show v_149.toInt + ((q_89.2.2.2.1 m18 ((3 + n1) : Int32).toNatClampNeg)).toInt < (2147483648 : Int) by omega)
                      refine wa_iastore B hm19 km19 (by decide) (by decide) (show 0 ≤ v_150.toInt by omega) (show v_150.toInt < (h.2.1 m19 : Int) by omega) dX12_readSystem_166 (fun q_209 eq_209 => ?_)
                      have hV_q_209 : sx_V h L q_209 := by rw [eq_209]; exact hV_q_89.up1 hm19 km19 trivial
                      have hF_q_209 : sx_fr h L (fun a => h.1 a = 12 ∨ h.1 a = 226 ∨ h.1 a = 227 ∨ h.1 a = 128 ∨ h.1 a = 129) q q_209 := hF_q_89.tr (by rw [eq_209]; exact sx_fr.pG (show h.1 m19 = 100 ∨ (h.1 m19 = 12 ∨ h.1 m19 = 226 ∨ h.1 m19 = 227 ∨ h.1 m19 = 128 ∨ h.1 m19 = 129) from Or.inr (Or.inr (Or.inr (Or.inr (Or.inr km19))))))
                      have z_210 : q_209.2.2.2.1 m19 = (upd (q_89.2.2.2.1 m19) (v_150 : Int32).toNatClampNeg (q_89.1 a0 12)) := by rw [eq_209, sg_pG_e]
                      have z_211 : q_209.2.2.2.1 m19 (v_150 : Int32).toNatClampNeg = (q_89.1 a0 12) := by rw [eq_209, sg_pG_e]; exact if_pos rfl
                      have hK_q_209 : sx_kf a0 [6, 7, 8, 9, 11, 12, 13, 14, 15] q q_209 := hK_q_89.tr (sx_kf.eq (by rw [eq_209]; rfl) (by rw [eq_209]; rfl))
                      have mN_q_209 : mv_N a0 q_209 := mv_N.eq ((show q_209.1 a0 8 = q_89.1 a0 8 from by rw [eq_209]; rfl)) ((show q_209.2.1 a0 11 = q_89.2.1 a0 11 from by rw [eq_209]; rfl)) mN_q_89
                      have mF_q_209 : mv_F m18 m19 q_209 := mv_f.F (mv_f.new (s0 := (3 + n1 : Int32).toNatClampNeg) (i := (v_150 : Int32).toNatClampNeg) ((mF_q_89).f rfl rfl) (fun j => (hV_q_89.cnt hm18 km18 j : sx_in _ 0 5).2) (by omega) (by omega) (by have a9 := zx_nc (3 + n1); have a8 := zx_nc v_150; omega)) ((show q_209.2.2.2.1 m18 = q_89.2.2.2.1 m18 from by rw [eq_209]; exact sg_pG_a (sx_ka h km18 km19 (by decide)))) (show q_209.2.2.2.1 m19 = _ from by rw [eq_209]; exact sg_pG_e)
                      have mU_q_209 : mv_U m17 q_209 := mv_U.eq ((show q_209.2.2.2.2 m17 = q_89.2.2.2.2 m17 from by rw [eq_209]; rfl)) mU_q_89
                      have y5 := rr_fac (FA' := (upd (q_89.2.2.2.1 m19) (v_150 : Int32).toNatClampNeg (q_89.1 a0 12))) hC8 hT8 (by omega) (v := (q_89.1 a0 12)) (by omega) (j := n1.toInt.toNat) (i := (v_150 : Int32).toNatClampNeg) rfl ⟨by omega, by rw [← e3]; omega⟩ (by have a9 := zx_nc v_150; rw [← e3]; omega) rfl
                      refine wa_aload_n B dX12_readSystem_167 rfl 1 rfl ?_
                      have z_212 : q_209.2.2.1 a0 3 = m3 := ((show q_209.2.2.1 a0 3 = q_89.2.2.1 a0 3 from by rw [eq_209]; rfl)).trans (p3_q_89)
                      have z_213 : q_209.1 a0 5 = (q.1 a0 5) := ((show q_209.1 a0 5 = q_89.1 a0 5 from by rw [eq_209]; rfl)).trans (p1_q_89)
                      have y_214 : (q_209.1 a0 5).toInt = (q.1 a0 5).toInt := by rw [z_213]
                      have z_215 : q_209.1 a0 4 = (q.1 a0 4) := ((show q_209.1 a0 4 = q_89.1 a0 4 from by rw [eq_209]; rfl)).trans (p0_q_89)
                      have y_216 : (q_209.1 a0 4).toInt = (q.1 a0 4).toInt := by rw [z_215]
                      have z_217 : q_209.1 a0 6 = q_89.1 a0 6 := (show q_209.1 a0 6 = q_89.1 a0 6 from by rw [eq_209]; rfl)
                      have y_218 : (q_209.1 a0 6).toInt = (q_89.1 a0 6).toInt := by rw [z_217]
                      have z_219 : q_209.1 a0 10 = (q.1 a0 10) := ((show q_209.1 a0 10 = q_89.1 a0 10 from by rw [eq_209]; rfl)).trans (p2_q_89)
                      have y_220 : (q_209.1 a0 10).toInt = (q.1 a0 10).toInt := by rw [z_219]
                      have z_221 : q_209.2.2.2.1 m3 = (q.2.2.2.1 m3) := ((show q_209.2.2.2.1 m3 = q_89.2.2.2.1 m3 from by rw [eq_209]; exact sg_pG_a (sx_ka h km3 km19 (by decide)))).trans (p8_q_89)
                      refine wa_callVv B (x := (RX12, TX12, 51)) (As := []) (rest := []) (k_X12_go_c l dC dI h L hN q_209 hV_q_209 (a0 := a0) ha0 ka0 (m3 := m3) z_212 F n9 (by first | assumption | omega | decide) (fun j hj => by rw [z_221]; exact hFF j hj) (by first | assumption | omega | decide) (by first | assumption | omega | decide) (by first | assumption | omega | decide)) (cwV 0 B.1.2.2.2.2 gX12_readSystem_X12_go rfl rfl rfl (by decide +kernel) ⟨Nat.le_of_ble_eq_true rfl, Nat.le_of_ble_eq_true rfl⟩) ha0 ka0 (by decide) rfl rfl rfl (Nat.le_of_ble_eq_true rfl) dX12_readSystem_168 (fun q_222 w_223 => ?_)
                      obtain ⟨hV_q_222, h2_q_222, h3_q_222, mN_q_222, hw_223⟩ := w_223
                      have hF_q_222 : sx_fr h L (fun a => h.1 a = 12 ∨ h.1 a = 226 ∨ h.1 a = 227 ∨ h.1 a = 128 ∨ h.1 a = 129) q q_222 := hF_q_209.tr (h2_q_222.mono (fun a (z : h.1 a = 12) => ((fun z => (Or.inl z)) z)))
                      have hK_q_222 : sx_kf a0 [6, 7, 8, 9, 11, 12, 13, 14, 15] q q_222 := hK_q_209.tr (h3_q_222.mono (by decide))
                      have mF_q_222 : mv_F m18 m19 q_222 := mv_F.eq (h2_q_222.G hm18 (show ¬ (h.1 m18 = 12) from (fun z => absurd (z.symm.trans km18) (by decide))) (by rw [km18]; decide)) (h2_q_222.G hm19 (show ¬ (h.1 m19 = 12) from (fun z => absurd (z.symm.trans km19) (by decide))) (by rw [km19]; decide)) mF_q_209
                      have mU_q_222 : mv_U m17 q_222 := mv_U.eq (h2_q_222.Lg hm17 (show ¬ (h.1 m17 = 12) from (fun z => absurd (z.symm.trans km17) (by decide))) (by rw [km17]; decide)) mU_q_209
                      rw [show (q_209.1 a0 6).toInt.toNat = pz_E F n9 A8 from (by omega)] at hw_223
                      obtain ⟨hT50, hT5⟩ := hw_223
                      have hT5p := hT5.1
                      refine wa_aload_n B dX12_readSystem_171 rfl 1 rfl ?_
                      refine wa_iload_n B dX12_readSystem_172 rfl 2 rfl ?_
                      have z_224 : q_222.2.2.2.1 m18 ((3 + n1) : Int32).toNatClampNeg = (q_89.2.2.2.1 m18 ((3 + n1) : Int32).toNatClampNeg) := (congrFun ((h2_q_222.G hm18 (show ¬ (h.1 m18 = 12) from (fun z => absurd (z.symm.trans km18) (by decide))) (by rw [km18]; decide)).trans ((show q_209.2.2.2.1 m18 = q_89.2.2.2.1 m18 from by rw [eq_209]; exact sg_pG_a (sx_ka h km18 km19 (by decide))))) _).trans rfl
                      have y_225 : (q_222.2.2.2.1 m18 (3 + n1).toNatClampNeg).toInt = ((q_89.2.2.2.1 m18 ((3 + n1) : Int32).toNatClampNeg)).toInt := by rw [z_224]
                      have z_226 : q_222.2.2.1 a0 3 = m3 := (h2_q_222.R ha0 (fun z9 => absurd z9.2 (by omega)) 3).trans (z_212)
                      have z_227 : q_222.2.2.1 a0 16 = m16 := (h2_q_222.R ha0 (fun z9 => absurd z9.2 (by omega)) 16).trans (((show q_209.2.2.1 a0 16 = q_89.2.2.1 a0 16 from by rw [eq_209]; rfl)).trans (p4_q_89))
                      have z_228 : q_222.2.2.1 a0 17 = m17 := (h2_q_222.R ha0 (fun z9 => absurd z9.2 (by omega)) 17).trans (((show q_209.2.2.1 a0 17 = q_89.2.2.1 a0 17 from by rw [eq_209]; rfl)).trans (p5_q_89))
                      have z_229 : q_222.2.2.1 a0 18 = m18 := (h2_q_222.R ha0 (fun z9 => absurd z9.2 (by omega)) 18).trans (((show q_209.2.2.1 a0 18 = q_89.2.2.1 a0 18 from by rw [eq_209]; rfl)).trans (p6_q_89))
                      have z_230 : q_222.2.2.1 a0 19 = m19 := (h2_q_222.R ha0 (fun z9 => absurd z9.2 (by omega)) 19).trans (((show q_209.2.2.1 a0 19 = q_89.2.2.1 a0 19 from by rw [eq_209]; rfl)).trans (p7_q_89))
                      have z_231 : q_222.1 a0 10 = (q.1 a0 10) := (h3_q_222.1 10 (by decide)).trans (z_219)
                      have y_232 : (q_222.1 a0 10).toInt = (q.1 a0 10).toInt := by rw [z_231]
                      have z_233 : q_222.1 a0 5 = (q.1 a0 5) := (h3_q_222.1 5 (by decide)).trans (z_213)
                      have y_234 : (q_222.1 a0 5).toInt = (q.1 a0 5).toInt := by rw [z_233]
                      have z_235 : q_222.1 a0 4 = (q.1 a0 4) := (h3_q_222.1 4 (by decide)).trans (z_215)
                      have y_236 : (q_222.1 a0 4).toInt = (q.1 a0 4).toInt := by rw [z_235]
                      have z_237 : q_222.2.2.2.1 m19 (v_150 : Int32).toNatClampNeg = (q_89.1 a0 12) := (congrFun (h2_q_222.G hm19 (show ¬ (h.1 m19 = 12) from (fun z => absurd (z.symm.trans km19) (by decide))) (by rw [km19]; decide)) _).trans z_211
                      have z_238 : q_222.2.2.2.1 m3 = (q.2.2.2.1 m3) := (h2_q_222.G hm3 (show ¬ (h.1 m3 = 12) from (fun z => absurd (z.symm.trans km3) (by decide))) (by rw [km3]; decide)).trans (z_221)
                      have z_239 : q_222.2.2.2.2 m16 = (vp_updL (vp_updL (q.2.2.2.2 m16) ((3 + n1) : Int32).toNatClampNeg 0) ((3 + n1) : Int32).toNatClampNeg (q.2.1 a0 11)) := (h2_q_222.Lg hm16 (show ¬ (h.1 m16 = 12) from (fun z => absurd (z.symm.trans km16) (by decide))) (by rw [km16]; decide)).trans (((show q_209.2.2.2.2 m16 = q_89.2.2.2.2 m16 from by rw [eq_209]; rfl)).trans (p9_q_89))
                      have z_240 : q_222.2.2.2.2 m17 = q_89.2.2.2.2 m17 := (h2_q_222.Lg hm17 (show ¬ (h.1 m17 = 12) from (fun z => absurd (z.symm.trans km17) (by decide))) (by rw [km17]; decide)).trans ((show q_209.2.2.2.2 m17 = q_89.2.2.2.2 m17 from by rw [eq_209]; rfl))
                      have z_241 : q_222.2.2.2.1 m18 = q_89.2.2.2.1 m18 := (h2_q_222.G hm18 (show ¬ (h.1 m18 = 12) from (fun z => absurd (z.symm.trans km18) (by decide))) (by rw [km18]; decide)).trans ((show q_209.2.2.2.1 m18 = q_89.2.2.2.1 m18 from by rw [eq_209]; exact sg_pG_a (sx_ka h km18 km19 (by decide))))
                      have z_242 : q_222.2.2.2.1 m19 = (upd (q_89.2.2.2.1 m19) (v_150 : Int32).toNatClampNeg (q_89.1 a0 12)) := (h2_q_222.G hm19 (show ¬ (h.1 m19 = 12) from (fun z => absurd (z.symm.trans km19) (by decide))) (by rw [km19]; decide)).trans (z_210)
                      refine wa_callVi B (x := (RX12, TX12, 51)) (As := [.int n1]) (rest := []) (k_X12_readUnit_c l dC dI h L hN q_222 hV_q_222 (a0 := a0) ha0 ka0 n1 (m3 := m3) z_226 (m16 := m16) z_227 (m17 := m17) z_228 (m18 := m18) z_229 (m19 := m19) z_230 mN_q_222 mF_q_222 mU_q_222 F n9 R9 (by first | assumption | omega | decide) (by first | assumption | omega | decide) (by rw [z_224]; omega) (Or.inr (by rw [z_224]; rw [show 5 * (3 + n1 : Int32).toNatClampNeg + ((q_89.2.2.2.1 m18 ((3 + n1) : Int32).toNatClampNeg)).toInt.toNat = (v_150 : Int32).toNatClampNeg from by have a9 := zx_nc (3 + n1); have a8 := zx_nc v_150; omega, z_237]; omega)) (by first | assumption | omega | decide) (fun j hj => by rw [z_238]; exact hFF j hj) (by first | assumption | omega | decide) (by first | assumption | omega | decide) (by first | assumption | omega | decide) (by rw [z_239, z_240, z_241, z_242]; exact ⟨_, hT5, y5.2⟩)) (cwV 1 B.1.2.2.2.2 gX12_readSystem_X12_readUnit rfl rfl rfl (by decide +kernel) ⟨Nat.le_of_ble_eq_true rfl, Nat.le_of_ble_eq_true rfl⟩) ha0 ka0 (by decide) rfl rfl rfl (Nat.le_of_ble_eq_true rfl) dX12_readSystem_173 (fun r_244 q_243 w_245 => ?_)
                      obtain ⟨hV_q_243, h2_q_243, h3_q_243, mN_q_243, mF_q_243, mU_q_243, hw_245⟩ := w_245
                      have hF_q_243 : sx_fr h L (fun a => h.1 a = 12 ∨ h.1 a = 226 ∨ h.1 a = 227 ∨ h.1 a = 128 ∨ h.1 a = 129) q q_243 := hF_q_222.tr (h2_q_243.mono (fun a (z : h.1 a = 12 ∨ h.1 a = 227 ∨ h.1 a = 128) => ((fun z => z.elim (fun z => (Or.inl z)) (fun z => z.elim (fun z => (Or.inr (Or.inr (Or.inl z)))) (fun z => (Or.inr (Or.inr (Or.inr (Or.inl z))))))) z)))
                      have hK_q_243 : sx_kf a0 [6, 7, 8, 9, 11, 12, 13, 14, 15] q q_243 := hK_q_222.tr (h3_q_243.mono (by decide))
                      have z_246 : q_243.1 a0 4 = (q.1 a0 4) := (h3_q_243.1 4 (by decide)).trans (z_235)
                      have k_247 := hw_245.2
                      refine wa_if_ne B 88 dX12_readSystem_176 (by decide) (fun (t_248 : ¬ r_244.toInt = 0) => ?_) (fun (t_248 : r_244.toInt = 0) => ?_)
                      · have y_249 : (q_243.1 a0 4).toInt = (q.1 a0 4).toInt := by rw [z_246]
                        have z_250 : q_243.1 a0 5 = (q.1 a0 5) := (h3_q_243.1 5 (by decide)).trans (z_233)
                        have z_251 : q_243.1 a0 10 = (q.1 a0 10) := (h3_q_243.1 10 (by decide)).trans (z_231)
                        have z_252 : q_243.2.2.1 a0 3 = m3 := (h2_q_243.R ha0 (fun z9 => absurd z9.2 (by omega)) 3).trans (z_226)
                        have z_253 : q_243.2.2.1 a0 16 = m16 := (h2_q_243.R ha0 (fun z9 => absurd z9.2 (by omega)) 16).trans (z_227)
                        have z_254 : q_243.2.2.1 a0 17 = m17 := (h2_q_243.R ha0 (fun z9 => absurd z9.2 (by omega)) 17).trans (z_228)
                        have z_255 : q_243.2.2.1 a0 18 = m18 := (h2_q_243.R ha0 (fun z9 => absurd z9.2 (by omega)) 18).trans (z_229)
                        have z_256 : q_243.2.2.1 a0 19 = m19 := (h2_q_243.R ha0 (fun z9 => absurd z9.2 (by omega)) 19).trans (z_230)
                        have z_257 : q_243.2.2.2.1 m3 = (q.2.2.2.1 m3) := (h2_q_243.G hm3 (show ¬ (h.1 m3 = 12 ∨ h.1 m3 = 227 ∨ h.1 m3 = 128) from (fun z => z.elim (fun z => absurd (z.symm.trans km3) (by decide)) (fun z => z.elim (fun z => absurd (z.symm.trans km3) (by decide)) (fun z => absurd (z.symm.trans km3) (by decide))))) (by rw [km3]; decide)).trans (z_238)
                        have z_258 : q_243.2.2.2.2 m16 = (vp_updL (vp_updL (q.2.2.2.2 m16) ((3 + n1) : Int32).toNatClampNeg 0) ((3 + n1) : Int32).toNatClampNeg (q.2.1 a0 11)) := (h2_q_243.Lg hm16 (show ¬ (h.1 m16 = 12 ∨ h.1 m16 = 227 ∨ h.1 m16 = 128) from (fun z => z.elim (fun z => absurd (z.symm.trans km16) (by decide)) (fun z => z.elim (fun z => absurd (z.symm.trans km16) (by decide)) (fun z => absurd (z.symm.trans km16) (by decide))))) (by rw [km16]; decide)).trans (z_239)
                        exact ih_104 q_243 hV_q_243 hF_q_243 hK_q_243 mN_q_243 mF_q_243 mU_q_243 z_246 z_250 z_251 z_252 z_253 z_254 z_255 z_256 z_257 z_258 (show (q_243.1 a0 6).toInt ≤ (q_243.1 a0 4).toInt from by have y7 := (hw_245.2.resolve_left (fun y => absurd y.1 (by omega))).2.1; omega) (show rs_P F n9 R9 4 (n1.toInt.toNat + 1) (q_243.1 a0 8) (q_243.1 a0 9) (q_243.1 a0 7) (q_243.1 a0 6) (q_243.1 a0 12) (q_243.1 a0 13) (q_243.2.1 a0 11) (q_243.2.2.2.2 m16) (q_243.2.2.2.2 m17) (q_243.2.2.2.1 m18) (q_243.2.2.2.1 m19) from by exact (hw_245.2.resolve_left (fun y => absurd y.1 (by omega))).2.2) (show (5 - (q_243.2.2.2.1 m18 (3 + n1).toNatClampNeg).toInt : Int).toNat < _ from by omega)
                      · refine wa_iconst B 0 dX12_readSystem_179 (by decide) ?_
                        have y_259 : (q_243.1 a0 4).toInt = (q.1 a0 4).toInt := by rw [z_246]
                        have y_260 : (q_243.1 a0 4).toInt = (q.1 a0 4).toInt := by rw [z_246]
                        exact hret _ _ _ _ dX12_readSystem_180 (Or.inl rfl) ⟨hV_q_243, hF_q_243, hK_q_243, mN_q_243, mF_q_243, mU_q_243, (Or.inl ⟨rfl, (hw_245.2.resolve_right (fun y => absurd y.1 (by omega))).2⟩)⟩
                  · refine wa_aload_n B dX12_readSystem_119 rfl 1 rfl ?_
                    refine wa_iconst B 4 dX12_readSystem_120 (by decide) ?_
                    refine wa_callVi B (x := (RX12, TX12, 51)) (As := [.int 4]) (rest := []) (k_X12_bad_c l dC dI h L hN q_89 hV_q_89 (a0 := a0) ha0 ka0 4  ) (cwV 1 B.1.2.2.2.2 gX12_readSystem_X12_bad rfl rfl rfl (by decide +kernel) ⟨Nat.le_of_ble_eq_true rfl, Nat.le_of_ble_eq_true rfl⟩) ha0 ka0 (by decide) rfl rfl rfl (Nat.le_of_ble_eq_true rfl) dX12_readSystem_121 (fun r_262 q_261 w_263 => ?_)
                    obtain ⟨hV_q_261, h2_q_261, h3_q_261, hw_263⟩ := w_263
                    have hF_q_261 : sx_fr h L (fun a => h.1 a = 12 ∨ h.1 a = 226 ∨ h.1 a = 227 ∨ h.1 a = 128 ∨ h.1 a = 129) q q_261 := hF_q_89.tr (h2_q_261.mono (fun a (z : h.1 a = 12) => ((fun z => (Or.inl z)) z)))
                    have hK_q_261 : sx_kf a0 [6, 7, 8, 9, 11, 12, 13, 14, 15] q q_261 := hK_q_89.tr (h3_q_261.mono (by decide))
                    have mN_q_261 : mv_N a0 q_261 := mv_N.eq (h3_q_261.1 8 (by decide)) (h3_q_261.2 11 (by decide)) mN_q_89
                    have mF_q_261 : mv_F m18 m19 q_261 := mv_F.eq (h2_q_261.G hm18 (show ¬ (h.1 m18 = 12) from (fun z => absurd (z.symm.trans km18) (by decide))) (by rw [km18]; decide)) (h2_q_261.G hm19 (show ¬ (h.1 m19 = 12) from (fun z => absurd (z.symm.trans km19) (by decide))) (by rw [km19]; decide)) mF_q_89
                    have mU_q_261 : mv_U m17 q_261 := mv_U.eq (h2_q_261.Lg hm17 (show ¬ (h.1 m17 = 12) from (fun z => absurd (z.symm.trans km17) (by decide))) (by rw [km17]; decide)) mU_q_89
                    have z_264 : q_261.1 a0 12 = q_89.1 a0 12 := h3_q_261.1 12 (by decide)
                    have y_265 : (q_261.1 a0 12).toInt = (q_89.1 a0 12).toInt := by rw [z_264]
                    have z_266 : q_261.1 a0 13 = q_89.1 a0 13 := h3_q_261.1 13 (by decide)
                    have y_267 : (q_261.1 a0 13).toInt = (q_89.1 a0 13).toInt := by rw [z_266]
                    have z_268 : q_261.1 a0 4 = (q.1 a0 4) := (h3_q_261.1 4 (by decide)).trans (p0_q_89)
                    have y_269 : (q_261.1 a0 4).toInt = (q.1 a0 4).toInt := by rw [z_268]
                    have z_270 : q_261.1 a0 6 = q_89.1 a0 6 := h3_q_261.1 6 (by decide)
                    have y_271 : (q_261.1 a0 6).toInt = (q_89.1 a0 6).toInt := by rw [z_270]
                    have z_272 : q_261.1 a0 7 = q_89.1 a0 7 := h3_q_261.1 7 (by decide)
                    have y_273 : (q_261.1 a0 7).toInt = (q_89.1 a0 7).toInt := by rw [z_272]
                    have z_274 : q_261.1 a0 8 = q_89.1 a0 8 := h3_q_261.1 8 (by decide)
                    have y_275 : (q_261.1 a0 8).toInt = (q_89.1 a0 8).toInt := by rw [z_274]
                    have z_276 : q_261.1 a0 9 = q_89.1 a0 9 := h3_q_261.1 9 (by decide)
                    have y_277 : (q_261.1 a0 9).toInt = (q_89.1 a0 9).toInt := by rw [z_276]
                    have y_278 : (q_261.1 a0 4).toInt = (q.1 a0 4).toInt := by rw [z_268]
                    have y_279 : (q_261.1 a0 6).toInt = (q_89.1 a0 6).toInt := by rw [z_270]
                    have y_280 : (q_261.1 a0 7).toInt = (q_89.1 a0 7).toInt := by rw [z_272]
                    exact hret _ _ _ _ dX12_readSystem_124 (zx_01 (by omega)) ⟨hV_q_261, hF_q_261, hK_q_261, mN_q_261, mF_q_261, mU_q_261, (Or.inl ⟨by omega, by omega, (rr_fac_bad hC8 hT8 (by omega) (j := n1.toInt.toNat) rfl (fun z => by have z9 := z.2; rw [← e3] at z9; omega)).trans (congrArg some (by omega))⟩)⟩
                · refine wa_aload_n B dX12_readSystem_103 rfl 1 rfl ?_
                  refine wa_iconst B 2 dX12_readSystem_104 (by decide) ?_
                  refine wa_callVi B (x := (RX12, TX12, 51)) (As := [.int 2]) (rest := []) (k_X12_bad_c l dC dI h L hN q_89 hV_q_89 (a0 := a0) ha0 ka0 2  ) (cwV 1 B.1.2.2.2.2 gX12_readSystem_X12_bad rfl rfl rfl (by decide +kernel) ⟨Nat.le_of_ble_eq_true rfl, Nat.le_of_ble_eq_true rfl⟩) ha0 ka0 (by decide) rfl rfl rfl (Nat.le_of_ble_eq_true rfl) dX12_readSystem_105 (fun r_282 q_281 w_283 => ?_)
                  obtain ⟨hV_q_281, h2_q_281, h3_q_281, hw_283⟩ := w_283
                  have hF_q_281 : sx_fr h L (fun a => h.1 a = 12 ∨ h.1 a = 226 ∨ h.1 a = 227 ∨ h.1 a = 128 ∨ h.1 a = 129) q q_281 := hF_q_89.tr (h2_q_281.mono (fun a (z : h.1 a = 12) => ((fun z => (Or.inl z)) z)))
                  have hK_q_281 : sx_kf a0 [6, 7, 8, 9, 11, 12, 13, 14, 15] q q_281 := hK_q_89.tr (h3_q_281.mono (by decide))
                  have mN_q_281 : mv_N a0 q_281 := mv_N.eq (h3_q_281.1 8 (by decide)) (h3_q_281.2 11 (by decide)) mN_q_89
                  have mF_q_281 : mv_F m18 m19 q_281 := mv_F.eq (h2_q_281.G hm18 (show ¬ (h.1 m18 = 12) from (fun z => absurd (z.symm.trans km18) (by decide))) (by rw [km18]; decide)) (h2_q_281.G hm19 (show ¬ (h.1 m19 = 12) from (fun z => absurd (z.symm.trans km19) (by decide))) (by rw [km19]; decide)) mF_q_89
                  have mU_q_281 : mv_U m17 q_281 := mv_U.eq (h2_q_281.Lg hm17 (show ¬ (h.1 m17 = 12) from (fun z => absurd (z.symm.trans km17) (by decide))) (by rw [km17]; decide)) mU_q_89
                  have z_284 : q_281.1 a0 12 = q_89.1 a0 12 := h3_q_281.1 12 (by decide)
                  have y_285 : (q_281.1 a0 12).toInt = (q_89.1 a0 12).toInt := by rw [z_284]
                  have z_286 : q_281.1 a0 13 = q_89.1 a0 13 := h3_q_281.1 13 (by decide)
                  have y_287 : (q_281.1 a0 13).toInt = (q_89.1 a0 13).toInt := by rw [z_286]
                  have z_288 : q_281.1 a0 4 = (q.1 a0 4) := (h3_q_281.1 4 (by decide)).trans (p0_q_89)
                  have y_289 : (q_281.1 a0 4).toInt = (q.1 a0 4).toInt := by rw [z_288]
                  have z_290 : q_281.1 a0 6 = q_89.1 a0 6 := h3_q_281.1 6 (by decide)
                  have y_291 : (q_281.1 a0 6).toInt = (q_89.1 a0 6).toInt := by rw [z_290]
                  have z_292 : q_281.1 a0 7 = q_89.1 a0 7 := h3_q_281.1 7 (by decide)
                  have y_293 : (q_281.1 a0 7).toInt = (q_89.1 a0 7).toInt := by rw [z_292]
                  have z_294 : q_281.1 a0 8 = q_89.1 a0 8 := h3_q_281.1 8 (by decide)
                  have y_295 : (q_281.1 a0 8).toInt = (q_89.1 a0 8).toInt := by rw [z_294]
                  have z_296 : q_281.1 a0 9 = q_89.1 a0 9 := h3_q_281.1 9 (by decide)
                  have y_297 : (q_281.1 a0 9).toInt = (q_89.1 a0 9).toInt := by rw [z_296]
                  have y_298 : (q_281.1 a0 4).toInt = (q.1 a0 4).toInt := by rw [z_288]
                  have y_299 : (q_281.1 a0 6).toInt = (q_89.1 a0 6).toInt := by rw [z_290]
                  have y_300 : (q_281.1 a0 7).toInt = (q_89.1 a0 7).toInt := by rw [z_292]
                  exact hret _ _ _ _ dX12_readSystem_108 (zx_01 (by omega)) ⟨hV_q_281, hF_q_281, hK_q_281, mN_q_281, mF_q_281, mU_q_281, (Or.inl ⟨by omega, by omega, (rr_fac_bad hC8 hT8 (by omega) (j := n1.toInt.toNat) rfl (fun z => ((hw_145.resolve_left (fun y => absurd y.1 (by omega))).2) z.1)).trans (congrArg some (by omega))⟩)⟩
          have y_301 : (q_83.1 a0 4).toInt = (q.1 a0 4).toInt := by rw [z_86]
          exact Lp_88_102 _ q_83 hV_q_83 hF_q_83 hK_q_83 mN_q_83 mF_q_83 mU_q_83 z_86 z_90 z_91 z_92 z_93 z_94 z_95 z_96 z_97 z_99 (show (q_83.1 a0 6).toInt ≤ (q_83.1 a0 4).toInt from by have y7 := (hw_85.2.resolve_left (fun y => absurd y.1 (by omega))).2.1; omega) (show rs_P F n9 R9 4 (n1.toInt.toNat + 1) (q_83.1 a0 8) (q_83.1 a0 9) (q_83.1 a0 7) (q_83.1 a0 6) (q_83.1 a0 12) (q_83.1 a0 13) (q_83.2.1 a0 11) (q_83.2.2.2.2 m16) (q_83.2.2.2.2 m17) (q_83.2.2.2.1 m18) (q_83.2.2.2.1 m19) from by exact (hw_85.2.resolve_left (fun y => absurd y.1 (by omega))).2.2) (Nat.lt_succ_self _)
        · refine wa_iconst B 0 dX12_readSystem_86 (by decide) ?_
          have y_302 : (q_83.1 a0 4).toInt = (q.1 a0 4).toInt := by rw [z_86]
          have y_303 : (q_83.1 a0 4).toInt = (q.1 a0 4).toInt := by rw [z_86]
          exact hret _ _ _ _ dX12_readSystem_87 (Or.inl rfl) ⟨hV_q_83, hF_q_83, hK_q_83, mN_q_83, mF_q_83, mU_q_83, (Or.inl ⟨rfl, (hw_85.2.resolve_right (fun y => absurd y.1 (by omega))).2⟩)⟩
      · refine wa_aload_n B dX12_readSystem_68 rfl 1 rfl ?_
        refine wa_iconst B 1 dX12_readSystem_69 (by decide) ?_
        refine wa_callVi B (x := (RX12, TX12, 51)) (As := [.int 1]) (rest := []) (k_X12_bad_c l dC dI h L hN q_44 hV_q_44 (a0 := a0) ha0 ka0 1  ) (cwV 1 B.1.2.2.2.2 gX12_readSystem_X12_bad rfl rfl rfl (by decide +kernel) ⟨Nat.le_of_ble_eq_true rfl, Nat.le_of_ble_eq_true rfl⟩) ha0 ka0 (by decide) rfl rfl rfl (Nat.le_of_ble_eq_true rfl) dX12_readSystem_70 (fun r_305 q_304 w_306 => ?_)
        obtain ⟨hV_q_304, h2_q_304, h3_q_304, hw_306⟩ := w_306
        have hF_q_304 : sx_fr h L (fun a => h.1 a = 12 ∨ h.1 a = 226 ∨ h.1 a = 227 ∨ h.1 a = 128 ∨ h.1 a = 129) q q_304 := hF_q_44.tr (h2_q_304.mono (fun a (z : h.1 a = 12) => ((fun z => (Or.inl z)) z)))
        have hK_q_304 : sx_kf a0 [6, 7, 8, 9, 11, 12, 13, 14, 15] q q_304 := hK_q_44.tr (h3_q_304.mono (by decide))
        have mN_q_304 : mv_N a0 q_304 := mv_N.eq (h3_q_304.1 8 (by decide)) (h3_q_304.2 11 (by decide)) mN_q_44
        have mF_q_304 : mv_F m18 m19 q_304 := mv_F.eq (h2_q_304.G hm18 (show ¬ (h.1 m18 = 12) from (fun z => absurd (z.symm.trans km18) (by decide))) (by rw [km18]; decide)) (h2_q_304.G hm19 (show ¬ (h.1 m19 = 12) from (fun z => absurd (z.symm.trans km19) (by decide))) (by rw [km19]; decide)) mF_q_44
        have mU_q_304 : mv_U m17 q_304 := mv_U.eq (h2_q_304.Lg hm17 (show ¬ (h.1 m17 = 12) from (fun z => absurd (z.symm.trans km17) (by decide))) (by rw [km17]; decide)) mU_q_44
        have z_307 : q_304.1 a0 12 = q_44.1 a0 12 := h3_q_304.1 12 (by decide)
        have y_308 : (q_304.1 a0 12).toInt = (q_44.1 a0 12).toInt := by rw [z_307]
        have z_309 : q_304.1 a0 13 = q_44.1 a0 13 := h3_q_304.1 13 (by decide)
        have y_310 : (q_304.1 a0 13).toInt = (q_44.1 a0 13).toInt := by rw [z_309]
        have z_311 : q_304.1 a0 4 = (q.1 a0 4) := (h3_q_304.1 4 (by decide)).trans ((h3_q_44.1 4 (by decide)).trans (z_37))
        have y_312 : (q_304.1 a0 4).toInt = (q.1 a0 4).toInt := by rw [z_311]
        have z_313 : q_304.1 a0 6 = q_44.1 a0 6 := h3_q_304.1 6 (by decide)
        have y_314 : (q_304.1 a0 6).toInt = (q_44.1 a0 6).toInt := by rw [z_313]
        have z_315 : q_304.1 a0 7 = q_44.1 a0 7 := h3_q_304.1 7 (by decide)
        have y_316 : (q_304.1 a0 7).toInt = (q_44.1 a0 7).toInt := by rw [z_315]
        have z_317 : q_304.1 a0 8 = q_44.1 a0 8 := h3_q_304.1 8 (by decide)
        have y_318 : (q_304.1 a0 8).toInt = (q_44.1 a0 8).toInt := by rw [z_317]
        have z_319 : q_304.1 a0 9 = q_44.1 a0 9 := h3_q_304.1 9 (by decide)
        have y_320 : (q_304.1 a0 9).toInt = (q_44.1 a0 9).toInt := by rw [z_319]
        have y_321 : (q_304.1 a0 4).toInt = (q.1 a0 4).toInt := by rw [z_311]
        have y_322 : (q_304.1 a0 6).toInt = (q_44.1 a0 6).toInt := by rw [z_313]
        have y_323 : (q_304.1 a0 7).toInt = (q_44.1 a0 7).toInt := by rw [z_315]
        exact hret _ _ _ _ dX12_readSystem_73 (zx_01 (by omega)) ⟨hV_q_304, hF_q_304, hK_q_304, mN_q_304, mF_q_304, mU_q_304, (Or.inl ⟨by omega, by omega, (rr_colon_bad y9.2 hT2 (hw_49.resolve_left (fun y => absurd y.1 (by omega))).2).trans (congrArg some (by omega))⟩)⟩
    · refine wa_aload_n B dX12_readSystem_39 rfl 1 rfl ?_
      refine wa_iconst B 3 dX12_readSystem_40 (by decide) ?_
      have z_324 : q_7.1 a0 7 = q.1 a0 7 := ((show q_7.1 a0 7 = q_3.1 a0 7 from by rw [eq_7]; rfl)).trans ((show q_3.1 a0 7 = q.1 a0 7 from by rw [eq_3]; rfl))
      have y_325 : (q_7.1 a0 7).toInt = (q.1 a0 7).toInt := by rw [z_324]
      refine wa_callVi B (x := (RX12, TX12, 51)) (As := [.int 3]) (rest := []) (k_X12_bad_c l dC dI h L hN q_7 hV_q_7 (a0 := a0) ha0 ka0 3  ) (cwV 1 B.1.2.2.2.2 gX12_readSystem_X12_bad rfl rfl rfl (by decide +kernel) ⟨Nat.le_of_ble_eq_true rfl, Nat.le_of_ble_eq_true rfl⟩) ha0 ka0 (by decide) rfl rfl rfl (Nat.le_of_ble_eq_true rfl) dX12_readSystem_41 (fun r_327 q_326 w_328 => ?_)
      obtain ⟨hV_q_326, h2_q_326, h3_q_326, hw_328⟩ := w_328
      have hF_q_326 : sx_fr h L (fun a => h.1 a = 12 ∨ h.1 a = 226 ∨ h.1 a = 227 ∨ h.1 a = 128 ∨ h.1 a = 129) q q_326 := hF_q_7.tr (h2_q_326.mono (fun a (z : h.1 a = 12) => ((fun z => (Or.inl z)) z)))
      have hK_q_326 : sx_kf a0 [6, 7, 8, 9, 11, 12, 13, 14, 15] q q_326 := hK_q_7.tr (h3_q_326.mono (by decide))
      have mN_q_326 : mv_N a0 q_326 := mv_N.eq (h3_q_326.1 8 (by decide)) (h3_q_326.2 11 (by decide)) mN_q_7
      have mF_q_326 : mv_F m18 m19 q_326 := mv_F.eq (h2_q_326.G hm18 (show ¬ (h.1 m18 = 12) from (fun z => absurd (z.symm.trans km18) (by decide))) (by rw [km18]; decide)) (h2_q_326.G hm19 (show ¬ (h.1 m19 = 12) from (fun z => absurd (z.symm.trans km19) (by decide))) (by rw [km19]; decide)) mF_q_7
      have mU_q_326 : mv_U m17 q_326 := mv_U.eq (h2_q_326.Lg hm17 (show ¬ (h.1 m17 = 12) from (fun z => absurd (z.symm.trans km17) (by decide))) (by rw [km17]; decide)) mU_q_7
      have z_329 : q_326.1 a0 12 = (q.1 a0 12) := (h3_q_326.1 12 (by decide)).trans (z_21)
      have y_330 : (q_326.1 a0 12).toInt = (q.1 a0 12).toInt := by rw [z_329]
      have z_331 : q_326.1 a0 13 = (q.1 a0 13) := (h3_q_326.1 13 (by decide)).trans (z_22)
      have y_332 : (q_326.1 a0 13).toInt = (q.1 a0 13).toInt := by rw [z_331]
      have z_333 : q_326.1 a0 4 = q.1 a0 4 := (h3_q_326.1 4 (by decide)).trans (((show q_7.1 a0 4 = q_3.1 a0 4 from by rw [eq_7]; rfl)).trans ((show q_3.1 a0 4 = q.1 a0 4 from by rw [eq_3]; rfl)))
      have y_334 : (q_326.1 a0 4).toInt = (q.1 a0 4).toInt := by rw [z_333]
      have z_335 : q_326.1 a0 6 = q.1 a0 6 := (h3_q_326.1 6 (by decide)).trans (((show q_7.1 a0 6 = q_3.1 a0 6 from by rw [eq_7]; rfl)).trans ((show q_3.1 a0 6 = q.1 a0 6 from by rw [eq_3]; rfl)))
      have y_336 : (q_326.1 a0 6).toInt = (q.1 a0 6).toInt := by rw [z_335]
      have z_337 : q_326.1 a0 7 = (q.1 a0 7) := (h3_q_326.1 7 (by decide)).trans (z_324)
      have y_338 : (q_326.1 a0 7).toInt = (q.1 a0 7).toInt := by rw [z_337]
      have z_339 : q_326.1 a0 8 = (q.1 a0 8) := (h3_q_326.1 8 (by decide)).trans (z_11)
      have y_340 : (q_326.1 a0 8).toInt = (q.1 a0 8).toInt := by rw [z_339]
      have z_341 : q_326.1 a0 9 = (q.1 a0 9) := (h3_q_326.1 9 (by decide)).trans (z_20)
      have y_342 : (q_326.1 a0 9).toInt = (q.1 a0 9).toInt := by rw [z_341]
      have y_343 : (q_326.1 a0 4).toInt = (q.1 a0 4).toInt := by rw [z_333]
      have y_344 : (q_326.1 a0 6).toInt = (q.1 a0 6).toInt := by rw [z_335]
      have y_345 : (q_326.1 a0 7).toInt = (q.1 a0 7).toInt := by rw [z_337]
      exact hret _ _ _ _ dX12_readSystem_44 (zx_01 (by omega)) ⟨hV_q_326, hF_q_326, hK_q_326, mN_q_326, mF_q_326, mU_q_326, (Or.inl ⟨by omega, by omega, (rr_taken_bad hC1 (Or.inl rfl) hT ((hw_15.resolve_right (fun y => absurd y.1 (by omega))).2).1 (j := n1.toInt.toNat) (by omega) (by omega) (fun _ => h00) (hw_29.resolve_right (fun y => absurd y.1 (by omega))).2).trans (congrArg some (by omega))⟩)⟩
  · refine wa_aload_n B dX12_readSystem_25 rfl 1 rfl ?_
    refine wa_iconst B 1 dX12_readSystem_26 (by decide) ?_
    have z_346 : q_7.1 a0 7 = q.1 a0 7 := ((show q_7.1 a0 7 = q_3.1 a0 7 from by rw [eq_7]; rfl)).trans ((show q_3.1 a0 7 = q.1 a0 7 from by rw [eq_3]; rfl))
    have y_347 : (q_7.1 a0 7).toInt = (q.1 a0 7).toInt := by rw [z_346]
    refine wa_callVi B (x := (RX12, TX12, 51)) (As := [.int 1]) (rest := []) (k_X12_bad_c l dC dI h L hN q_7 hV_q_7 (a0 := a0) ha0 ka0 1  ) (cwV 1 B.1.2.2.2.2 gX12_readSystem_X12_bad rfl rfl rfl (by decide +kernel) ⟨Nat.le_of_ble_eq_true rfl, Nat.le_of_ble_eq_true rfl⟩) ha0 ka0 (by decide) rfl rfl rfl (Nat.le_of_ble_eq_true rfl) dX12_readSystem_27 (fun r_349 q_348 w_350 => ?_)
    obtain ⟨hV_q_348, h2_q_348, h3_q_348, hw_350⟩ := w_350
    have hF_q_348 : sx_fr h L (fun a => h.1 a = 12 ∨ h.1 a = 226 ∨ h.1 a = 227 ∨ h.1 a = 128 ∨ h.1 a = 129) q q_348 := hF_q_7.tr (h2_q_348.mono (fun a (z : h.1 a = 12) => ((fun z => (Or.inl z)) z)))
    have hK_q_348 : sx_kf a0 [6, 7, 8, 9, 11, 12, 13, 14, 15] q q_348 := hK_q_7.tr (h3_q_348.mono (by decide))
    have mN_q_348 : mv_N a0 q_348 := mv_N.eq (h3_q_348.1 8 (by decide)) (h3_q_348.2 11 (by decide)) mN_q_7
    have mF_q_348 : mv_F m18 m19 q_348 := mv_F.eq (h2_q_348.G hm18 (show ¬ (h.1 m18 = 12) from (fun z => absurd (z.symm.trans km18) (by decide))) (by rw [km18]; decide)) (h2_q_348.G hm19 (show ¬ (h.1 m19 = 12) from (fun z => absurd (z.symm.trans km19) (by decide))) (by rw [km19]; decide)) mF_q_7
    have mU_q_348 : mv_U m17 q_348 := mv_U.eq (h2_q_348.Lg hm17 (show ¬ (h.1 m17 = 12) from (fun z => absurd (z.symm.trans km17) (by decide))) (by rw [km17]; decide)) mU_q_7
    have z_351 : q_348.1 a0 12 = (q.1 a0 12) := (h3_q_348.1 12 (by decide)).trans (z_21)
    have y_352 : (q_348.1 a0 12).toInt = (q.1 a0 12).toInt := by rw [z_351]
    have z_353 : q_348.1 a0 13 = (q.1 a0 13) := (h3_q_348.1 13 (by decide)).trans (z_22)
    have y_354 : (q_348.1 a0 13).toInt = (q.1 a0 13).toInt := by rw [z_353]
    have z_355 : q_348.1 a0 4 = q.1 a0 4 := (h3_q_348.1 4 (by decide)).trans (((show q_7.1 a0 4 = q_3.1 a0 4 from by rw [eq_7]; rfl)).trans ((show q_3.1 a0 4 = q.1 a0 4 from by rw [eq_3]; rfl)))
    have y_356 : (q_348.1 a0 4).toInt = (q.1 a0 4).toInt := by rw [z_355]
    have z_357 : q_348.1 a0 6 = q.1 a0 6 := (h3_q_348.1 6 (by decide)).trans (((show q_7.1 a0 6 = q_3.1 a0 6 from by rw [eq_7]; rfl)).trans ((show q_3.1 a0 6 = q.1 a0 6 from by rw [eq_3]; rfl)))
    have y_358 : (q_348.1 a0 6).toInt = (q.1 a0 6).toInt := by rw [z_357]
    have z_359 : q_348.1 a0 7 = (q.1 a0 7) := (h3_q_348.1 7 (by decide)).trans (z_346)
    have y_360 : (q_348.1 a0 7).toInt = (q.1 a0 7).toInt := by rw [z_359]
    have z_361 : q_348.1 a0 8 = (q.1 a0 8) := (h3_q_348.1 8 (by decide)).trans (z_11)
    have y_362 : (q_348.1 a0 8).toInt = (q.1 a0 8).toInt := by rw [z_361]
    have z_363 : q_348.1 a0 9 = (q.1 a0 9) := (h3_q_348.1 9 (by decide)).trans (z_20)
    have y_364 : (q_348.1 a0 9).toInt = (q.1 a0 9).toInt := by rw [z_363]
    have y_365 : (q_348.1 a0 4).toInt = (q.1 a0 4).toInt := by rw [z_355]
    have y_366 : (q_348.1 a0 6).toInt = (q.1 a0 6).toInt := by rw [z_357]
    have y_367 : (q_348.1 a0 7).toInt = (q.1 a0 7).toInt := by rw [z_359]
    exact hret _ _ _ _ dX12_readSystem_30 (zx_01 (by omega)) ⟨hV_q_348, hF_q_348, hK_q_348, mN_q_348, mF_q_348, mU_q_348, (Or.inl ⟨by omega, by omega, (rr_free_bad hC1 (Or.inl rfl) hT (hw_15.resolve_left (fun y => absurd y.1 (by omega))).2).trans (congrArg some (by omega))⟩)⟩
