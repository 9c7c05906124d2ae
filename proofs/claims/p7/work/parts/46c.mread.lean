theorem iq_X12_readTablet_X12 : ∀ w ∈ wsX120, w ∈ wsX12_readTablet := fun _ h => List.mem_cons_of_mem _ (List.mem_append_right _ h)
set_option maxHeartbeats 4000000 in
set_option maxRecDepth 100000 in
theorem k_X12_readTablet (l : Launch) (dC : Nat → ClassId) (dI : Nat → Nat → Nat) (h : Sh) (L : List Nat) (hN : sx_nd L) (q : Sg) (hV : sx_V h L q) {a0 : Nat} (ha0 : a0 ∈ L) (ka0 : h.1 a0 = 12) (n1 : Int32) {m18 : Nat} (em18 : q.2.2.1 a0 18 = m18) {m19 : Nat} (em19 : q.2.2.1 a0 19 = m19) {m23 : Nat} (em23 : q.2.2.1 a0 23 = m23) {m24 : Nat} (em24 : q.2.2.1 a0 24 = m24) {m25 : Nat} (em25 : q.2.2.1 a0 25 = m25) {m26 : Nat} (em26 : q.2.2.1 a0 26 = m26) {m27 : Nat} (em27 : q.2.2.1 a0 27 = m27) {m28 : Nat} (em28 : q.2.2.1 a0 28 = m28) {m29 : Nat} (em29 : q.2.2.1 a0 29 = m29) {m30 : Nat} (em30 : q.2.2.1 a0 30 = m30) (mN : mv_N a0 q) (mS : mv_S m23 m26 m28 m29 q)  (hy0 : 0 ≤ n1.toInt) (hy1 : n1.toInt ≤ 8) : CMi l dC dI h L yX12_readTablet wsX12_readTablet ({ frames := 4, cells := 0, slots := 0, locals := 95 } : Room) q [.ref a0, .int n1] (fun r q' => sx_V h L q' ∧ sx_fr h L (fun a => h.1 a = 12 ∨ h.1 a = 133 ∨ h.1 a = 134 ∨ h.1 a = 135 ∨ h.1 a = 138 ∨ h.1 a = 139 ∨ h.1 a = 140 ∨ h.1 a = 136 ∨ h.1 a = 137) q q' ∧ sx_kf a0 [6, 7, 8, 9, 11, 12, 13, 14, 15, 32, 33] q q' ∧ mv_N a0 q' ∧ mv_S m23 m26 m28 m29 q' ∧ (r.toInt = 0 ∨ r.toInt = 1)) := by
  refine cm_z (cc := cX12_readTablet) (mL := 5) (own := RX12) hN (by decide) rfl rfl (Nat.le_of_ble_eq_true rfl) (fun Z B hret => ?_)
  have hF : sx_fr h L (fun a => h.1 a = 12 ∨ h.1 a = 133 ∨ h.1 a = 134 ∨ h.1 a = 135 ∨ h.1 a = 138 ∨ h.1 a = 139 ∨ h.1 a = 140 ∨ h.1 a = 136 ∨ h.1 a = 137) q q := sx_fr.rf
  have hK : sx_kf a0 [6, 7, 8, 9, 11, 12, 13, 14, 15, 32, 33] q q := sx_kf.rf
  obtain ⟨hm18, km18, lm18⟩ : m18 ∈ L ∧ h.1 m18 = 128 ∧ h.2.1 m18 = 6 := by obtain ⟨r9, e9, z1, z2, z3⟩ := hV.refn (t := 128) (n := 6) ha0 ka0 18 rfl (by decide) rfl (by decide); rw [← em18, e9]; exact ⟨z1, z2, z3⟩
  obtain ⟨hm19, km19, lm19⟩ : m19 ∈ L ∧ h.1 m19 = 129 ∧ h.2.1 m19 = 30 := by obtain ⟨r9, e9, z1, z2, z3⟩ := hV.refn (t := 129) (n := 30) ha0 ka0 19 rfl (by decide) rfl (by decide); rw [← em19, e9]; exact ⟨z1, z2, z3⟩
  obtain ⟨hm23, km23, lm23⟩ : m23 ∈ L ∧ h.1 m23 = 133 ∧ h.2.1 m23 = 9 := by obtain ⟨r9, e9, z1, z2, z3⟩ := hV.refn (t := 133) (n := 9) ha0 ka0 23 rfl (by decide) rfl (by decide); rw [← em23, e9]; exact ⟨z1, z2, z3⟩
  obtain ⟨hm24, km24, lm24⟩ : m24 ∈ L ∧ h.1 m24 = 134 ∧ h.2.1 m24 = 108 := by obtain ⟨r9, e9, z1, z2, z3⟩ := hV.refn (t := 134) (n := 108) ha0 ka0 24 rfl (by decide) rfl (by decide); rw [← em24, e9]; exact ⟨z1, z2, z3⟩
  obtain ⟨hm25, km25, lm25⟩ : m25 ∈ L ∧ h.1 m25 = 135 ∧ h.2.1 m25 = 108 := by obtain ⟨r9, e9, z1, z2, z3⟩ := hV.refn (t := 135) (n := 108) ha0 ka0 25 rfl (by decide) rfl (by decide); rw [← em25, e9]; exact ⟨z1, z2, z3⟩
  obtain ⟨hm26, km26, lm26⟩ : m26 ∈ L ∧ h.1 m26 = 136 ∧ h.2.1 m26 = 108 := by obtain ⟨r9, e9, z1, z2, z3⟩ := hV.refn (t := 136) (n := 108) ha0 ka0 26 rfl (by decide) rfl (by decide); rw [← em26, e9]; exact ⟨z1, z2, z3⟩
  obtain ⟨hm27, km27, lm27⟩ : m27 ∈ L ∧ h.1 m27 = 137 ∧ h.2.1 m27 = 9 := by obtain ⟨r9, e9, z1, z2, z3⟩ := hV.refn (t := 137) (n := 9) ha0 ka0 27 rfl (by decide) rfl (by decide); rw [← em27, e9]; exact ⟨z1, z2, z3⟩
  obtain ⟨hm28, km28, lm28⟩ : m28 ∈ L ∧ h.1 m28 = 138 ∧ h.2.1 m28 = 540 := by obtain ⟨r9, e9, z1, z2, z3⟩ := hV.refn (t := 138) (n := 540) ha0 ka0 28 rfl (by decide) rfl (by decide); rw [← em28, e9]; exact ⟨z1, z2, z3⟩
  obtain ⟨hm29, km29, lm29⟩ : m29 ∈ L ∧ h.1 m29 = 139 ∧ h.2.1 m29 = 540 := by obtain ⟨r9, e9, z1, z2, z3⟩ := hV.refn (t := 139) (n := 540) ha0 ka0 29 rfl (by decide) rfl (by decide); rw [← em29, e9]; exact ⟨z1, z2, z3⟩
  obtain ⟨hm30, km30, lm30⟩ : m30 ∈ L ∧ h.1 m30 = 140 ∧ h.2.1 m30 = 540 := by obtain ⟨r9, e9, z1, z2, z3⟩ := hV.refn (t := 140) (n := 540) ha0 ka0 30 rfl (by decide) rfl (by decide); rw [← em30, e9]; exact ⟨z1, z2, z3⟩
  show WA l dC dI h L ({ frames := 4, cells := 0, slots := 0, locals := 95 } : Room) 5 Z q 0 [(0, .ref a0), (1, .int n1)] []
  refine wa_aload_n B dX12_readTablet_0 rfl 0 rfl ?_
  refine wa_getR B (C := RX12) (T := TX12) (N := 51) iq_X12_readTablet_X12 ha0 ka0 (by decide) rfl 23 (by decide) (by decide) (by decide +kernel) rfl (fun _ _ _ => rfl) (v := m23) em23 dX12_readTablet_1 ?_
  refine wa_iload_n B dX12_readTablet_4 rfl 1 rfl ?_
  refine wa_iconst B 0 dX12_readTablet_5 (by decide) ?_
  refine wa_iastore B hm23 km23 (by decide) (by decide) (show 0 ≤ n1.toInt by omega) (show n1.toInt < (h.2.1 m23 : Int) by omega) dX12_readTablet_6 (fun q_1 eq_1 => ?_)
  have hV_q_1 : sx_V h L q_1 := by rw [eq_1]; exact hV.up1 hm23 km23 (show sx_in 0 (0) 12 from ⟨by decide, by decide⟩)
  have hF_q_1 : sx_fr h L (fun a => h.1 a = 12 ∨ h.1 a = 133 ∨ h.1 a = 134 ∨ h.1 a = 135 ∨ h.1 a = 138 ∨ h.1 a = 139 ∨ h.1 a = 140 ∨ h.1 a = 136 ∨ h.1 a = 137) q q_1 := hF.tr (by rw [eq_1]; exact sx_fr.pG (show h.1 m23 = 100 ∨ (h.1 m23 = 12 ∨ h.1 m23 = 133 ∨ h.1 m23 = 134 ∨ h.1 m23 = 135 ∨ h.1 m23 = 138 ∨ h.1 m23 = 139 ∨ h.1 m23 = 140 ∨ h.1 m23 = 136 ∨ h.1 m23 = 137) from by omega))
  have z_2 : q_1.2.2.2.1 m23 = (upd (q.2.2.2.1 m23) (n1 : Int32).toNatClampNeg 0) := by rw [eq_1, sg_pG_e]
  have z_3 : q_1.2.2.2.1 m23 (n1 : Int32).toNatClampNeg = 0 := by rw [eq_1, sg_pG_e]; exact if_pos rfl
  have hK_q_1 : sx_kf a0 [6, 7, 8, 9, 11, 12, 13, 14, 15, 32, 33] q q_1 := hK.tr (sx_kf.eq (by rw [eq_1]; rfl) (by rw [eq_1]; rfl))
  have mN_q_1 : mv_N a0 q_1 := mv_N.eq ((show q_1.1 a0 8 = q.1 a0 8 from by rw [eq_1]; rfl)) ((show q_1.2.1 a0 11 = q.2.1 a0 11 from by rw [eq_1]; rfl)) mN
  have z_4 : q_1.2.2.2.1 m26 = q.2.2.2.1 m26 := (show q_1.2.2.2.1 m26 = q.2.2.2.1 m26 from by rw [eq_1]; exact sg_pG_a (sx_ka h km26 km23 (by decide)))
  have z_5 : q_1.2.2.2.1 m27 = q.2.2.2.1 m27 := (show q_1.2.2.2.1 m27 = q.2.2.2.1 m27 from by rw [eq_1]; exact sg_pG_a (sx_ka h km27 km23 (by decide)))
  have z_6 : q_1.2.2.2.1 m28 = q.2.2.2.1 m28 := (show q_1.2.2.2.1 m28 = q.2.2.2.1 m28 from by rw [eq_1]; exact sg_pG_a (sx_ka h km28 km23 (by decide)))
  have z_7 : q_1.2.2.2.1 m29 = q.2.2.2.1 m29 := (show q_1.2.2.2.1 m29 = q.2.2.2.1 m29 from by rw [eq_1]; exact sg_pG_a (sx_ka h km29 km23 (by decide)))
  have mS_q_1 : mv_S m23 m26 m28 m29 q_1 := (((mS).f rfl rfl rfl rfl).lm (t := n1.toNatClampNeg) (v := 0) (show mv_s _ _ _ n1.toNatClampNeg 0 ≤ 4 from Nat.zero_le 4)).S z_2 z_4 z_6 z_7
  refine wa_aload_n B dX12_readTablet_7 rfl 0 rfl ?_
  have z_8 : q_1.2.2.1 a0 27 = m27 := ((show q_1.2.2.1 a0 27 = q.2.2.1 a0 27 from by rw [eq_1]; rfl)).trans (em27)
  refine wa_getR B (C := RX12) (T := TX12) (N := 51) iq_X12_readTablet_X12 ha0 ka0 (by decide) rfl 27 (by decide) (by decide) (by decide +kernel) rfl (fun _ _ _ => rfl) (v := m27) z_8 dX12_readTablet_8 ?_
  refine wa_iload_n B dX12_readTablet_11 rfl 1 rfl ?_
  refine wa_iconst B 0 dX12_readTablet_12 (by decide) ?_
  refine wa_iastore B hm27 km27 (by decide) (by decide) (show 0 ≤ n1.toInt by omega) (show n1.toInt < (h.2.1 m27 : Int) by omega) dX12_readTablet_13 (fun q_9 eq_9 => ?_)
  have hV_q_9 : sx_V h L q_9 := by rw [eq_9]; exact hV_q_1.up1 hm27 km27 (show sx_in 0 (0) 4 from ⟨by decide, by decide⟩)
  have hF_q_9 : sx_fr h L (fun a => h.1 a = 12 ∨ h.1 a = 133 ∨ h.1 a = 134 ∨ h.1 a = 135 ∨ h.1 a = 138 ∨ h.1 a = 139 ∨ h.1 a = 140 ∨ h.1 a = 136 ∨ h.1 a = 137) q q_9 := hF_q_1.tr (by rw [eq_9]; exact sx_fr.pG (show h.1 m27 = 100 ∨ (h.1 m27 = 12 ∨ h.1 m27 = 133 ∨ h.1 m27 = 134 ∨ h.1 m27 = 135 ∨ h.1 m27 = 138 ∨ h.1 m27 = 139 ∨ h.1 m27 = 140 ∨ h.1 m27 = 136 ∨ h.1 m27 = 137) from by omega))
  have z_10 : q_9.2.2.2.1 m27 = (upd (q.2.2.2.1 m27) (n1 : Int32).toNatClampNeg 0) := by rw [eq_9, sg_pG_e, z_5]
  have z_11 : q_9.2.2.2.1 m27 (n1 : Int32).toNatClampNeg = 0 := by rw [eq_9, sg_pG_e]; exact if_pos rfl
  have hK_q_9 : sx_kf a0 [6, 7, 8, 9, 11, 12, 13, 14, 15, 32, 33] q q_9 := hK_q_1.tr (sx_kf.eq (by rw [eq_9]; rfl) (by rw [eq_9]; rfl))
  have mN_q_9 : mv_N a0 q_9 := mv_N.eq ((show q_9.1 a0 8 = q_1.1 a0 8 from by rw [eq_9]; rfl)) ((show q_9.2.1 a0 11 = q_1.2.1 a0 11 from by rw [eq_9]; rfl)) mN_q_1
  have mS_q_9 : mv_S m23 m26 m28 m29 q_9 := mv_S.eq ((show q_9.2.2.2.1 m23 = q_1.2.2.2.1 m23 from by rw [eq_9]; exact sg_pG_a (sx_ka h km23 km27 (by decide)))) ((show q_9.2.2.2.1 m26 = q_1.2.2.2.1 m26 from by rw [eq_9]; exact sg_pG_a (sx_ka h km26 km27 (by decide)))) ((show q_9.2.2.2.1 m28 = q_1.2.2.2.1 m28 from by rw [eq_9]; exact sg_pG_a (sx_ka h km28 km27 (by decide)))) ((show q_9.2.2.2.1 m29 = q_1.2.2.2.1 m29 from by rw [eq_9]; exact sg_pG_a (sx_ka h km29 km27 (by decide)))) mS_q_1
  have z_12 : q_9.2.2.2.1 m23 (n1 : Int32).toNatClampNeg = 0 := (congrFun ((show q_9.2.2.2.1 m23 = q_1.2.2.2.1 m23 from by rw [eq_9]; exact sg_pG_a (sx_ka h km23 km27 (by decide)))) _).trans z_3
  have y_13 : (q_9.2.2.2.1 m23 (n1).toNatClampNeg).toInt = 0 := by rw [z_12]; rfl
  have z_15 : q_9.2.2.1 a0 18 = m18 := ((show q_9.2.2.1 a0 18 = q_1.2.2.1 a0 18 from by rw [eq_9]; rfl)).trans (((show q_1.2.2.1 a0 18 = q.2.2.1 a0 18 from by rw [eq_1]; rfl)).trans (em18))
  have z_16 : q_9.2.2.1 a0 19 = m19 := ((show q_9.2.2.1 a0 19 = q_1.2.2.1 a0 19 from by rw [eq_9]; rfl)).trans (((show q_1.2.2.1 a0 19 = q.2.2.1 a0 19 from by rw [eq_1]; rfl)).trans (em19))
  have z_17 : q_9.2.2.1 a0 23 = m23 := ((show q_9.2.2.1 a0 23 = q_1.2.2.1 a0 23 from by rw [eq_9]; rfl)).trans (((show q_1.2.2.1 a0 23 = q.2.2.1 a0 23 from by rw [eq_1]; rfl)).trans (em23))
  have z_18 : q_9.2.2.1 a0 24 = m24 := ((show q_9.2.2.1 a0 24 = q_1.2.2.1 a0 24 from by rw [eq_9]; rfl)).trans (((show q_1.2.2.1 a0 24 = q.2.2.1 a0 24 from by rw [eq_1]; rfl)).trans (em24))
  have z_19 : q_9.2.2.1 a0 25 = m25 := ((show q_9.2.2.1 a0 25 = q_1.2.2.1 a0 25 from by rw [eq_9]; rfl)).trans (((show q_1.2.2.1 a0 25 = q.2.2.1 a0 25 from by rw [eq_1]; rfl)).trans (em25))
  have z_20 : q_9.2.2.1 a0 26 = m26 := ((show q_9.2.2.1 a0 26 = q_1.2.2.1 a0 26 from by rw [eq_9]; rfl)).trans (((show q_1.2.2.1 a0 26 = q.2.2.1 a0 26 from by rw [eq_1]; rfl)).trans (em26))
  have z_21 : q_9.2.2.1 a0 27 = m27 := ((show q_9.2.2.1 a0 27 = q_1.2.2.1 a0 27 from by rw [eq_9]; rfl)).trans (z_8)
  have z_22 : q_9.2.2.1 a0 28 = m28 := ((show q_9.2.2.1 a0 28 = q_1.2.2.1 a0 28 from by rw [eq_9]; rfl)).trans (((show q_1.2.2.1 a0 28 = q.2.2.1 a0 28 from by rw [eq_1]; rfl)).trans (em28))
  have z_23 : q_9.2.2.1 a0 29 = m29 := ((show q_9.2.2.1 a0 29 = q_1.2.2.1 a0 29 from by rw [eq_9]; rfl)).trans (((show q_1.2.2.1 a0 29 = q.2.2.1 a0 29 from by rw [eq_1]; rfl)).trans (em29))
  have z_24 : q_9.2.2.1 a0 30 = m30 := ((show q_9.2.2.1 a0 30 = q_1.2.2.1 a0 30 from by rw [eq_9]; rfl)).trans (((show q_1.2.2.1 a0 30 = q.2.2.1 a0 30 from by rw [eq_1]; rfl)).trans (em30))
  have z_25 : q_9.2.2.2.1 m18 = q.2.2.2.1 m18 := ((show q_9.2.2.2.1 m18 = q_1.2.2.2.1 m18 from by rw [eq_9]; exact sg_pG_a (sx_ka h km18 km27 (by decide)))).trans ((show q_1.2.2.2.1 m18 = q.2.2.2.1 m18 from by rw [eq_1]; exact sg_pG_a (sx_ka h km18 km23 (by decide))))
  have z_26 : q_9.2.2.2.1 m19 = q.2.2.2.1 m19 := ((show q_9.2.2.2.1 m19 = q_1.2.2.2.1 m19 from by rw [eq_9]; exact sg_pG_a (sx_ka h km19 km27 (by decide)))).trans ((show q_1.2.2.2.1 m19 = q.2.2.2.1 m19 from by rw [eq_1]; exact sg_pG_a (sx_ka h km19 km23 (by decide))))
  have z_27 : q_9.2.2.2.1 m24 = q.2.2.2.1 m24 := ((show q_9.2.2.2.1 m24 = q_1.2.2.2.1 m24 from by rw [eq_9]; exact sg_pG_a (sx_ka h km24 km27 (by decide)))).trans ((show q_1.2.2.2.1 m24 = q.2.2.2.1 m24 from by rw [eq_1]; exact sg_pG_a (sx_ka h km24 km23 (by decide))))
  have z_28 : q_9.2.2.2.1 m25 = q.2.2.2.1 m25 := ((show q_9.2.2.2.1 m25 = q_1.2.2.2.1 m25 from by rw [eq_9]; exact sg_pG_a (sx_ka h km25 km27 (by decide)))).trans ((show q_1.2.2.2.1 m25 = q.2.2.2.1 m25 from by rw [eq_1]; exact sg_pG_a (sx_ka h km25 km23 (by decide))))
  have z_29 : q_9.2.2.2.1 m26 = (q.2.2.2.1 m26) := ((show q_9.2.2.2.1 m26 = q_1.2.2.2.1 m26 from by rw [eq_9]; exact sg_pG_a (sx_ka h km26 km27 (by decide)))).trans (z_4)
  have z_30 : q_9.2.2.2.1 m28 = (q.2.2.2.1 m28) := ((show q_9.2.2.2.1 m28 = q_1.2.2.2.1 m28 from by rw [eq_9]; exact sg_pG_a (sx_ka h km28 km27 (by decide)))).trans (z_6)
  have z_31 : q_9.2.2.2.1 m29 = (q.2.2.2.1 m29) := ((show q_9.2.2.2.1 m29 = q_1.2.2.2.1 m29 from by rw [eq_9]; exact sg_pG_a (sx_ka h km29 km27 (by decide)))).trans (z_7)
  have z_32 : q_9.2.2.2.1 m30 = q.2.2.2.1 m30 := ((show q_9.2.2.2.1 m30 = q_1.2.2.2.1 m30 from by rw [eq_9]; exact sg_pG_a (sx_ka h km30 km27 (by decide)))).trans ((show q_1.2.2.2.1 m30 = q.2.2.2.1 m30 from by rw [eq_1]; exact sg_pG_a (sx_ka h km30 km23 (by decide))))
  have z_33 : q_9.2.2.2.1 m23 = (upd (q.2.2.2.1 m23) (n1 : Int32).toNatClampNeg 0) := ((show q_9.2.2.2.1 m23 = q_1.2.2.2.1 m23 from by rw [eq_9]; exact sg_pG_a (sx_ka h km23 km27 (by decide)))).trans (z_2)
  have Lp_14_35 : ∀ (n : Nat) (q_14 : Sg), sx_V h L q_14 → sx_fr h L (fun a => h.1 a = 12 ∨ h.1 a = 133 ∨ h.1 a = 134 ∨ h.1 a = 135 ∨ h.1 a = 138 ∨ h.1 a = 139 ∨ h.1 a = 140 ∨ h.1 a = 136 ∨ h.1 a = 137) q q_14 → sx_kf a0 [6, 7, 8, 9, 11, 12, 13, 14, 15, 32, 33] q q_14 → mv_N a0 q_14 → mv_S m23 m26 m28 m29 q_14 → q_14.2.2.1 a0 18 = m18 → q_14.2.2.1 a0 19 = m19 → q_14.2.2.1 a0 23 = m23 → q_14.2.2.1 a0 24 = m24 → q_14.2.2.1 a0 25 = m25 → q_14.2.2.1 a0 26 = m26 → q_14.2.2.1 a0 27 = m27 → q_14.2.2.1 a0 28 = m28 → q_14.2.2.1 a0 29 = m29 → q_14.2.2.1 a0 30 = m30 → (q_14.2.2.2.1 m27 (n1).toNatClampNeg).toInt = ((mv_s (q_14.2.2.2.1 m28) (q_14.2.2.2.1 m29) (q_14.2.2.2.1 m26) (n1).toNatClampNeg (q_14.2.2.2.1 m23 (n1).toNatClampNeg).toInt.toNat : Nat) : Int) → (13 - (q_14.2.2.2.1 m23 (n1).toNatClampNeg).toInt : Int).toNat < n → WA l dC dI h L ({ frames := 4, cells := 0, slots := 0, locals := 95 } : Room) 5 Z q_14 14 [(0, .ref a0), (1, .int n1)] [] := by
    intro n
    induction n with
    | zero =>
      intro q_14 hV_q_14 hF_q_14 hK_q_14 mN_q_14 mS_q_14 p0_q_14 p1_q_14 p2_q_14 p3_q_14 p4_q_14 p5_q_14 p6_q_14 p7_q_14 p8_q_14 p9_q_14 x_34 hn
      exact absurd hn (Nat.not_lt_zero _)
    | succ n ih_36 =>
      intro q_14 hV_q_14 hF_q_14 hK_q_14 mN_q_14 mS_q_14 p0_q_14 p1_q_14 p2_q_14 p3_q_14 p4_q_14 p5_q_14 p6_q_14 p7_q_14 p8_q_14 p9_q_14 x_34 hn
      refine wa_aload_n B dX12_readTablet_14 rfl 0 rfl ?_
      have g_37 : 0 ≤ ((q_14.2.2.2.1 m23 (n1 : Int32).toNatClampNeg)).toInt ∧ ((q_14.2.2.2.1 m23 (n1 : Int32).toNatClampNeg)).toInt ≤ 12 := hV_q_14.cnt hm23 km23 _
      refine wa_gets1 B (by decide +kernel) dX12_readTablet_15 ?_
      refine wa_callVi B (x := (RX12, TX12, 51)) (As := [.long 10938684]) (rest := []) (k_X12_isKey l dC dI h L hN q_14 hV_q_14 (a0 := a0) ha0 ka0 10938684  ) (cwV 1 B.1.2.2.2.2 gX12_readTablet_X12_isKey rfl rfl rfl (by decide +kernel) ⟨Nat.le_of_ble_eq_true rfl, Nat.le_of_ble_eq_true rfl⟩) ha0 ka0 (by decide) rfl rfl rfl (Nat.le_of_ble_eq_true rfl) dX12_readTablet_18 (fun r_39 q_38 w_40 => ?_)
      obtain ⟨ew_40, hw_40⟩ := w_40
      subst ew_40
      refine wa_istore_n B [(2, .int r_39), (0, .ref a0), (1, .int n1)] dX12_readTablet_21 rfl (by decide) rfl ?_
      refine wa_aload_n B dX12_readTablet_22 rfl 1 rfl ?_
      refine wa_gets2 B (by decide +kernel) dX12_readTablet_23 ?_
      refine wa_callVi B (x := (RX12, TX12, 51)) (As := [.long 4075492]) (rest := []) (k_X12_isKey l dC dI h L hN q_14 hV_q_14 (a0 := a0) ha0 ka0 4075492  ) (cwV 1 B.1.2.2.2.2 gX12_readTablet_X12_isKey rfl rfl rfl (by decide +kernel) ⟨Nat.le_of_ble_eq_true rfl, Nat.le_of_ble_eq_true rfl⟩) ha0 ka0 (by decide) rfl rfl rfl (Nat.le_of_ble_eq_true rfl) dX12_readTablet_26 (fun r_42 q_41 w_43 => ?_)
      obtain ⟨ew_43, hw_43⟩ := w_43
      subst ew_43
      refine wa_istore_n B [(3, .int r_42), (2, .int r_39), (0, .ref a0), (1, .int n1)] dX12_readTablet_29 rfl (by decide) rfl ?_
      refine wa_iload_n B dX12_readTablet_30 rfl 1 rfl ?_
      have Jn_52_44 : ∀ (_ : Unit), WA l dC dI h L ({ frames := 4, cells := 0, slots := 0, locals := 95 } : Room) 5 Z q_14 52 [(3, .int r_42), (2, .int r_39), (0, .ref a0), (1, .int n1)] [] := by
        intro _
        refine wa_aload_n B dX12_readTablet_52 rfl 2 rfl ?_
        refine wa_getR B (C := RX12) (T := TX12) (N := 51) iq_X12_readTablet_X12 ha0 ka0 (by decide) rfl 23 (by decide) (by decide) (by decide +kernel) rfl (fun _ _ _ => rfl) (v := m23) p2_q_14 dX12_readTablet_53 ?_
        refine wa_iload_n B dX12_readTablet_56 rfl 3 rfl ?_
        refine wa_iaload B hm23 km23 (by decide) (by decide) (show 0 ≤ n1.toInt by omega) (show n1.toInt < (h.2.1 m23 : Int) by omega) (v := (q_14.2.2.2.1 m23 (n1 : Int32).toNatClampNeg)) rfl dX12_readTablet_57 ?_
        have g_45 : (0 : Int) ≤ ((q_14.2.2.2.1 m23 (n1 : Int32).toNatClampNeg)).toInt ∧ ((q_14.2.2.2.1 m23 (n1 : Int32).toNatClampNeg)).toInt ≤ 12 := hV_q_14.cnt hm23 km23 _
        refine wa_bipush B 12 dX12_readTablet_58 (by decide) ?_
        refine wa_icmp_ne B 69 dX12_readTablet_60 (by decide) (fun (t_46 : ¬ ((q_14.2.2.2.1 m23 (n1 : Int32).toNatClampNeg)).toInt = 12) => ?_) (fun (t_46 : ((q_14.2.2.2.1 m23 (n1 : Int32).toNatClampNeg)).toInt = 12) => ?_)
        · refine wa_bipush B 12 dX12_readTablet_69 (by decide) ?_
          refine wa_iload_n B dX12_readTablet_71 rfl 3 rfl ?_
          refine wa_imul B dX12_readTablet_72 (fun v_47 ev_47 => ?_)
          refine wa_aload_n B dX12_readTablet_73 rfl 2 rfl ?_
          refine wa_getR B (C := RX12) (T := TX12) (N := 51) iq_X12_readTablet_X12 ha0 ka0 (by decide) rfl 23 (by decide) (by decide) (by decide +kernel) rfl (fun _ _ _ => rfl) (v := m23) p2_q_14 dX12_readTablet_74 ?_
          refine wa_iload_n B dX12_readTablet_77 rfl 3 rfl ?_
          refine wa_iaload B hm23 km23 (by decide) (by decide) (show 0 ≤ n1.toInt by omega) (show n1.toInt < (h.2.1 m23 : Int) by omega) (v := (q_14.2.2.2.1 m23 (n1 : Int32).toNatClampNeg)) rfl dX12_readTablet_78 ?_
          refine wa_iadd B dX12_readTablet_79 (fun v_48 ev_48 => ?_)
          refine wa_istore B [(4, .int v_48), (3, .int r_42), (2, .int r_39), (0, .ref a0), (1, .int n1)] dX12_readTablet_80 (by decide) rfl ?_
          have tv_47 : v_47.toInt = 12 * n1.toInt := by have b1 := zx_bd n1; rw [ev_47]; exact zx_mul (show (-2147483648 : Int) ≤ 12 * n1.toInt by omega) (show 12 * n1.toInt < (2147483648 : Int) by omega)
          have tv_48 : v_48.toInt = v_47.toInt + ((q_14.2.2.2.1 m23 (n1 : Int32).toNatClampNeg)).toInt := by have b0 := zx_bd v_47; have b1 := zx_bd ((q_14.2.2.2.1 m23 (n1 : Int32).toNatClampNeg)); rw [ev_48]; exact zx_add (show (-2147483648 : Int) ≤ v_47.toInt + ((q_14.2.2.2.1 m23 (n1 : Int32).toNatClampNeg)).toInt by omega) (show v_47.toInt + ((q_14.2.2.2.1 m23 (n1 : Int32).toNatClampNeg)).toInt < (2147483648 : Int) by omega)
          refine wa_aload_n B dX12_readTablet_82 rfl 3 rfl ?_
          refine wa_getR B (C := RX12) (T := TX12) (N := 51) iq_X12_readTablet_X12 ha0 ka0 (by decide) rfl 24 (by decide) (by decide) (by decide +kernel) rfl (fun _ _ _ => rfl) (v := m24) p3_q_14 dX12_readTablet_83 ?_
          refine wa_iload B dX12_readTablet_86 0 rfl ?_
          refine wa_iload_n B dX12_readTablet_88 rfl 2 rfl ?_
          have Jn_105_50 : ∀  (v_49 : Int32), WA l dC dI h L ({ frames := 4, cells := 0, slots := 0, locals := 95 } : Room) 5 Z q_14 105 [(4, .int v_48), (3, .int r_42), (2, .int r_39), (0, .ref a0), (1, .int n1)] [.int v_49, .int v_48, .ref m24] := by
            intro v_49
            refine wa_iastore B hm24 km24 (by decide) (by decide) (show 0 ≤ v_48.toInt by omega) (show v_48.toInt < (h.2.1 m24 : Int) by omega) dX12_readTablet_105 (fun q_51 eq_51 => ?_)
            have hV_q_51 : sx_V h L q_51 := by rw [eq_51]; exact hV_q_14.up1 hm24 km24 trivial
            have hF_q_51 : sx_fr h L (fun a => h.1 a = 12 ∨ h.1 a = 133 ∨ h.1 a = 134 ∨ h.1 a = 135 ∨ h.1 a = 138 ∨ h.1 a = 139 ∨ h.1 a = 140 ∨ h.1 a = 136 ∨ h.1 a = 137) q q_51 := hF_q_14.tr (by rw [eq_51]; exact sx_fr.pG (show h.1 m24 = 100 ∨ (h.1 m24 = 12 ∨ h.1 m24 = 133 ∨ h.1 m24 = 134 ∨ h.1 m24 = 135 ∨ h.1 m24 = 138 ∨ h.1 m24 = 139 ∨ h.1 m24 = 140 ∨ h.1 m24 = 136 ∨ h.1 m24 = 137) from by omega))
            have z_52 : q_51.2.2.2.1 m24 = (upd (q_14.2.2.2.1 m24) (v_48 : Int32).toNatClampNeg v_49) := by rw [eq_51, sg_pG_e]
            have z_53 : q_51.2.2.2.1 m24 (v_48 : Int32).toNatClampNeg = v_49 := by rw [eq_51, sg_pG_e]; exact if_pos rfl
            have hK_q_51 : sx_kf a0 [6, 7, 8, 9, 11, 12, 13, 14, 15, 32, 33] q q_51 := hK_q_14.tr (sx_kf.eq (by rw [eq_51]; rfl) (by rw [eq_51]; rfl))
            have mN_q_51 : mv_N a0 q_51 := mv_N.eq ((show q_51.1 a0 8 = q_14.1 a0 8 from by rw [eq_51]; rfl)) ((show q_51.2.1 a0 11 = q_14.2.1 a0 11 from by rw [eq_51]; rfl)) mN_q_14
            have mS_q_51 : mv_S m23 m26 m28 m29 q_51 := mv_S.eq ((show q_51.2.2.2.1 m23 = q_14.2.2.2.1 m23 from by rw [eq_51]; exact sg_pG_a (sx_ka h km23 km24 (by decide)))) ((show q_51.2.2.2.1 m26 = q_14.2.2.2.1 m26 from by rw [eq_51]; exact sg_pG_a (sx_ka h km26 km24 (by decide)))) ((show q_51.2.2.2.1 m28 = q_14.2.2.2.1 m28 from by rw [eq_51]; exact sg_pG_a (sx_ka h km28 km24 (by decide)))) ((show q_51.2.2.2.1 m29 = q_14.2.2.2.1 m29 from by rw [eq_51]; exact sg_pG_a (sx_ka h km29 km24 (by decide)))) mS_q_14
            refine wa_aload_n B dX12_readTablet_106 rfl 3 rfl ?_
            have z_54 : q_51.2.2.1 a0 26 = m26 := ((show q_51.2.2.1 a0 26 = q_14.2.2.1 a0 26 from by rw [eq_51]; rfl)).trans (p5_q_14)
            refine wa_getR B (C := RX12) (T := TX12) (N := 51) iq_X12_readTablet_X12 ha0 ka0 (by decide) rfl 26 (by decide) (by decide) (by decide +kernel) rfl (fun _ _ _ => rfl) (v := m26) z_54 dX12_readTablet_107 ?_
            refine wa_iload B dX12_readTablet_110 0 rfl ?_
            refine wa_iconst B 0 dX12_readTablet_112 (by decide) ?_
            have z_55 : q_51.2.2.2.1 m23 = q_14.2.2.2.1 m23 := (show q_51.2.2.2.1 m23 = q_14.2.2.2.1 m23 from by rw [eq_51]; exact sg_pG_a (sx_ka h km23 km24 (by decide)))
            have z_56 : q_51.2.2.2.1 m26 = q_14.2.2.2.1 m26 := (show q_51.2.2.2.1 m26 = q_14.2.2.2.1 m26 from by rw [eq_51]; exact sg_pG_a (sx_ka h km26 km24 (by decide)))
            have z_57 : q_51.2.2.2.1 m27 = q_14.2.2.2.1 m27 := (show q_51.2.2.2.1 m27 = q_14.2.2.2.1 m27 from by rw [eq_51]; exact sg_pG_a (sx_ka h km27 km24 (by decide)))
            have z_58 : q_51.2.2.2.1 m28 = q_14.2.2.2.1 m28 := (show q_51.2.2.2.1 m28 = q_14.2.2.2.1 m28 from by rw [eq_51]; exact sg_pG_a (sx_ka h km28 km24 (by decide)))
            have z_59 : q_51.2.2.2.1 m29 = q_14.2.2.2.1 m29 := (show q_51.2.2.2.1 m29 = q_14.2.2.2.1 m29 from by rw [eq_51]; exact sg_pG_a (sx_ka h km29 km24 (by decide)))
            refine wa_iastore B hm26 km26 (by decide) (by decide) (show 0 ≤ v_48.toInt by omega) (show v_48.toInt < (h.2.1 m26 : Int) by omega) dX12_readTablet_113 (fun q_60 eq_60 => ?_)
            have hV_q_60 : sx_V h L q_60 := by rw [eq_60]; exact hV_q_51.up1 hm26 km26 (show sx_in 0 (0) 5 from ⟨by decide, by decide⟩)
            have hF_q_60 : sx_fr h L (fun a => h.1 a = 12 ∨ h.1 a = 133 ∨ h.1 a = 134 ∨ h.1 a = 135 ∨ h.1 a = 138 ∨ h.1 a = 139 ∨ h.1 a = 140 ∨ h.1 a = 136 ∨ h.1 a = 137) q q_60 := hF_q_51.tr (by rw [eq_60]; exact sx_fr.pG (show h.1 m26 = 100 ∨ (h.1 m26 = 12 ∨ h.1 m26 = 133 ∨ h.1 m26 = 134 ∨ h.1 m26 = 135 ∨ h.1 m26 = 138 ∨ h.1 m26 = 139 ∨ h.1 m26 = 140 ∨ h.1 m26 = 136 ∨ h.1 m26 = 137) from by omega))
            have z_61 : q_60.2.2.2.1 m26 = (upd (q_14.2.2.2.1 m26) (v_48 : Int32).toNatClampNeg 0) := by rw [eq_60, sg_pG_e, z_56]
            have z_62 : q_60.2.2.2.1 m26 (v_48 : Int32).toNatClampNeg = 0 := by rw [eq_60, sg_pG_e]; exact if_pos rfl
            have hK_q_60 : sx_kf a0 [6, 7, 8, 9, 11, 12, 13, 14, 15, 32, 33] q q_60 := hK_q_51.tr (sx_kf.eq (by rw [eq_60]; rfl) (by rw [eq_60]; rfl))
            have mN_q_60 : mv_N a0 q_60 := mv_N.eq ((show q_60.1 a0 8 = q_51.1 a0 8 from by rw [eq_60]; rfl)) ((show q_60.2.1 a0 11 = q_51.2.1 a0 11 from by rw [eq_60]; rfl)) mN_q_51
            have z_63 : q_60.2.2.2.1 m23 = (q_14.2.2.2.1 m23) := ((show q_60.2.2.2.1 m23 = q_51.2.2.2.1 m23 from by rw [eq_60]; exact sg_pG_a (sx_ka h km23 km26 (by decide)))).trans (z_55)
            have z_64 : q_60.2.2.2.1 m27 = (q_14.2.2.2.1 m27) := ((show q_60.2.2.2.1 m27 = q_51.2.2.2.1 m27 from by rw [eq_60]; exact sg_pG_a (sx_ka h km27 km26 (by decide)))).trans (z_57)
            have z_65 : q_60.2.2.2.1 m28 = (q_14.2.2.2.1 m28) := ((show q_60.2.2.2.1 m28 = q_51.2.2.2.1 m28 from by rw [eq_60]; exact sg_pG_a (sx_ka h km28 km26 (by decide)))).trans (z_58)
            have z_66 : q_60.2.2.2.1 m29 = (q_14.2.2.2.1 m29) := ((show q_60.2.2.2.1 m29 = q_51.2.2.2.1 m29 from by rw [eq_60]; exact sg_pG_a (sx_ka h km29 km26 (by decide)))).trans (z_59)
            have mS_q_60 : mv_S m23 m26 m28 m29 q_60 := (((mS_q_51).f z_55 z_56 z_58 z_59).ln (t := n1.toNatClampNeg) (ln := (v_48 : Int32).toNatClampNeg) (e1 := (q_14.2.2.2.1 m28)) (e2 := (q_14.2.2.2.1 m29)) (an := upd (q_14.2.2.2.1 m26) (v_48 : Int32).toNatClampNeg 0) (by have a9 := zx_nc n1; have a8 := zx_nc v_48; omega) (by omega) (fun j => by have z9 := (hV_q_51.cnt hm23 km23 j : sx_in _ 0 12); rw [z_55] at z9; exact z9) (fun j => by have z9 := (hV_q_51.cnt hm26 km26 j : sx_in _ 0 5); rw [z_56] at z9; exact z9.2) (fun j hj => zx_u2 hj) (fun _ _ => rfl) (fun _ _ => rfl)).S z_63 z_61 z_65 z_66
            refine wa_iload_n B dX12_readTablet_114 rfl 2 rfl ?_
            have z_68 : q_60.2.2.1 a0 18 = m18 := ((show q_60.2.2.1 a0 18 = q_51.2.2.1 a0 18 from by rw [eq_60]; rfl)).trans (((show q_51.2.2.1 a0 18 = q_14.2.2.1 a0 18 from by rw [eq_51]; rfl)).trans (p0_q_14))
            have z_69 : q_60.2.2.1 a0 19 = m19 := ((show q_60.2.2.1 a0 19 = q_51.2.2.1 a0 19 from by rw [eq_60]; rfl)).trans (((show q_51.2.2.1 a0 19 = q_14.2.2.1 a0 19 from by rw [eq_51]; rfl)).trans (p1_q_14))
            have z_70 : q_60.2.2.1 a0 23 = m23 := ((show q_60.2.2.1 a0 23 = q_51.2.2.1 a0 23 from by rw [eq_60]; rfl)).trans (((show q_51.2.2.1 a0 23 = q_14.2.2.1 a0 23 from by rw [eq_51]; rfl)).trans (p2_q_14))
            have z_71 : q_60.2.2.1 a0 24 = m24 := ((show q_60.2.2.1 a0 24 = q_51.2.2.1 a0 24 from by rw [eq_60]; rfl)).trans (((show q_51.2.2.1 a0 24 = q_14.2.2.1 a0 24 from by rw [eq_51]; rfl)).trans (p3_q_14))
            have z_72 : q_60.2.2.1 a0 25 = m25 := ((show q_60.2.2.1 a0 25 = q_51.2.2.1 a0 25 from by rw [eq_60]; rfl)).trans (((show q_51.2.2.1 a0 25 = q_14.2.2.1 a0 25 from by rw [eq_51]; rfl)).trans (p4_q_14))
            have z_73 : q_60.2.2.1 a0 26 = m26 := ((show q_60.2.2.1 a0 26 = q_51.2.2.1 a0 26 from by rw [eq_60]; rfl)).trans (z_54)
            have z_74 : q_60.2.2.1 a0 27 = m27 := ((show q_60.2.2.1 a0 27 = q_51.2.2.1 a0 27 from by rw [eq_60]; rfl)).trans (((show q_51.2.2.1 a0 27 = q_14.2.2.1 a0 27 from by rw [eq_51]; rfl)).trans (p6_q_14))
            have z_75 : q_60.2.2.1 a0 28 = m28 := ((show q_60.2.2.1 a0 28 = q_51.2.2.1 a0 28 from by rw [eq_60]; rfl)).trans (((show q_51.2.2.1 a0 28 = q_14.2.2.1 a0 28 from by rw [eq_51]; rfl)).trans (p7_q_14))
            have z_76 : q_60.2.2.1 a0 29 = m29 := ((show q_60.2.2.1 a0 29 = q_51.2.2.1 a0 29 from by rw [eq_60]; rfl)).trans (((show q_51.2.2.1 a0 29 = q_14.2.2.1 a0 29 from by rw [eq_51]; rfl)).trans (p8_q_14))
            have z_77 : q_60.2.2.1 a0 30 = m30 := ((show q_60.2.2.1 a0 30 = q_51.2.2.1 a0 30 from by rw [eq_60]; rfl)).trans (((show q_51.2.2.1 a0 30 = q_14.2.2.1 a0 30 from by rw [eq_51]; rfl)).trans (p9_q_14))
            have z_78 : q_60.2.2.2.1 m24 = (upd (q_14.2.2.2.1 m24) (v_48 : Int32).toNatClampNeg v_49) := ((show q_60.2.2.2.1 m24 = q_51.2.2.2.1 m24 from by rw [eq_60]; exact sg_pG_a (sx_ka h km24 km26 (by decide)))).trans (z_52)
            have Jn_126_79 : ∀  (q_67 : Sg), sx_V h L q_67 → sx_fr h L (fun a => h.1 a = 12 ∨ h.1 a = 133 ∨ h.1 a = 134 ∨ h.1 a = 135 ∨ h.1 a = 138 ∨ h.1 a = 139 ∨ h.1 a = 140 ∨ h.1 a = 136 ∨ h.1 a = 137) q q_67 → sx_kf a0 [6, 7, 8, 9, 11, 12, 13, 14, 15, 32, 33] q q_67 → mv_N a0 q_67 → mv_S m23 m26 m28 m29 q_67 → q_67.2.2.1 a0 18 = m18 → q_67.2.2.1 a0 19 = m19 → q_67.2.2.1 a0 23 = m23 → q_67.2.2.1 a0 24 = m24 → q_67.2.2.1 a0 25 = m25 → q_67.2.2.1 a0 26 = m26 → q_67.2.2.1 a0 27 = m27 → q_67.2.2.1 a0 28 = m28 → q_67.2.2.1 a0 29 = m29 → q_67.2.2.1 a0 30 = m30 → q_67.2.2.2.1 m23 = (q_14.2.2.2.1 m23) → q_67.2.2.2.1 m27 = (q_14.2.2.2.1 m27) → q_67.2.2.2.1 m28 = (q_14.2.2.2.1 m28) → q_67.2.2.2.1 m29 = (q_14.2.2.2.1 m29) → q_67.2.2.2.1 m24 = (upd (q_14.2.2.2.1 m24) (v_48 : Int32).toNatClampNeg v_49) → q_67.2.2.2.1 m26 = (upd (q_14.2.2.2.1 m26) (v_48 : Int32).toNatClampNeg 0) → WA l dC dI h L ({ frames := 4, cells := 0, slots := 0, locals := 95 } : Room) 5 Z q_67 126 [(4, .int v_48), (3, .int r_42), (2, .int r_39), (0, .ref a0), (1, .int n1)] [] := by
              intro q_67 hV_q_67 hF_q_67 hK_q_67 mN_q_67 mS_q_67 p0_q_67 p1_q_67 p2_q_67 p3_q_67 p4_q_67 p5_q_67 p6_q_67 p7_q_67 p8_q_67 p9_q_67 p10_q_67 p11_q_67 p12_q_67 p13_q_67 p14_q_67 p15_q_67
              refine wa_aload_n B dX12_readTablet_126 rfl 3 rfl ?_
              refine wa_getI B (C := RX12) (T := TX12) (N := 51) iq_X12_readTablet_X12 ha0 ka0 (by decide) rfl 8 (by decide) (by decide) (by decide +kernel) rfl (by decide) (v := (q_67.1 a0 8)) rfl dX12_readTablet_127 ?_
              refine wa_iconst B 3 dX12_readTablet_130 (by decide) ?_
              refine wa_icmp_eq B 140 dX12_readTablet_131 (by decide) (fun (t_80 : (q_67.1 a0 8).toInt = 3) => ?_) (fun (t_80 : ¬ (q_67.1 a0 8).toInt = 3) => ?_)
              · have Lp_140_84 : ∀ (n : Nat) (q_81 : Sg), sx_V h L q_81 → sx_fr h L (fun a => h.1 a = 12 ∨ h.1 a = 133 ∨ h.1 a = 134 ∨ h.1 a = 135 ∨ h.1 a = 138 ∨ h.1 a = 139 ∨ h.1 a = 140 ∨ h.1 a = 136 ∨ h.1 a = 137) q q_81 → sx_kf a0 [6, 7, 8, 9, 11, 12, 13, 14, 15, 32, 33] q q_81 → mv_N a0 q_81 → mv_S m23 m26 m28 m29 q_81 → q_81.2.2.1 a0 18 = m18 → q_81.2.2.1 a0 19 = m19 → q_81.2.2.1 a0 23 = m23 → q_81.2.2.1 a0 24 = m24 → q_81.2.2.1 a0 25 = m25 → q_81.2.2.1 a0 26 = m26 → q_81.2.2.1 a0 27 = m27 → q_81.2.2.1 a0 28 = m28 → q_81.2.2.1 a0 29 = m29 → q_81.2.2.1 a0 30 = m30 → q_81.2.2.2.1 m23 = (q_14.2.2.2.1 m23) → q_81.2.2.2.1 m24 = (upd (q_14.2.2.2.1 m24) (v_48 : Int32).toNatClampNeg v_49) → mv_A (q_81.2.2.2.1 m26) (q_81.2.2.2.1 m30) (v_48).toNatClampNeg → mv_R (q_81.2.2.2.1 m28) (q_81.2.2.2.1 m29) (q_81.2.2.2.1 m26) (q_81.2.2.2.1 m27) (q_81.2.2.2.1 m23) (n1).toNatClampNeg (v_48).toNatClampNeg → (5 - (q_81.2.2.2.1 m26 (v_48).toNatClampNeg).toInt : Int).toNat < n → WA l dC dI h L ({ frames := 4, cells := 0, slots := 0, locals := 95 } : Room) 5 Z q_81 140 [(4, .int v_48), (3, .int r_42), (2, .int r_39), (0, .ref a0), (1, .int n1)] [] := by
                  intro n
                  induction n with
                  | zero =>
                    intro q_81 hV_q_81 hF_q_81 hK_q_81 mN_q_81 mS_q_81 p0_q_81 p1_q_81 p2_q_81 p3_q_81 p4_q_81 p5_q_81 p6_q_81 p7_q_81 p8_q_81 p9_q_81 p10_q_81 p11_q_81 x_82 x_83 hn
                    exact absurd hn (Nat.not_lt_zero _)
                  | succ n ih_85 =>
                    intro q_81 hV_q_81 hF_q_81 hK_q_81 mN_q_81 mS_q_81 p0_q_81 p1_q_81 p2_q_81 p3_q_81 p4_q_81 p5_q_81 p6_q_81 p7_q_81 p8_q_81 p9_q_81 p10_q_81 p11_q_81 x_82 x_83 hn
                    refine wa_aload_n B dX12_readTablet_140 rfl 3 rfl ?_
                    have z_86 : q_81.2.2.2.1 m23 (n1 : Int32).toNatClampNeg = (q_14.2.2.2.1 m23 (n1 : Int32).toNatClampNeg) := congrFun p10_q_81 _
                    have hRc : mv_R (q_81.2.2.2.1 m28) (q_81.2.2.2.1 m29) (q_81.2.2.2.1 m26) (q_81.2.2.2.1 m27) (q_14.2.2.2.1 m23) (n1).toNatClampNeg (v_48).toNatClampNeg := by have x9 := x_83; rw [p10_q_81] at x9; exact x9
                    refine wa_getI B (C := RX12) (T := TX12) (N := 51) iq_X12_readTablet_X12 ha0 ka0 (by decide) rfl 8 (by decide) (by decide) (by decide +kernel) rfl (by decide) (v := (q_81.1 a0 8)) rfl dX12_readTablet_141 ?_
                    refine wa_iconst B 3 dX12_readTablet_144 (by decide) ?_
                    refine wa_icmp_ne B 160 dX12_readTablet_145 (by decide) (fun (t_87 : ¬ (q_81.1 a0 8).toInt = 3) => ?_) (fun (t_87 : (q_81.1 a0 8).toInt = 3) => ?_)
                    · refine wa_aload_n B dX12_readTablet_160 rfl 3 rfl ?_
                      refine wa_getR B (C := RX12) (T := TX12) (N := 51) iq_X12_readTablet_X12 ha0 ka0 (by decide) rfl 24 (by decide) (by decide) (by decide +kernel) rfl (fun _ _ _ => rfl) (v := m24) p3_q_81 dX12_readTablet_161 ?_
                      refine wa_iload B dX12_readTablet_164 0 rfl ?_
                      have z_88 : q_81.2.2.2.1 m24 (v_48 : Int32).toNatClampNeg = (upd (q_14.2.2.2.1 m24) (v_48 : Int32).toNatClampNeg v_49 (v_48 : Int32).toNatClampNeg) := congrFun p11_q_81 _
                      refine wa_iaload B hm24 km24 (by decide) (by decide) (show 0 ≤ v_48.toInt by omega) (show v_48.toInt < (h.2.1 m24 : Int) by omega) (v := (upd (q_14.2.2.2.1 m24) (v_48 : Int32).toNatClampNeg v_49 (v_48 : Int32).toNatClampNeg)) z_88 dX12_readTablet_166 ?_
                      have Jn_188_90 : ∀  (q_89 : Sg), sx_V h L q_89 → sx_fr h L (fun a => h.1 a = 12 ∨ h.1 a = 133 ∨ h.1 a = 134 ∨ h.1 a = 135 ∨ h.1 a = 138 ∨ h.1 a = 139 ∨ h.1 a = 140 ∨ h.1 a = 136 ∨ h.1 a = 137) q q_89 → sx_kf a0 [6, 7, 8, 9, 11, 12, 13, 14, 15, 32, 33] q q_89 → mv_N a0 q_89 → mv_S m23 m26 m28 m29 q_89 → q_89.2.2.1 a0 18 = m18 → q_89.2.2.1 a0 19 = m19 → q_89.2.2.1 a0 23 = m23 → q_89.2.2.1 a0 24 = m24 → q_89.2.2.1 a0 25 = m25 → q_89.2.2.1 a0 26 = m26 → q_89.2.2.1 a0 27 = m27 → q_89.2.2.1 a0 28 = m28 → q_89.2.2.1 a0 29 = m29 → q_89.2.2.1 a0 30 = m30 → q_89.2.2.2.1 m23 = (q_14.2.2.2.1 m23) → q_89.2.2.2.1 m24 = (upd (q_14.2.2.2.1 m24) (v_48 : Int32).toNatClampNeg v_49) → q_89.2.2.2.1 m26 = (q_81.2.2.2.1 m26) → q_89.2.2.2.1 m27 = (q_81.2.2.2.1 m27) → q_89.2.2.2.1 m28 = (q_81.2.2.2.1 m28) → q_89.2.2.2.1 m29 = (q_81.2.2.2.1 m29) → WA l dC dI h L ({ frames := 4, cells := 0, slots := 0, locals := 95 } : Room) 5 Z q_89 188 [(4, .int v_48), (3, .int r_42), (2, .int r_39), (0, .ref a0), (1, .int n1)] [] := by
                        intro q_89 hV_q_89 hF_q_89 hK_q_89 mN_q_89 mS_q_89 p0_q_89 p1_q_89 p2_q_89 p3_q_89 p4_q_89 p5_q_89 p6_q_89 p7_q_89 p8_q_89 p9_q_89 p10_q_89 p11_q_89 p12_q_89 p13_q_89 p14_q_89 p15_q_89
                        refine wa_aload_n B dX12_readTablet_188 rfl 3 rfl ?_
                        refine wa_bipush B 59 dX12_readTablet_189 (by decide) ?_
                        refine wa_callVi B (x := (RX12, TX12, 51)) (As := [.int 59]) (rest := []) (k_X12_isSign l dC dI h L hN q_89 hV_q_89 (a0 := a0) ha0 ka0 59  ) (cwV 1 B.1.2.2.2.2 gX12_readTablet_X12_isSign rfl rfl rfl (by decide +kernel) ⟨Nat.le_of_ble_eq_true rfl, Nat.le_of_ble_eq_true rfl⟩) ha0 ka0 (by decide) rfl rfl rfl (Nat.le_of_ble_eq_true rfl) dX12_readTablet_191 (fun r_92 q_91 w_93 => ?_)
                        obtain ⟨ew_93, hw_93⟩ := w_93
                        subst ew_93
                        refine wa_if_ne B 203 dX12_readTablet_194 (by decide) (fun (t_94 : ¬ r_92.toInt = 0) => ?_) (fun (t_94 : r_92.toInt = 0) => ?_)
                        · refine wa_aload_n B dX12_readTablet_203 rfl 3 rfl ?_
                          refine wa_callVv B (x := (RX12, TX12, 51)) (As := []) (rest := []) (k_X12_go l dC dI h L hN q_89 hV_q_89 (a0 := a0) ha0 ka0  ) (cwV 0 B.1.2.2.2.2 gX12_readTablet_X12_go rfl rfl rfl (by decide +kernel) ⟨Nat.le_of_ble_eq_true rfl, Nat.le_of_ble_eq_true rfl⟩) ha0 ka0 (by decide) rfl rfl rfl (Nat.le_of_ble_eq_true rfl) dX12_readTablet_204 (fun q_95 w_96 => ?_)
                          obtain ⟨hV_q_95, h2_q_95, h3_q_95, mN_q_95⟩ := w_96
                          have hF_q_95 : sx_fr h L (fun a => h.1 a = 12 ∨ h.1 a = 133 ∨ h.1 a = 134 ∨ h.1 a = 135 ∨ h.1 a = 138 ∨ h.1 a = 139 ∨ h.1 a = 140 ∨ h.1 a = 136 ∨ h.1 a = 137) q q_95 := hF_q_89.tr (h2_q_95.mono (fun a (z : h.1 a = 12) => (show h.1 a = 12 ∨ h.1 a = 133 ∨ h.1 a = 134 ∨ h.1 a = 135 ∨ h.1 a = 138 ∨ h.1 a = 139 ∨ h.1 a = 140 ∨ h.1 a = 136 ∨ h.1 a = 137 from by omega)))
                          have hK_q_95 : sx_kf a0 [6, 7, 8, 9, 11, 12, 13, 14, 15, 32, 33] q q_95 := hK_q_89.tr (h3_q_95.mono (by decide))
                          have mS_q_95 : mv_S m23 m26 m28 m29 q_95 := mv_S.eq (h2_q_95.G hm23 (show ¬ (h.1 m23 = 12) from by omega) (by rw [km23]; decide)) (h2_q_95.G hm26 (show ¬ (h.1 m26 = 12) from by omega) (by rw [km26]; decide)) (h2_q_95.G hm28 (show ¬ (h.1 m28 = 12) from by omega) (by rw [km28]; decide)) (h2_q_95.G hm29 (show ¬ (h.1 m29 = 12) from by omega) (by rw [km29]; decide)) mS_q_89
                          refine wa_aload_n B dX12_readTablet_207 rfl 3 rfl ?_
                          have z_97 : q_95.2.2.1 a0 23 = m23 := (h2_q_95.R ha0 (show ¬ ((h.1 a0 = 12) ∧ (h.1 a0 = 8 ∨ h.1 a0 = 11)) from by omega) 23).trans (p2_q_89)
                          refine wa_getR B (C := RX12) (T := TX12) (N := 51) iq_X12_readTablet_X12 ha0 ka0 (by decide) rfl 23 (by decide) (by decide) (by decide +kernel) rfl (fun _ _ _ => rfl) (v := m23) z_97 dX12_readTablet_208 ?_
                          refine wa_iload_n B dX12_readTablet_211 rfl 4 rfl ?_
                          refine wa_dup2 B dX12_readTablet_212 rfl rfl ?_
                          have z_98 : q_95.2.2.2.1 m23 = (q_14.2.2.2.1 m23) := (h2_q_95.G hm23 (show ¬ (h.1 m23 = 12) from by omega) (by rw [km23]; decide)).trans (p10_q_89)
                          have z_99 : q_95.2.2.2.1 m23 (n1 : Int32).toNatClampNeg = (q_14.2.2.2.1 m23 (n1 : Int32).toNatClampNeg) := congrFun z_98 _
                          refine wa_iaload B hm23 km23 (by decide) (by decide) (show 0 ≤ n1.toInt by omega) (show n1.toInt < (h.2.1 m23 : Int) by omega) (v := (q_14.2.2.2.1 m23 (n1 : Int32).toNatClampNeg)) z_99 dX12_readTablet_213 ?_
                          refine wa_iconst B 1 dX12_readTablet_214 (by decide) ?_
                          refine wa_iadd B dX12_readTablet_215 (fun v_100 ev_100 => ?_)
                          have z_101 : q_95.2.2.2.1 m26 = (q_81.2.2.2.1 m26) := (h2_q_95.G hm26 (show ¬ (h.1 m26 = 12) from by omega) (by rw [km26]; decide)).trans (p12_q_89)
                          have z_102 : q_95.2.2.2.1 m27 = (q_81.2.2.2.1 m27) := (h2_q_95.G hm27 (show ¬ (h.1 m27 = 12) from by omega) (by rw [km27]; decide)).trans (p13_q_89)
                          have z_103 : q_95.2.2.2.1 m28 = (q_81.2.2.2.1 m28) := (h2_q_95.G hm28 (show ¬ (h.1 m28 = 12) from by omega) (by rw [km28]; decide)).trans (p14_q_89)
                          have z_104 : q_95.2.2.2.1 m29 = (q_81.2.2.2.1 m29) := (h2_q_95.G hm29 (show ¬ (h.1 m29 = 12) from by omega) (by rw [km29]; decide)).trans (p15_q_89)
                          have z_105 : q_95.2.2.2.1 m27 (n1 : Int32).toNatClampNeg = (q_81.2.2.2.1 m27 (n1 : Int32).toNatClampNeg) := congrFun z_102 _
                          have tv_100 : v_100.toInt = ((q_14.2.2.2.1 m23 (n1 : Int32).toNatClampNeg)).toInt + 1 := by have b0 := zx_bd ((q_14.2.2.2.1 m23 (n1 : Int32).toNatClampNeg)); rw [ev_100]; exact zx_add (show (-2147483648 : Int) ≤ ((q_14.2.2.2.1 m23 (n1 : Int32).toNatClampNeg)).toInt + 1 by omega) (show ((q_14.2.2.2.1 m23 (n1 : Int32).toNatClampNeg)).toInt + 1 < (2147483648 : Int) by omega)
                          have g_106 : 0 ≤ ((q_81.2.2.2.1 m27 (n1 : Int32).toNatClampNeg)).toInt ∧ ((q_81.2.2.2.1 m27 (n1 : Int32).toNatClampNeg)).toInt ≤ 4 := by rw [← z_105]; exact hV_q_95.cnt hm27 km27 _
                          refine wa_iastore B hm23 km23 (by decide) (by decide) (show 0 ≤ n1.toInt by omega) (show n1.toInt < (h.2.1 m23 : Int) by omega) dX12_readTablet_216 (fun q_107 eq_107 => ?_)
                          have hV_q_107 : sx_V h L q_107 := by rw [eq_107]; exact hV_q_95.up1 hm23 km23 (show sx_in v_100 (0) 12 from ⟨by omega, by omega⟩)
                          have hF_q_107 : sx_fr h L (fun a => h.1 a = 12 ∨ h.1 a = 133 ∨ h.1 a = 134 ∨ h.1 a = 135 ∨ h.1 a = 138 ∨ h.1 a = 139 ∨ h.1 a = 140 ∨ h.1 a = 136 ∨ h.1 a = 137) q q_107 := hF_q_95.tr (by rw [eq_107]; exact sx_fr.pG (show h.1 m23 = 100 ∨ (h.1 m23 = 12 ∨ h.1 m23 = 133 ∨ h.1 m23 = 134 ∨ h.1 m23 = 135 ∨ h.1 m23 = 138 ∨ h.1 m23 = 139 ∨ h.1 m23 = 140 ∨ h.1 m23 = 136 ∨ h.1 m23 = 137) from by omega))
                          have z_108 : q_107.2.2.2.1 m23 = (upd (q_14.2.2.2.1 m23) (n1 : Int32).toNatClampNeg v_100) := by rw [eq_107, sg_pG_e, z_98]
                          have z_109 : q_107.2.2.2.1 m23 (n1 : Int32).toNatClampNeg = v_100 := by rw [eq_107, sg_pG_e]; exact if_pos rfl
                          have hK_q_107 : sx_kf a0 [6, 7, 8, 9, 11, 12, 13, 14, 15, 32, 33] q q_107 := hK_q_95.tr (sx_kf.eq (by rw [eq_107]; rfl) (by rw [eq_107]; rfl))
                          have mN_q_107 : mv_N a0 q_107 := mv_N.eq ((show q_107.1 a0 8 = q_95.1 a0 8 from by rw [eq_107]; rfl)) ((show q_107.2.1 a0 11 = q_95.2.1 a0 11 from by rw [eq_107]; rfl)) mN_q_95
                          have z_110 : q_107.2.2.2.1 m26 = (q_81.2.2.2.1 m26) := ((show q_107.2.2.2.1 m26 = q_95.2.2.2.1 m26 from by rw [eq_107]; exact sg_pG_a (sx_ka h km26 km23 (by decide)))).trans (z_101)
                          have z_111 : q_107.2.2.2.1 m27 = (q_81.2.2.2.1 m27) := ((show q_107.2.2.2.1 m27 = q_95.2.2.2.1 m27 from by rw [eq_107]; exact sg_pG_a (sx_ka h km27 km23 (by decide)))).trans (z_102)
                          have z_112 : q_107.2.2.2.1 m28 = (q_81.2.2.2.1 m28) := ((show q_107.2.2.2.1 m28 = q_95.2.2.2.1 m28 from by rw [eq_107]; exact sg_pG_a (sx_ka h km28 km23 (by decide)))).trans (z_103)
                          have z_113 : q_107.2.2.2.1 m29 = (q_81.2.2.2.1 m29) := ((show q_107.2.2.2.1 m29 = q_95.2.2.2.1 m29 from by rw [eq_107]; exact sg_pG_a (sx_ka h km29 km23 (by decide)))).trans (z_104)
                          have mS_q_107 : mv_S m23 m26 m28 m29 q_107 := (((mS_q_95).f z_98 z_101 z_103 z_104).lm (t := n1.toNatClampNeg) (v := v_100) (by have z9 := mv_next (ln := (v_48 : Int32).toNatClampNeg) (v := v_100) (by have a9 := zx_nc n1; have a8 := zx_nc v_48; omega) (by omega) (by omega) hRc; omega)).S z_108 z_110 z_112 z_113
                          refine wa_aload_n B dX12_readTablet_217 rfl 3 rfl ?_
                          refine wa_getI B (C := RX12) (T := TX12) (N := 51) iq_X12_readTablet_X12 ha0 ka0 (by decide) rfl 8 (by decide) (by decide) (by decide +kernel) rfl (by decide) (v := (q_107.1 a0 8)) rfl dX12_readTablet_218 ?_
                          have y_114 : (q_107.2.2.2.1 m23 (n1).toNatClampNeg).toInt = v_100.toInt := by rw [z_109]
                          refine wa_if_ne B 14 dX12_readTablet_221 (by decide) (fun (t_115 : ¬ (q_107.1 a0 8).toInt = 0) => ?_) (fun (t_115 : (q_107.1 a0 8).toInt = 0) => ?_)
                          · have z_116 : q_107.2.2.1 a0 18 = m18 := ((show q_107.2.2.1 a0 18 = q_95.2.2.1 a0 18 from by rw [eq_107]; rfl)).trans ((h2_q_95.R ha0 (show ¬ ((h.1 a0 = 12) ∧ (h.1 a0 = 8 ∨ h.1 a0 = 11)) from by omega) 18).trans (p0_q_89))
                            have z_117 : q_107.2.2.1 a0 19 = m19 := ((show q_107.2.2.1 a0 19 = q_95.2.2.1 a0 19 from by rw [eq_107]; rfl)).trans ((h2_q_95.R ha0 (show ¬ ((h.1 a0 = 12) ∧ (h.1 a0 = 8 ∨ h.1 a0 = 11)) from by omega) 19).trans (p1_q_89))
                            have z_118 : q_107.2.2.1 a0 23 = m23 := ((show q_107.2.2.1 a0 23 = q_95.2.2.1 a0 23 from by rw [eq_107]; rfl)).trans (z_97)
                            have z_119 : q_107.2.2.1 a0 24 = m24 := ((show q_107.2.2.1 a0 24 = q_95.2.2.1 a0 24 from by rw [eq_107]; rfl)).trans ((h2_q_95.R ha0 (show ¬ ((h.1 a0 = 12) ∧ (h.1 a0 = 8 ∨ h.1 a0 = 11)) from by omega) 24).trans (p3_q_89))
                            have z_120 : q_107.2.2.1 a0 25 = m25 := ((show q_107.2.2.1 a0 25 = q_95.2.2.1 a0 25 from by rw [eq_107]; rfl)).trans ((h2_q_95.R ha0 (show ¬ ((h.1 a0 = 12) ∧ (h.1 a0 = 8 ∨ h.1 a0 = 11)) from by omega) 25).trans (p4_q_89))
                            have z_121 : q_107.2.2.1 a0 26 = m26 := ((show q_107.2.2.1 a0 26 = q_95.2.2.1 a0 26 from by rw [eq_107]; rfl)).trans ((h2_q_95.R ha0 (show ¬ ((h.1 a0 = 12) ∧ (h.1 a0 = 8 ∨ h.1 a0 = 11)) from by omega) 26).trans (p5_q_89))
                            have z_122 : q_107.2.2.1 a0 27 = m27 := ((show q_107.2.2.1 a0 27 = q_95.2.2.1 a0 27 from by rw [eq_107]; rfl)).trans ((h2_q_95.R ha0 (show ¬ ((h.1 a0 = 12) ∧ (h.1 a0 = 8 ∨ h.1 a0 = 11)) from by omega) 27).trans (p6_q_89))
                            have z_123 : q_107.2.2.1 a0 28 = m28 := ((show q_107.2.2.1 a0 28 = q_95.2.2.1 a0 28 from by rw [eq_107]; rfl)).trans ((h2_q_95.R ha0 (show ¬ ((h.1 a0 = 12) ∧ (h.1 a0 = 8 ∨ h.1 a0 = 11)) from by omega) 28).trans (p7_q_89))
                            have z_124 : q_107.2.2.1 a0 29 = m29 := ((show q_107.2.2.1 a0 29 = q_95.2.2.1 a0 29 from by rw [eq_107]; rfl)).trans ((h2_q_95.R ha0 (show ¬ ((h.1 a0 = 12) ∧ (h.1 a0 = 8 ∨ h.1 a0 = 11)) from by omega) 29).trans (p8_q_89))
                            have z_125 : q_107.2.2.1 a0 30 = m30 := ((show q_107.2.2.1 a0 30 = q_95.2.2.1 a0 30 from by rw [eq_107]; rfl)).trans ((h2_q_95.R ha0 (show ¬ ((h.1 a0 = 12) ∧ (h.1 a0 = 8 ∨ h.1 a0 = 11)) from by omega) 30).trans (p9_q_89))
                            refine WA.sub [3, 4] rfl ?_
                            exact ih_36 q_107 hV_q_107 hF_q_107 hK_q_107 mN_q_107 mS_q_107 z_116 z_117 z_118 z_119 z_120 z_121 z_122 z_123 z_124 z_125 (show (q_107.2.2.2.1 m27 (n1).toNatClampNeg).toInt = ((mv_s (q_107.2.2.2.1 m28) (q_107.2.2.2.1 m29) (q_107.2.2.2.1 m26) (n1).toNatClampNeg (q_107.2.2.2.1 m23 (n1).toNatClampNeg).toInt.toNat : Nat) : Int) from by rw [z_112, z_113, z_110, z_111, z_109]; exact mv_next (ln := (v_48 : Int32).toNatClampNeg) (by have a9 := zx_nc n1; have a8 := zx_nc v_48; omega) (by omega) (by omega) hRc) (show (13 - (q_107.2.2.2.1 m23 (n1).toNatClampNeg).toInt : Int).toNat < _ from by omega)
                          · refine wa_iconst B 1 dX12_readTablet_224 (by decide) ?_
                            exact hret _ _ _ _ dX12_readTablet_225 (Or.inr rfl) ⟨hV_q_107, hF_q_107, hK_q_107, mN_q_107, mS_q_107, (by have h9 : (1 : Int32).toInt = 1 := rfl; first | omega | (refine ⟨?_, ?_⟩ <;> omega) | trivial)⟩
                        · refine wa_aload_n B dX12_readTablet_197 rfl 3 rfl ?_
                          refine wa_iconst B 1 dX12_readTablet_198 (by decide) ?_
                          refine wa_callVi B (x := (RX12, TX12, 51)) (As := [.int 1]) (rest := []) (k_X12_bad l dC dI h L hN q_89 hV_q_89 (a0 := a0) ha0 ka0 1  ) (cwV 1 B.1.2.2.2.2 gX12_readTablet_X12_bad rfl rfl rfl (by decide +kernel) ⟨Nat.le_of_ble_eq_true rfl, Nat.le_of_ble_eq_true rfl⟩) ha0 ka0 (by decide) rfl rfl rfl (Nat.le_of_ble_eq_true rfl) dX12_readTablet_199 (fun r_127 q_126 w_128 => ?_)
                          obtain ⟨hV_q_126, h2_q_126, h3_q_126, hw_128⟩ := w_128
                          have hF_q_126 : sx_fr h L (fun a => h.1 a = 12 ∨ h.1 a = 133 ∨ h.1 a = 134 ∨ h.1 a = 135 ∨ h.1 a = 138 ∨ h.1 a = 139 ∨ h.1 a = 140 ∨ h.1 a = 136 ∨ h.1 a = 137) q q_126 := hF_q_89.tr (h2_q_126.mono (fun a (z : h.1 a = 12) => (show h.1 a = 12 ∨ h.1 a = 133 ∨ h.1 a = 134 ∨ h.1 a = 135 ∨ h.1 a = 138 ∨ h.1 a = 139 ∨ h.1 a = 140 ∨ h.1 a = 136 ∨ h.1 a = 137 from by omega)))
                          have hK_q_126 : sx_kf a0 [6, 7, 8, 9, 11, 12, 13, 14, 15, 32, 33] q q_126 := hK_q_89.tr (h3_q_126.mono (by decide))
                          have mN_q_126 : mv_N a0 q_126 := mv_N.eq (h3_q_126.1 8 (by decide)) (h3_q_126.2 11 (by decide)) mN_q_89
                          have mS_q_126 : mv_S m23 m26 m28 m29 q_126 := mv_S.eq (h2_q_126.G hm23 (show ¬ (h.1 m23 = 12) from by omega) (by rw [km23]; decide)) (h2_q_126.G hm26 (show ¬ (h.1 m26 = 12) from by omega) (by rw [km26]; decide)) (h2_q_126.G hm28 (show ¬ (h.1 m28 = 12) from by omega) (by rw [km28]; decide)) (h2_q_126.G hm29 (show ¬ (h.1 m29 = 12) from by omega) (by rw [km29]; decide)) mS_q_89
                          exact hret _ _ _ _ dX12_readTablet_202 (zx_01 (by omega)) ⟨hV_q_126, hF_q_126, hK_q_126, mN_q_126, mS_q_126, (by first | omega | (refine ⟨?_, ?_⟩ <;> omega) | trivial)⟩
                      refine wa_if_ne B 188 dX12_readTablet_167 (by decide) (fun (t_129 : ¬ ((upd (q_14.2.2.2.1 m24) (v_48 : Int32).toNatClampNeg v_49 (v_48 : Int32).toNatClampNeg)).toInt = 0) => ?_) (fun (t_129 : ((upd (q_14.2.2.2.1 m24) (v_48 : Int32).toNatClampNeg v_49 (v_48 : Int32).toNatClampNeg)).toInt = 0) => ?_)
                      · exact Jn_188_90 q_81 hV_q_81 hF_q_81 hK_q_81 mN_q_81 mS_q_81 p0_q_81 p1_q_81 p2_q_81 p3_q_81 p4_q_81 p5_q_81 p6_q_81 p7_q_81 p8_q_81 p9_q_81 p10_q_81 p11_q_81 rfl rfl rfl rfl
                      · refine wa_aload_n B dX12_readTablet_170 rfl 3 rfl ?_
                        refine wa_callVi B (x := (RX12, TX12, 51)) (As := []) (rest := []) (k_X12_isFree l dC dI h L hN q_81 hV_q_81 (a0 := a0) ha0 ka0  ) (cwV 0 B.1.2.2.2.2 gX12_readTablet_X12_isFree rfl rfl rfl (by decide +kernel) ⟨Nat.le_of_ble_eq_true rfl, Nat.le_of_ble_eq_true rfl⟩) ha0 ka0 (by decide) rfl rfl rfl (Nat.le_of_ble_eq_true rfl) dX12_readTablet_171 (fun r_131 q_130 w_132 => ?_)
                        obtain ⟨ew_132, hw_132⟩ := w_132
                        subst ew_132
                        refine wa_if_eq B 188 dX12_readTablet_174 (by decide) (fun (t_133 : r_131.toInt = 0) => ?_) (fun (t_133 : ¬ r_131.toInt = 0) => ?_)
                        · exact Jn_188_90 q_81 hV_q_81 hF_q_81 hK_q_81 mN_q_81 mS_q_81 p0_q_81 p1_q_81 p2_q_81 p3_q_81 p4_q_81 p5_q_81 p6_q_81 p7_q_81 p8_q_81 p9_q_81 p10_q_81 p11_q_81 rfl rfl rfl rfl
                        · refine wa_aload_n B dX12_readTablet_177 rfl 3 rfl ?_
                          refine wa_callVi B (x := (RX12, TX12, 51)) (As := []) (rest := []) (k_X12_isUnit l dC dI h L hN q_81 hV_q_81 (a0 := a0) ha0 ka0  ) (cwV 0 B.1.2.2.2.2 gX12_readTablet_X12_isUnit rfl rfl rfl (by decide +kernel) ⟨Nat.le_of_ble_eq_true rfl, Nat.le_of_ble_eq_true rfl⟩) ha0 ka0 (by decide) rfl rfl rfl (Nat.le_of_ble_eq_true rfl) dX12_readTablet_178 (fun r_135 q_134 w_136 => ?_)
                          obtain ⟨hV_q_134, h2_q_134, h3_q_134, hw_136⟩ := w_136
                          have hF_q_134 : sx_fr h L (fun a => h.1 a = 12 ∨ h.1 a = 133 ∨ h.1 a = 134 ∨ h.1 a = 135 ∨ h.1 a = 138 ∨ h.1 a = 139 ∨ h.1 a = 140 ∨ h.1 a = 136 ∨ h.1 a = 137) q q_134 := hF_q_81.tr (h2_q_134.mono (fun a (z : h.1 a = 12) => (show h.1 a = 12 ∨ h.1 a = 133 ∨ h.1 a = 134 ∨ h.1 a = 135 ∨ h.1 a = 138 ∨ h.1 a = 139 ∨ h.1 a = 140 ∨ h.1 a = 136 ∨ h.1 a = 137 from by omega)))
                          have hK_q_134 : sx_kf a0 [6, 7, 8, 9, 11, 12, 13, 14, 15, 32, 33] q q_134 := hK_q_81.tr (h3_q_134.mono (by decide))
                          have mN_q_134 : mv_N a0 q_134 := mv_N.eq (h3_q_134.1 8 (by decide)) (h3_q_134.2 11 (by decide)) mN_q_81
                          have mS_q_134 : mv_S m23 m26 m28 m29 q_134 := mv_S.eq (h2_q_134.G hm23 (show ¬ (h.1 m23 = 12) from by omega) (by rw [km23]; decide)) (h2_q_134.G hm26 (show ¬ (h.1 m26 = 12) from by omega) (by rw [km26]; decide)) (h2_q_134.G hm28 (show ¬ (h.1 m28 = 12) from by omega) (by rw [km28]; decide)) (h2_q_134.G hm29 (show ¬ (h.1 m29 = 12) from by omega) (by rw [km29]; decide)) mS_q_81
                          refine wa_if_ne B 188 dX12_readTablet_181 (by decide) (fun (t_137 : ¬ r_135.toInt = 0) => ?_) (fun (t_137 : r_135.toInt = 0) => ?_)
                          · have z_138 : q_134.2.2.1 a0 18 = m18 := (h2_q_134.R ha0 (show ¬ ((h.1 a0 = 12) ∧ (h.1 a0 = 8 ∨ h.1 a0 = 11)) from by omega) 18).trans (p0_q_81)
                            have z_139 : q_134.2.2.1 a0 19 = m19 := (h2_q_134.R ha0 (show ¬ ((h.1 a0 = 12) ∧ (h.1 a0 = 8 ∨ h.1 a0 = 11)) from by omega) 19).trans (p1_q_81)
                            have z_140 : q_134.2.2.1 a0 23 = m23 := (h2_q_134.R ha0 (show ¬ ((h.1 a0 = 12) ∧ (h.1 a0 = 8 ∨ h.1 a0 = 11)) from by omega) 23).trans (p2_q_81)
                            have z_141 : q_134.2.2.1 a0 24 = m24 := (h2_q_134.R ha0 (show ¬ ((h.1 a0 = 12) ∧ (h.1 a0 = 8 ∨ h.1 a0 = 11)) from by omega) 24).trans (p3_q_81)
                            have z_142 : q_134.2.2.1 a0 25 = m25 := (h2_q_134.R ha0 (show ¬ ((h.1 a0 = 12) ∧ (h.1 a0 = 8 ∨ h.1 a0 = 11)) from by omega) 25).trans (p4_q_81)
                            have z_143 : q_134.2.2.1 a0 26 = m26 := (h2_q_134.R ha0 (show ¬ ((h.1 a0 = 12) ∧ (h.1 a0 = 8 ∨ h.1 a0 = 11)) from by omega) 26).trans (p5_q_81)
                            have z_144 : q_134.2.2.1 a0 27 = m27 := (h2_q_134.R ha0 (show ¬ ((h.1 a0 = 12) ∧ (h.1 a0 = 8 ∨ h.1 a0 = 11)) from by omega) 27).trans (p6_q_81)
                            have z_145 : q_134.2.2.1 a0 28 = m28 := (h2_q_134.R ha0 (show ¬ ((h.1 a0 = 12) ∧ (h.1 a0 = 8 ∨ h.1 a0 = 11)) from by omega) 28).trans (p7_q_81)
                            have z_146 : q_134.2.2.1 a0 29 = m29 := (h2_q_134.R ha0 (show ¬ ((h.1 a0 = 12) ∧ (h.1 a0 = 8 ∨ h.1 a0 = 11)) from by omega) 29).trans (p8_q_81)
                            have z_147 : q_134.2.2.1 a0 30 = m30 := (h2_q_134.R ha0 (show ¬ ((h.1 a0 = 12) ∧ (h.1 a0 = 8 ∨ h.1 a0 = 11)) from by omega) 30).trans (p9_q_81)
                            have z_148 : q_134.2.2.2.1 m23 = (q_14.2.2.2.1 m23) := (h2_q_134.G hm23 (show ¬ (h.1 m23 = 12) from by omega) (by rw [km23]; decide)).trans (p10_q_81)
                            have z_149 : q_134.2.2.2.1 m24 = (upd (q_14.2.2.2.1 m24) (v_48 : Int32).toNatClampNeg v_49) := (h2_q_134.G hm24 (show ¬ (h.1 m24 = 12) from by omega) (by rw [km24]; decide)).trans (p11_q_81)
                            have z_150 : q_134.2.2.2.1 m26 = q_81.2.2.2.1 m26 := h2_q_134.G hm26 (show ¬ (h.1 m26 = 12) from by omega) (by rw [km26]; decide)
                            have z_151 : q_134.2.2.2.1 m27 = q_81.2.2.2.1 m27 := h2_q_134.G hm27 (show ¬ (h.1 m27 = 12) from by omega) (by rw [km27]; decide)
                            have z_152 : q_134.2.2.2.1 m28 = q_81.2.2.2.1 m28 := h2_q_134.G hm28 (show ¬ (h.1 m28 = 12) from by omega) (by rw [km28]; decide)
                            have z_153 : q_134.2.2.2.1 m29 = q_81.2.2.2.1 m29 := h2_q_134.G hm29 (show ¬ (h.1 m29 = 12) from by omega) (by rw [km29]; decide)
                            exact Jn_188_90 q_134 hV_q_134 hF_q_134 hK_q_134 mN_q_134 mS_q_134 z_138 z_139 z_140 z_141 z_142 z_143 z_144 z_145 z_146 z_147 z_148 z_149 z_150 z_151 z_152 z_153
                          · refine wa_aload_n B dX12_readTablet_184 rfl 3 rfl ?_
                            refine wa_callVv B (x := (RX12, TX12, 51)) (As := []) (rest := []) (k_X12_go l dC dI h L hN q_134 hV_q_134 (a0 := a0) ha0 ka0  ) (cwV 0 B.1.2.2.2.2 gX12_readTablet_X12_go rfl rfl rfl (by decide +kernel) ⟨Nat.le_of_ble_eq_true rfl, Nat.le_of_ble_eq_true rfl⟩) ha0 ka0 (by decide) rfl rfl rfl (Nat.le_of_ble_eq_true rfl) dX12_readTablet_185 (fun q_154 w_155 => ?_)
                            obtain ⟨hV_q_154, h2_q_154, h3_q_154, mN_q_154⟩ := w_155
                            have hF_q_154 : sx_fr h L (fun a => h.1 a = 12 ∨ h.1 a = 133 ∨ h.1 a = 134 ∨ h.1 a = 135 ∨ h.1 a = 138 ∨ h.1 a = 139 ∨ h.1 a = 140 ∨ h.1 a = 136 ∨ h.1 a = 137) q q_154 := hF_q_134.tr (h2_q_154.mono (fun a (z : h.1 a = 12) => (show h.1 a = 12 ∨ h.1 a = 133 ∨ h.1 a = 134 ∨ h.1 a = 135 ∨ h.1 a = 138 ∨ h.1 a = 139 ∨ h.1 a = 140 ∨ h.1 a = 136 ∨ h.1 a = 137 from by omega)))
                            have hK_q_154 : sx_kf a0 [6, 7, 8, 9, 11, 12, 13, 14, 15, 32, 33] q q_154 := hK_q_134.tr (h3_q_154.mono (by decide))
                            have mS_q_154 : mv_S m23 m26 m28 m29 q_154 := mv_S.eq (h2_q_154.G hm23 (show ¬ (h.1 m23 = 12) from by omega) (by rw [km23]; decide)) (h2_q_154.G hm26 (show ¬ (h.1 m26 = 12) from by omega) (by rw [km26]; decide)) (h2_q_154.G hm28 (show ¬ (h.1 m28 = 12) from by omega) (by rw [km28]; decide)) (h2_q_154.G hm29 (show ¬ (h.1 m29 = 12) from by omega) (by rw [km29]; decide)) mS_q_134
                            have z_156 : q_154.2.2.1 a0 18 = m18 := (h2_q_154.R ha0 (show ¬ ((h.1 a0 = 12) ∧ (h.1 a0 = 8 ∨ h.1 a0 = 11)) from by omega) 18).trans ((h2_q_134.R ha0 (show ¬ ((h.1 a0 = 12) ∧ (h.1 a0 = 8 ∨ h.1 a0 = 11)) from by omega) 18).trans (p0_q_81))
                            have z_157 : q_154.2.2.1 a0 19 = m19 := (h2_q_154.R ha0 (show ¬ ((h.1 a0 = 12) ∧ (h.1 a0 = 8 ∨ h.1 a0 = 11)) from by omega) 19).trans ((h2_q_134.R ha0 (show ¬ ((h.1 a0 = 12) ∧ (h.1 a0 = 8 ∨ h.1 a0 = 11)) from by omega) 19).trans (p1_q_81))
                            have z_158 : q_154.2.2.1 a0 23 = m23 := (h2_q_154.R ha0 (show ¬ ((h.1 a0 = 12) ∧ (h.1 a0 = 8 ∨ h.1 a0 = 11)) from by omega) 23).trans ((h2_q_134.R ha0 (show ¬ ((h.1 a0 = 12) ∧ (h.1 a0 = 8 ∨ h.1 a0 = 11)) from by omega) 23).trans (p2_q_81))
                            have z_159 : q_154.2.2.1 a0 24 = m24 := (h2_q_154.R ha0 (show ¬ ((h.1 a0 = 12) ∧ (h.1 a0 = 8 ∨ h.1 a0 = 11)) from by omega) 24).trans ((h2_q_134.R ha0 (show ¬ ((h.1 a0 = 12) ∧ (h.1 a0 = 8 ∨ h.1 a0 = 11)) from by omega) 24).trans (p3_q_81))
                            have z_160 : q_154.2.2.1 a0 25 = m25 := (h2_q_154.R ha0 (show ¬ ((h.1 a0 = 12) ∧ (h.1 a0 = 8 ∨ h.1 a0 = 11)) from by omega) 25).trans ((h2_q_134.R ha0 (show ¬ ((h.1 a0 = 12) ∧ (h.1 a0 = 8 ∨ h.1 a0 = 11)) from by omega) 25).trans (p4_q_81))
                            have z_161 : q_154.2.2.1 a0 26 = m26 := (h2_q_154.R ha0 (show ¬ ((h.1 a0 = 12) ∧ (h.1 a0 = 8 ∨ h.1 a0 = 11)) from by omega) 26).trans ((h2_q_134.R ha0 (show ¬ ((h.1 a0 = 12) ∧ (h.1 a0 = 8 ∨ h.1 a0 = 11)) from by omega) 26).trans (p5_q_81))
                            have z_162 : q_154.2.2.1 a0 27 = m27 := (h2_q_154.R ha0 (show ¬ ((h.1 a0 = 12) ∧ (h.1 a0 = 8 ∨ h.1 a0 = 11)) from by omega) 27).trans ((h2_q_134.R ha0 (show ¬ ((h.1 a0 = 12) ∧ (h.1 a0 = 8 ∨ h.1 a0 = 11)) from by omega) 27).trans (p6_q_81))
                            have z_163 : q_154.2.2.1 a0 28 = m28 := (h2_q_154.R ha0 (show ¬ ((h.1 a0 = 12) ∧ (h.1 a0 = 8 ∨ h.1 a0 = 11)) from by omega) 28).trans ((h2_q_134.R ha0 (show ¬ ((h.1 a0 = 12) ∧ (h.1 a0 = 8 ∨ h.1 a0 = 11)) from by omega) 28).trans (p7_q_81))
                            have z_164 : q_154.2.2.1 a0 29 = m29 := (h2_q_154.R ha0 (show ¬ ((h.1 a0 = 12) ∧ (h.1 a0 = 8 ∨ h.1 a0 = 11)) from by omega) 29).trans ((h2_q_134.R ha0 (show ¬ ((h.1 a0 = 12) ∧ (h.1 a0 = 8 ∨ h.1 a0 = 11)) from by omega) 29).trans (p8_q_81))
                            have z_165 : q_154.2.2.1 a0 30 = m30 := (h2_q_154.R ha0 (show ¬ ((h.1 a0 = 12) ∧ (h.1 a0 = 8 ∨ h.1 a0 = 11)) from by omega) 30).trans ((h2_q_134.R ha0 (show ¬ ((h.1 a0 = 12) ∧ (h.1 a0 = 8 ∨ h.1 a0 = 11)) from by omega) 30).trans (p9_q_81))
                            have z_166 : q_154.2.2.2.1 m23 = (q_14.2.2.2.1 m23) := (h2_q_154.G hm23 (show ¬ (h.1 m23 = 12) from by omega) (by rw [km23]; decide)).trans ((h2_q_134.G hm23 (show ¬ (h.1 m23 = 12) from by omega) (by rw [km23]; decide)).trans (p10_q_81))
                            have z_167 : q_154.2.2.2.1 m24 = (upd (q_14.2.2.2.1 m24) (v_48 : Int32).toNatClampNeg v_49) := (h2_q_154.G hm24 (show ¬ (h.1 m24 = 12) from by omega) (by rw [km24]; decide)).trans ((h2_q_134.G hm24 (show ¬ (h.1 m24 = 12) from by omega) (by rw [km24]; decide)).trans (p11_q_81))
                            have z_168 : q_154.2.2.2.1 m26 = q_81.2.2.2.1 m26 := (h2_q_154.G hm26 (show ¬ (h.1 m26 = 12) from by omega) (by rw [km26]; decide)).trans (h2_q_134.G hm26 (show ¬ (h.1 m26 = 12) from by omega) (by rw [km26]; decide))
                            have z_169 : q_154.2.2.2.1 m27 = q_81.2.2.2.1 m27 := (h2_q_154.G hm27 (show ¬ (h.1 m27 = 12) from by omega) (by rw [km27]; decide)).trans (h2_q_134.G hm27 (show ¬ (h.1 m27 = 12) from by omega) (by rw [km27]; decide))
                            have z_170 : q_154.2.2.2.1 m28 = q_81.2.2.2.1 m28 := (h2_q_154.G hm28 (show ¬ (h.1 m28 = 12) from by omega) (by rw [km28]; decide)).trans (h2_q_134.G hm28 (show ¬ (h.1 m28 = 12) from by omega) (by rw [km28]; decide))
                            have z_171 : q_154.2.2.2.1 m29 = q_81.2.2.2.1 m29 := (h2_q_154.G hm29 (show ¬ (h.1 m29 = 12) from by omega) (by rw [km29]; decide)).trans (h2_q_134.G hm29 (show ¬ (h.1 m29 = 12) from by omega) (by rw [km29]; decide))
                            exact Jn_188_90 q_154 hV_q_154 hF_q_154 hK_q_154 mN_q_154 mS_q_154 z_156 z_157 z_158 z_159 z_160 z_161 z_162 z_163 z_164 z_165 z_166 z_167 z_168 z_169 z_170 z_171
                    · refine wa_aload_n B dX12_readTablet_148 rfl 3 rfl ?_
                      refine wa_iload_n B dX12_readTablet_149 rfl 4 rfl ?_
                      refine wa_iload B dX12_readTablet_150 0 rfl ?_
                      refine wa_callVi B (x := (RX12, TX12, 51)) (As := [.int n1, .int v_48]) (rest := []) (k_X12_readAmount l dC dI h L hN q_81 hV_q_81 (a0 := a0) ha0 ka0 n1 v_48 (m18 := m18) p0_q_81 (m19 := m19) p1_q_81 (m23 := m23) p2_q_81 (m25 := m25) p4_q_81 (m26 := m26) p5_q_81 (m27 := m27) p6_q_81 (m28 := m28) p7_q_81 (m29 := m29) p8_q_81 (m30 := m30) p9_q_81 mN_q_81 mS_q_81 (by first | assumption | omega | decide) (by first | assumption | omega | decide) (by first | assumption | omega | decide) (by first | assumption | omega | decide) (by rw [z_86]; omega) (by rw [z_86]; omega) x_82 x_83) (cwV 2 B.1.2.2.2.2 gX12_readTablet_X12_readAmount rfl rfl rfl (by decide +kernel) ⟨Nat.le_of_ble_eq_true rfl, Nat.le_of_ble_eq_true rfl⟩) ha0 ka0 (by decide) rfl rfl rfl (Nat.le_of_ble_eq_true rfl) dX12_readTablet_152 (fun r_173 q_172 w_174 => ?_)
                      obtain ⟨hV_q_172, h2_q_172, h3_q_172, mN_q_172, mS_q_172, hw_174⟩ := w_174
                      have hF_q_172 : sx_fr h L (fun a => h.1 a = 12 ∨ h.1 a = 133 ∨ h.1 a = 134 ∨ h.1 a = 135 ∨ h.1 a = 138 ∨ h.1 a = 139 ∨ h.1 a = 140 ∨ h.1 a = 136 ∨ h.1 a = 137) q q_172 := hF_q_81.tr (h2_q_172.mono (fun a (z : h.1 a = 12 ∨ h.1 a = 135 ∨ h.1 a = 138 ∨ h.1 a = 139 ∨ h.1 a = 140 ∨ h.1 a = 136 ∨ h.1 a = 137) => (show h.1 a = 12 ∨ h.1 a = 133 ∨ h.1 a = 134 ∨ h.1 a = 135 ∨ h.1 a = 138 ∨ h.1 a = 139 ∨ h.1 a = 140 ∨ h.1 a = 136 ∨ h.1 a = 137 from by omega)))
                      have hK_q_172 : sx_kf a0 [6, 7, 8, 9, 11, 12, 13, 14, 15, 32, 33] q q_172 := hK_q_81.tr (h3_q_172.mono (by decide))
                      have g_175 : 0 ≤ (q_172.2.2.2.1 m26 (v_48).toNatClampNeg).toInt ∧ (q_172.2.2.2.1 m26 (v_48).toNatClampNeg).toInt ≤ 5 := hV_q_172.cnt hm26 km26 _
                      refine wa_if_ne B 140 dX12_readTablet_155 (by decide) (fun (t_176 : ¬ r_173.toInt = 0) => ?_) (fun (t_176 : r_173.toInt = 0) => ?_)
                      · have z_177 : q_172.2.2.1 a0 18 = m18 := (h2_q_172.R ha0 (show ¬ ((h.1 a0 = 12 ∨ h.1 a0 = 135 ∨ h.1 a0 = 138 ∨ h.1 a0 = 139 ∨ h.1 a0 = 140 ∨ h.1 a0 = 136 ∨ h.1 a0 = 137) ∧ (h.1 a0 = 8 ∨ h.1 a0 = 11)) from by omega) 18).trans (p0_q_81)
                        have z_178 : q_172.2.2.1 a0 19 = m19 := (h2_q_172.R ha0 (show ¬ ((h.1 a0 = 12 ∨ h.1 a0 = 135 ∨ h.1 a0 = 138 ∨ h.1 a0 = 139 ∨ h.1 a0 = 140 ∨ h.1 a0 = 136 ∨ h.1 a0 = 137) ∧ (h.1 a0 = 8 ∨ h.1 a0 = 11)) from by omega) 19).trans (p1_q_81)
                        have z_179 : q_172.2.2.1 a0 23 = m23 := (h2_q_172.R ha0 (show ¬ ((h.1 a0 = 12 ∨ h.1 a0 = 135 ∨ h.1 a0 = 138 ∨ h.1 a0 = 139 ∨ h.1 a0 = 140 ∨ h.1 a0 = 136 ∨ h.1 a0 = 137) ∧ (h.1 a0 = 8 ∨ h.1 a0 = 11)) from by omega) 23).trans (p2_q_81)
                        have z_180 : q_172.2.2.1 a0 24 = m24 := (h2_q_172.R ha0 (show ¬ ((h.1 a0 = 12 ∨ h.1 a0 = 135 ∨ h.1 a0 = 138 ∨ h.1 a0 = 139 ∨ h.1 a0 = 140 ∨ h.1 a0 = 136 ∨ h.1 a0 = 137) ∧ (h.1 a0 = 8 ∨ h.1 a0 = 11)) from by omega) 24).trans (p3_q_81)
                        have z_181 : q_172.2.2.1 a0 25 = m25 := (h2_q_172.R ha0 (show ¬ ((h.1 a0 = 12 ∨ h.1 a0 = 135 ∨ h.1 a0 = 138 ∨ h.1 a0 = 139 ∨ h.1 a0 = 140 ∨ h.1 a0 = 136 ∨ h.1 a0 = 137) ∧ (h.1 a0 = 8 ∨ h.1 a0 = 11)) from by omega) 25).trans (p4_q_81)
                        have z_182 : q_172.2.2.1 a0 26 = m26 := (h2_q_172.R ha0 (show ¬ ((h.1 a0 = 12 ∨ h.1 a0 = 135 ∨ h.1 a0 = 138 ∨ h.1 a0 = 139 ∨ h.1 a0 = 140 ∨ h.1 a0 = 136 ∨ h.1 a0 = 137) ∧ (h.1 a0 = 8 ∨ h.1 a0 = 11)) from by omega) 26).trans (p5_q_81)
                        have z_183 : q_172.2.2.1 a0 27 = m27 := (h2_q_172.R ha0 (show ¬ ((h.1 a0 = 12 ∨ h.1 a0 = 135 ∨ h.1 a0 = 138 ∨ h.1 a0 = 139 ∨ h.1 a0 = 140 ∨ h.1 a0 = 136 ∨ h.1 a0 = 137) ∧ (h.1 a0 = 8 ∨ h.1 a0 = 11)) from by omega) 27).trans (p6_q_81)
                        have z_184 : q_172.2.2.1 a0 28 = m28 := (h2_q_172.R ha0 (show ¬ ((h.1 a0 = 12 ∨ h.1 a0 = 135 ∨ h.1 a0 = 138 ∨ h.1 a0 = 139 ∨ h.1 a0 = 140 ∨ h.1 a0 = 136 ∨ h.1 a0 = 137) ∧ (h.1 a0 = 8 ∨ h.1 a0 = 11)) from by omega) 28).trans (p7_q_81)
                        have z_185 : q_172.2.2.1 a0 29 = m29 := (h2_q_172.R ha0 (show ¬ ((h.1 a0 = 12 ∨ h.1 a0 = 135 ∨ h.1 a0 = 138 ∨ h.1 a0 = 139 ∨ h.1 a0 = 140 ∨ h.1 a0 = 136 ∨ h.1 a0 = 137) ∧ (h.1 a0 = 8 ∨ h.1 a0 = 11)) from by omega) 29).trans (p8_q_81)
                        have z_186 : q_172.2.2.1 a0 30 = m30 := (h2_q_172.R ha0 (show ¬ ((h.1 a0 = 12 ∨ h.1 a0 = 135 ∨ h.1 a0 = 138 ∨ h.1 a0 = 139 ∨ h.1 a0 = 140 ∨ h.1 a0 = 136 ∨ h.1 a0 = 137) ∧ (h.1 a0 = 8 ∨ h.1 a0 = 11)) from by omega) 30).trans (p9_q_81)
                        have z_187 : q_172.2.2.2.1 m23 = (q_14.2.2.2.1 m23) := (h2_q_172.G hm23 (show ¬ (h.1 m23 = 12 ∨ h.1 m23 = 135 ∨ h.1 m23 = 138 ∨ h.1 m23 = 139 ∨ h.1 m23 = 140 ∨ h.1 m23 = 136 ∨ h.1 m23 = 137) from by omega) (by rw [km23]; decide)).trans (p10_q_81)
                        have z_188 : q_172.2.2.2.1 m24 = (upd (q_14.2.2.2.1 m24) (v_48 : Int32).toNatClampNeg v_49) := (h2_q_172.G hm24 (show ¬ (h.1 m24 = 12 ∨ h.1 m24 = 135 ∨ h.1 m24 = 138 ∨ h.1 m24 = 139 ∨ h.1 m24 = 140 ∨ h.1 m24 = 136 ∨ h.1 m24 = 137) from by omega) (by rw [km24]; decide)).trans (p11_q_81)
                        exact ih_85 q_172 hV_q_172 hF_q_172 hK_q_172 mN_q_172 mS_q_172 z_177 z_178 z_179 z_180 z_181 z_182 z_183 z_184 z_185 z_186 z_187 z_188 (show mv_A (q_172.2.2.2.1 m26) (q_172.2.2.2.1 m30) (v_48).toNatClampNeg from by rcases hw_174 with ⟨_, z9, z8, _⟩ | z9 <;> first | exact z9 | omega) (show mv_R (q_172.2.2.2.1 m28) (q_172.2.2.2.1 m29) (q_172.2.2.2.1 m26) (q_172.2.2.2.1 m27) (q_172.2.2.2.1 m23) (n1).toNatClampNeg (v_48).toNatClampNeg from by rcases hw_174 with ⟨_, z9, z8, _⟩ | z9 <;> first | exact z8 | omega) (show (5 - (q_172.2.2.2.1 m26 (v_48).toNatClampNeg).toInt : Int).toNat < _ from by omega)
                      · refine wa_iconst B 0 dX12_readTablet_158 (by decide) ?_
                        exact hret _ _ _ _ dX12_readTablet_159 (Or.inl rfl) ⟨hV_q_172, hF_q_172, hK_q_172, mN_q_172, mS_q_172, (by have h9 : (0 : Int32).toInt = 0 := rfl; first | omega | (refine ⟨?_, ?_⟩ <;> omega) | trivial)⟩
                have z_189 : q_67.2.2.2.1 m26 (v_48 : Int32).toNatClampNeg = (upd (q_14.2.2.2.1 m26) (v_48 : Int32).toNatClampNeg 0 (v_48 : Int32).toNatClampNeg) := congrFun p15_q_67 _
                exact Lp_140_84 _ q_67 hV_q_67 hF_q_67 hK_q_67 mN_q_67 mS_q_67 p0_q_67 p1_q_67 p2_q_67 p3_q_67 p4_q_67 p5_q_67 p6_q_67 p7_q_67 p8_q_67 p9_q_67 p10_q_67 p14_q_67 (show mv_A (q_67.2.2.2.1 m26) (q_67.2.2.2.1 m30) (v_48).toNatClampNeg from by intro h9; first | (rw [z_189, zx_u1] at h9; exact absurd h9 (by decide)) | (rw [z_189] at h9; exact absurd h9 (by decide))) (show mv_R (q_67.2.2.2.1 m28) (q_67.2.2.2.1 m29) (q_67.2.2.2.1 m26) (q_67.2.2.2.1 m27) (q_67.2.2.2.1 m23) (n1).toNatClampNeg (v_48).toNatClampNeg from by rw [p12_q_67, p13_q_67, p15_q_67, p11_q_67, p10_q_67]; exact mv_begin (by have a9 := zx_nc n1; have a8 := zx_nc v_48; omega) (by omega) (fun j => by have z9 := (hV_q_14.cnt hm23 km23 j : sx_in _ 0 12); exact z9) (fun j => by have z9 := (hV_q_14.cnt hm26 km26 j : sx_in _ 0 5); exact z9.2) (by have z9 := x_34; exact z9)) (Nat.lt_succ_self _)
              · refine wa_aload_n B dX12_readTablet_134 rfl 3 rfl ?_
                refine wa_iconst B 1 dX12_readTablet_135 (by decide) ?_
                refine wa_callVi B (x := (RX12, TX12, 51)) (As := [.int 1]) (rest := []) (k_X12_bad l dC dI h L hN q_67 hV_q_67 (a0 := a0) ha0 ka0 1  ) (cwV 1 B.1.2.2.2.2 gX12_readTablet_X12_bad rfl rfl rfl (by decide +kernel) ⟨Nat.le_of_ble_eq_true rfl, Nat.le_of_ble_eq_true rfl⟩) ha0 ka0 (by decide) rfl rfl rfl (Nat.le_of_ble_eq_true rfl) dX12_readTablet_136 (fun r_191 q_190 w_192 => ?_)
                obtain ⟨hV_q_190, h2_q_190, h3_q_190, hw_192⟩ := w_192
                have hF_q_190 : sx_fr h L (fun a => h.1 a = 12 ∨ h.1 a = 133 ∨ h.1 a = 134 ∨ h.1 a = 135 ∨ h.1 a = 138 ∨ h.1 a = 139 ∨ h.1 a = 140 ∨ h.1 a = 136 ∨ h.1 a = 137) q q_190 := hF_q_67.tr (h2_q_190.mono (fun a (z : h.1 a = 12) => (show h.1 a = 12 ∨ h.1 a = 133 ∨ h.1 a = 134 ∨ h.1 a = 135 ∨ h.1 a = 138 ∨ h.1 a = 139 ∨ h.1 a = 140 ∨ h.1 a = 136 ∨ h.1 a = 137 from by omega)))
                have hK_q_190 : sx_kf a0 [6, 7, 8, 9, 11, 12, 13, 14, 15, 32, 33] q q_190 := hK_q_67.tr (h3_q_190.mono (by decide))
                have mN_q_190 : mv_N a0 q_190 := mv_N.eq (h3_q_190.1 8 (by decide)) (h3_q_190.2 11 (by decide)) mN_q_67
                have mS_q_190 : mv_S m23 m26 m28 m29 q_190 := mv_S.eq (h2_q_190.G hm23 (show ¬ (h.1 m23 = 12) from by omega) (by rw [km23]; decide)) (h2_q_190.G hm26 (show ¬ (h.1 m26 = 12) from by omega) (by rw [km26]; decide)) (h2_q_190.G hm28 (show ¬ (h.1 m28 = 12) from by omega) (by rw [km28]; decide)) (h2_q_190.G hm29 (show ¬ (h.1 m29 = 12) from by omega) (by rw [km29]; decide)) mS_q_67
                exact hret _ _ _ _ dX12_readTablet_139 (zx_01 (by omega)) ⟨hV_q_190, hF_q_190, hK_q_190, mN_q_190, mS_q_190, (by first | omega | (refine ⟨?_, ?_⟩ <;> omega) | trivial)⟩
            refine wa_if_ne B 122 dX12_readTablet_115 (by decide) (fun (t_193 : ¬ r_39.toInt = 0) => ?_) (fun (t_193 : r_39.toInt = 0) => ?_)
            · refine wa_aload_n B dX12_readTablet_122 rfl 3 rfl ?_
              refine wa_callVv B (x := (RX12, TX12, 51)) (As := []) (rest := []) (k_X12_go l dC dI h L hN q_60 hV_q_60 (a0 := a0) ha0 ka0  ) (cwV 0 B.1.2.2.2.2 gX12_readTablet_X12_go rfl rfl rfl (by decide +kernel) ⟨Nat.le_of_ble_eq_true rfl, Nat.le_of_ble_eq_true rfl⟩) ha0 ka0 (by decide) rfl rfl rfl (Nat.le_of_ble_eq_true rfl) dX12_readTablet_123 (fun q_194 w_195 => ?_)
              obtain ⟨hV_q_194, h2_q_194, h3_q_194, mN_q_194⟩ := w_195
              have hF_q_194 : sx_fr h L (fun a => h.1 a = 12 ∨ h.1 a = 133 ∨ h.1 a = 134 ∨ h.1 a = 135 ∨ h.1 a = 138 ∨ h.1 a = 139 ∨ h.1 a = 140 ∨ h.1 a = 136 ∨ h.1 a = 137) q q_194 := hF_q_60.tr (h2_q_194.mono (fun a (z : h.1 a = 12) => (show h.1 a = 12 ∨ h.1 a = 133 ∨ h.1 a = 134 ∨ h.1 a = 135 ∨ h.1 a = 138 ∨ h.1 a = 139 ∨ h.1 a = 140 ∨ h.1 a = 136 ∨ h.1 a = 137 from by omega)))
              have hK_q_194 : sx_kf a0 [6, 7, 8, 9, 11, 12, 13, 14, 15, 32, 33] q q_194 := hK_q_60.tr (h3_q_194.mono (by decide))
              have mS_q_194 : mv_S m23 m26 m28 m29 q_194 := mv_S.eq (h2_q_194.G hm23 (show ¬ (h.1 m23 = 12) from by omega) (by rw [km23]; decide)) (h2_q_194.G hm26 (show ¬ (h.1 m26 = 12) from by omega) (by rw [km26]; decide)) (h2_q_194.G hm28 (show ¬ (h.1 m28 = 12) from by omega) (by rw [km28]; decide)) (h2_q_194.G hm29 (show ¬ (h.1 m29 = 12) from by omega) (by rw [km29]; decide)) mS_q_60
              have z_196 : q_194.2.2.1 a0 18 = m18 := (h2_q_194.R ha0 (show ¬ ((h.1 a0 = 12) ∧ (h.1 a0 = 8 ∨ h.1 a0 = 11)) from by omega) 18).trans (z_68)
              have z_197 : q_194.2.2.1 a0 19 = m19 := (h2_q_194.R ha0 (show ¬ ((h.1 a0 = 12) ∧ (h.1 a0 = 8 ∨ h.1 a0 = 11)) from by omega) 19).trans (z_69)
              have z_198 : q_194.2.2.1 a0 23 = m23 := (h2_q_194.R ha0 (show ¬ ((h.1 a0 = 12) ∧ (h.1 a0 = 8 ∨ h.1 a0 = 11)) from by omega) 23).trans (z_70)
              have z_199 : q_194.2.2.1 a0 24 = m24 := (h2_q_194.R ha0 (show ¬ ((h.1 a0 = 12) ∧ (h.1 a0 = 8 ∨ h.1 a0 = 11)) from by omega) 24).trans (z_71)
              have z_200 : q_194.2.2.1 a0 25 = m25 := (h2_q_194.R ha0 (show ¬ ((h.1 a0 = 12) ∧ (h.1 a0 = 8 ∨ h.1 a0 = 11)) from by omega) 25).trans (z_72)
              have z_201 : q_194.2.2.1 a0 26 = m26 := (h2_q_194.R ha0 (show ¬ ((h.1 a0 = 12) ∧ (h.1 a0 = 8 ∨ h.1 a0 = 11)) from by omega) 26).trans (z_73)
              have z_202 : q_194.2.2.1 a0 27 = m27 := (h2_q_194.R ha0 (show ¬ ((h.1 a0 = 12) ∧ (h.1 a0 = 8 ∨ h.1 a0 = 11)) from by omega) 27).trans (z_74)
              have z_203 : q_194.2.2.1 a0 28 = m28 := (h2_q_194.R ha0 (show ¬ ((h.1 a0 = 12) ∧ (h.1 a0 = 8 ∨ h.1 a0 = 11)) from by omega) 28).trans (z_75)
              have z_204 : q_194.2.2.1 a0 29 = m29 := (h2_q_194.R ha0 (show ¬ ((h.1 a0 = 12) ∧ (h.1 a0 = 8 ∨ h.1 a0 = 11)) from by omega) 29).trans (z_76)
              have z_205 : q_194.2.2.1 a0 30 = m30 := (h2_q_194.R ha0 (show ¬ ((h.1 a0 = 12) ∧ (h.1 a0 = 8 ∨ h.1 a0 = 11)) from by omega) 30).trans (z_77)
              have z_206 : q_194.2.2.2.1 m23 = (q_14.2.2.2.1 m23) := (h2_q_194.G hm23 (show ¬ (h.1 m23 = 12) from by omega) (by rw [km23]; decide)).trans (z_63)
              have z_207 : q_194.2.2.2.1 m27 = (q_14.2.2.2.1 m27) := (h2_q_194.G hm27 (show ¬ (h.1 m27 = 12) from by omega) (by rw [km27]; decide)).trans (z_64)
              have z_208 : q_194.2.2.2.1 m28 = (q_14.2.2.2.1 m28) := (h2_q_194.G hm28 (show ¬ (h.1 m28 = 12) from by omega) (by rw [km28]; decide)).trans (z_65)
              have z_209 : q_194.2.2.2.1 m29 = (q_14.2.2.2.1 m29) := (h2_q_194.G hm29 (show ¬ (h.1 m29 = 12) from by omega) (by rw [km29]; decide)).trans (z_66)
              have z_210 : q_194.2.2.2.1 m24 = (upd (q_14.2.2.2.1 m24) (v_48 : Int32).toNatClampNeg v_49) := (h2_q_194.G hm24 (show ¬ (h.1 m24 = 12) from by omega) (by rw [km24]; decide)).trans (z_78)
              have z_211 : q_194.2.2.2.1 m26 = (upd (q_14.2.2.2.1 m26) (v_48 : Int32).toNatClampNeg 0) := (h2_q_194.G hm26 (show ¬ (h.1 m26 = 12) from by omega) (by rw [km26]; decide)).trans (z_61)
              exact Jn_126_79 q_194 hV_q_194 hF_q_194 hK_q_194 mN_q_194 mS_q_194 z_196 z_197 z_198 z_199 z_200 z_201 z_202 z_203 z_204 z_205 z_206 z_207 z_208 z_209 z_210 z_211
            · refine wa_iload_n B dX12_readTablet_118 rfl 1 rfl ?_
              refine wa_if_eq B 126 dX12_readTablet_119 (by decide) (fun (t_212 : r_42.toInt = 0) => ?_) (fun (t_212 : ¬ r_42.toInt = 0) => ?_)
              · exact Jn_126_79 q_60 hV_q_60 hF_q_60 hK_q_60 mN_q_60 mS_q_60 z_68 z_69 z_70 z_71 z_72 z_73 z_74 z_75 z_76 z_77 z_63 z_64 z_65 z_66 z_78 z_61
              · refine wa_aload_n B dX12_readTablet_122 rfl 3 rfl ?_
                refine wa_callVv B (x := (RX12, TX12, 51)) (As := []) (rest := []) (k_X12_go l dC dI h L hN q_60 hV_q_60 (a0 := a0) ha0 ka0  ) (cwV 0 B.1.2.2.2.2 gX12_readTablet_X12_go rfl rfl rfl (by decide +kernel) ⟨Nat.le_of_ble_eq_true rfl, Nat.le_of_ble_eq_true rfl⟩) ha0 ka0 (by decide) rfl rfl rfl (Nat.le_of_ble_eq_true rfl) dX12_readTablet_123 (fun q_213 w_214 => ?_)
                obtain ⟨hV_q_213, h2_q_213, h3_q_213, mN_q_213⟩ := w_214
                have hF_q_213 : sx_fr h L (fun a => h.1 a = 12 ∨ h.1 a = 133 ∨ h.1 a = 134 ∨ h.1 a = 135 ∨ h.1 a = 138 ∨ h.1 a = 139 ∨ h.1 a = 140 ∨ h.1 a = 136 ∨ h.1 a = 137) q q_213 := hF_q_60.tr (h2_q_213.mono (fun a (z : h.1 a = 12) => (show h.1 a = 12 ∨ h.1 a = 133 ∨ h.1 a = 134 ∨ h.1 a = 135 ∨ h.1 a = 138 ∨ h.1 a = 139 ∨ h.1 a = 140 ∨ h.1 a = 136 ∨ h.1 a = 137 from by omega)))
                have hK_q_213 : sx_kf a0 [6, 7, 8, 9, 11, 12, 13, 14, 15, 32, 33] q q_213 := hK_q_60.tr (h3_q_213.mono (by decide))
                have mS_q_213 : mv_S m23 m26 m28 m29 q_213 := mv_S.eq (h2_q_213.G hm23 (show ¬ (h.1 m23 = 12) from by omega) (by rw [km23]; decide)) (h2_q_213.G hm26 (show ¬ (h.1 m26 = 12) from by omega) (by rw [km26]; decide)) (h2_q_213.G hm28 (show ¬ (h.1 m28 = 12) from by omega) (by rw [km28]; decide)) (h2_q_213.G hm29 (show ¬ (h.1 m29 = 12) from by omega) (by rw [km29]; decide)) mS_q_60
                have z_215 : q_213.2.2.1 a0 18 = m18 := (h2_q_213.R ha0 (show ¬ ((h.1 a0 = 12) ∧ (h.1 a0 = 8 ∨ h.1 a0 = 11)) from by omega) 18).trans (z_68)
                have z_216 : q_213.2.2.1 a0 19 = m19 := (h2_q_213.R ha0 (show ¬ ((h.1 a0 = 12) ∧ (h.1 a0 = 8 ∨ h.1 a0 = 11)) from by omega) 19).trans (z_69)
                have z_217 : q_213.2.2.1 a0 23 = m23 := (h2_q_213.R ha0 (show ¬ ((h.1 a0 = 12) ∧ (h.1 a0 = 8 ∨ h.1 a0 = 11)) from by omega) 23).trans (z_70)
                have z_218 : q_213.2.2.1 a0 24 = m24 := (h2_q_213.R ha0 (show ¬ ((h.1 a0 = 12) ∧ (h.1 a0 = 8 ∨ h.1 a0 = 11)) from by omega) 24).trans (z_71)
                have z_219 : q_213.2.2.1 a0 25 = m25 := (h2_q_213.R ha0 (show ¬ ((h.1 a0 = 12) ∧ (h.1 a0 = 8 ∨ h.1 a0 = 11)) from by omega) 25).trans (z_72)
                have z_220 : q_213.2.2.1 a0 26 = m26 := (h2_q_213.R ha0 (show ¬ ((h.1 a0 = 12) ∧ (h.1 a0 = 8 ∨ h.1 a0 = 11)) from by omega) 26).trans (z_73)
                have z_221 : q_213.2.2.1 a0 27 = m27 := (h2_q_213.R ha0 (show ¬ ((h.1 a0 = 12) ∧ (h.1 a0 = 8 ∨ h.1 a0 = 11)) from by omega) 27).trans (z_74)
                have z_222 : q_213.2.2.1 a0 28 = m28 := (h2_q_213.R ha0 (show ¬ ((h.1 a0 = 12) ∧ (h.1 a0 = 8 ∨ h.1 a0 = 11)) from by omega) 28).trans (z_75)
                have z_223 : q_213.2.2.1 a0 29 = m29 := (h2_q_213.R ha0 (show ¬ ((h.1 a0 = 12) ∧ (h.1 a0 = 8 ∨ h.1 a0 = 11)) from by omega) 29).trans (z_76)
                have z_224 : q_213.2.2.1 a0 30 = m30 := (h2_q_213.R ha0 (show ¬ ((h.1 a0 = 12) ∧ (h.1 a0 = 8 ∨ h.1 a0 = 11)) from by omega) 30).trans (z_77)
                have z_225 : q_213.2.2.2.1 m23 = (q_14.2.2.2.1 m23) := (h2_q_213.G hm23 (show ¬ (h.1 m23 = 12) from by omega) (by rw [km23]; decide)).trans (z_63)
                have z_226 : q_213.2.2.2.1 m27 = (q_14.2.2.2.1 m27) := (h2_q_213.G hm27 (show ¬ (h.1 m27 = 12) from by omega) (by rw [km27]; decide)).trans (z_64)
                have z_227 : q_213.2.2.2.1 m28 = (q_14.2.2.2.1 m28) := (h2_q_213.G hm28 (show ¬ (h.1 m28 = 12) from by omega) (by rw [km28]; decide)).trans (z_65)
                have z_228 : q_213.2.2.2.1 m29 = (q_14.2.2.2.1 m29) := (h2_q_213.G hm29 (show ¬ (h.1 m29 = 12) from by omega) (by rw [km29]; decide)).trans (z_66)
                have z_229 : q_213.2.2.2.1 m24 = (upd (q_14.2.2.2.1 m24) (v_48 : Int32).toNatClampNeg v_49) := (h2_q_213.G hm24 (show ¬ (h.1 m24 = 12) from by omega) (by rw [km24]; decide)).trans (z_78)
                have z_230 : q_213.2.2.2.1 m26 = (upd (q_14.2.2.2.1 m26) (v_48 : Int32).toNatClampNeg 0) := (h2_q_213.G hm26 (show ¬ (h.1 m26 = 12) from by omega) (by rw [km26]; decide)).trans (z_61)
                exact Jn_126_79 q_213 hV_q_213 hF_q_213 hK_q_213 mN_q_213 mS_q_213 z_215 z_216 z_217 z_218 z_219 z_220 z_221 z_222 z_223 z_224 z_225 z_226 z_227 z_228 z_229 z_230
          refine wa_if_eq B 96 dX12_readTablet_89 (by decide) (fun (t_231 : r_39.toInt = 0) => ?_) (fun (t_231 : ¬ r_39.toInt = 0) => ?_)
          · refine wa_iload_n B dX12_readTablet_96 rfl 1 rfl ?_
            refine wa_if_eq B 104 dX12_readTablet_97 (by decide) (fun (t_232 : r_42.toInt = 0) => ?_) (fun (t_232 : ¬ r_42.toInt = 0) => ?_)
            · refine wa_iconst B 0 dX12_readTablet_104 (by decide) ?_
              exact Jn_105_50 0
            · refine wa_iconst B 2 dX12_readTablet_100 (by decide) ?_
              refine wa_goto B 105 dX12_readTablet_101 (by decide) ?_
              exact Jn_105_50 2
          · refine wa_iconst B 1 dX12_readTablet_92 (by decide) ?_
            refine wa_goto B 105 dX12_readTablet_93 (by decide) ?_
            exact Jn_105_50 1
        · refine wa_aload_n B dX12_readTablet_63 rfl 2 rfl ?_
          refine wa_iconst B 4 dX12_readTablet_64 (by decide) ?_
          refine wa_callVi B (x := (RX12, TX12, 51)) (As := [.int 4]) (rest := []) (k_X12_bad l dC dI h L hN q_14 hV_q_14 (a0 := a0) ha0 ka0 4  ) (cwV 1 B.1.2.2.2.2 gX12_readTablet_X12_bad rfl rfl rfl (by decide +kernel) ⟨Nat.le_of_ble_eq_true rfl, Nat.le_of_ble_eq_true rfl⟩) ha0 ka0 (by decide) rfl rfl rfl (Nat.le_of_ble_eq_true rfl) dX12_readTablet_65 (fun r_234 q_233 w_235 => ?_)
          obtain ⟨hV_q_233, h2_q_233, h3_q_233, hw_235⟩ := w_235
          have hF_q_233 : sx_fr h L (fun a => h.1 a = 12 ∨ h.1 a = 133 ∨ h.1 a = 134 ∨ h.1 a = 135 ∨ h.1 a = 138 ∨ h.1 a = 139 ∨ h.1 a = 140 ∨ h.1 a = 136 ∨ h.1 a = 137) q q_233 := hF_q_14.tr (h2_q_233.mono (fun a (z : h.1 a = 12) => (show h.1 a = 12 ∨ h.1 a = 133 ∨ h.1 a = 134 ∨ h.1 a = 135 ∨ h.1 a = 138 ∨ h.1 a = 139 ∨ h.1 a = 140 ∨ h.1 a = 136 ∨ h.1 a = 137 from by omega)))
          have hK_q_233 : sx_kf a0 [6, 7, 8, 9, 11, 12, 13, 14, 15, 32, 33] q q_233 := hK_q_14.tr (h3_q_233.mono (by decide))
          have mN_q_233 : mv_N a0 q_233 := mv_N.eq (h3_q_233.1 8 (by decide)) (h3_q_233.2 11 (by decide)) mN_q_14
          have mS_q_233 : mv_S m23 m26 m28 m29 q_233 := mv_S.eq (h2_q_233.G hm23 (show ¬ (h.1 m23 = 12) from by omega) (by rw [km23]; decide)) (h2_q_233.G hm26 (show ¬ (h.1 m26 = 12) from by omega) (by rw [km26]; decide)) (h2_q_233.G hm28 (show ¬ (h.1 m28 = 12) from by omega) (by rw [km28]; decide)) (h2_q_233.G hm29 (show ¬ (h.1 m29 = 12) from by omega) (by rw [km29]; decide)) mS_q_14
          exact hret _ _ _ _ dX12_readTablet_68 (zx_01 (by omega)) ⟨hV_q_233, hF_q_233, hK_q_233, mN_q_233, mS_q_233, (by first | omega | (refine ⟨?_, ?_⟩ <;> omega) | trivial)⟩
      refine wa_if_ne B 52 dX12_readTablet_31 (by decide) (fun (t_236 : ¬ r_39.toInt = 0) => ?_) (fun (t_236 : r_39.toInt = 0) => ?_)
      · exact Jn_52_44 ()
      · refine wa_iload_n B dX12_readTablet_34 rfl 0 rfl ?_
        refine wa_if_ne B 52 dX12_readTablet_35 (by decide) (fun (t_237 : ¬ r_42.toInt = 0) => ?_) (fun (t_237 : r_42.toInt = 0) => ?_)
        · exact Jn_52_44 ()
        · refine wa_aload_n B dX12_readTablet_38 rfl 2 rfl ?_
          refine wa_getI B (C := RX12) (T := TX12) (N := 51) iq_X12_readTablet_X12 ha0 ka0 (by decide) rfl 8 (by decide) (by decide) (by decide +kernel) rfl (by decide) (v := (q_14.1 a0 8)) rfl dX12_readTablet_39 ?_
          refine wa_iconst B 3 dX12_readTablet_42 (by decide) ?_
          refine wa_icmp_eq B 52 dX12_readTablet_43 (by decide) (fun (t_238 : (q_14.1 a0 8).toInt = 3) => ?_) (fun (t_238 : ¬ (q_14.1 a0 8).toInt = 3) => ?_)
          · exact Jn_52_44 ()
          · refine wa_aload_n B dX12_readTablet_46 rfl 2 rfl ?_
            refine wa_iconst B 1 dX12_readTablet_47 (by decide) ?_
            refine wa_callVi B (x := (RX12, TX12, 51)) (As := [.int 1]) (rest := []) (k_X12_bad l dC dI h L hN q_14 hV_q_14 (a0 := a0) ha0 ka0 1  ) (cwV 1 B.1.2.2.2.2 gX12_readTablet_X12_bad rfl rfl rfl (by decide +kernel) ⟨Nat.le_of_ble_eq_true rfl, Nat.le_of_ble_eq_true rfl⟩) ha0 ka0 (by decide) rfl rfl rfl (Nat.le_of_ble_eq_true rfl) dX12_readTablet_48 (fun r_240 q_239 w_241 => ?_)
            obtain ⟨hV_q_239, h2_q_239, h3_q_239, hw_241⟩ := w_241
            have hF_q_239 : sx_fr h L (fun a => h.1 a = 12 ∨ h.1 a = 133 ∨ h.1 a = 134 ∨ h.1 a = 135 ∨ h.1 a = 138 ∨ h.1 a = 139 ∨ h.1 a = 140 ∨ h.1 a = 136 ∨ h.1 a = 137) q q_239 := hF_q_14.tr (h2_q_239.mono (fun a (z : h.1 a = 12) => (show h.1 a = 12 ∨ h.1 a = 133 ∨ h.1 a = 134 ∨ h.1 a = 135 ∨ h.1 a = 138 ∨ h.1 a = 139 ∨ h.1 a = 140 ∨ h.1 a = 136 ∨ h.1 a = 137 from by omega)))
            have hK_q_239 : sx_kf a0 [6, 7, 8, 9, 11, 12, 13, 14, 15, 32, 33] q q_239 := hK_q_14.tr (h3_q_239.mono (by decide))
            have mN_q_239 : mv_N a0 q_239 := mv_N.eq (h3_q_239.1 8 (by decide)) (h3_q_239.2 11 (by decide)) mN_q_14
            have mS_q_239 : mv_S m23 m26 m28 m29 q_239 := mv_S.eq (h2_q_239.G hm23 (show ¬ (h.1 m23 = 12) from by omega) (by rw [km23]; decide)) (h2_q_239.G hm26 (show ¬ (h.1 m26 = 12) from by omega) (by rw [km26]; decide)) (h2_q_239.G hm28 (show ¬ (h.1 m28 = 12) from by omega) (by rw [km28]; decide)) (h2_q_239.G hm29 (show ¬ (h.1 m29 = 12) from by omega) (by rw [km29]; decide)) mS_q_14
            exact hret _ _ _ _ dX12_readTablet_51 (zx_01 (by omega)) ⟨hV_q_239, hF_q_239, hK_q_239, mN_q_239, mS_q_239, (by first | omega | (refine ⟨?_, ?_⟩ <;> omega) | trivial)⟩
  exact Lp_14_35 _ q_9 hV_q_9 hF_q_9 hK_q_9 mN_q_9 mS_q_9 z_15 z_16 z_17 z_18 z_19 z_20 z_21 z_22 z_23 z_24 (show (q_9.2.2.2.1 m27 (n1).toNatClampNeg).toInt = ((mv_s (q_9.2.2.2.1 m28) (q_9.2.2.2.1 m29) (q_9.2.2.2.1 m26) (n1).toNatClampNeg (q_9.2.2.2.1 m23 (n1).toNatClampNeg).toInt.toNat : Nat) : Int) from by rw [z_11, z_12]; rfl) (Nat.lt_succ_self _)
theorem iq_X12_tablet_X12 : ∀ w ∈ wsX120, w ∈ wsX12_tablet := fun _ h => List.mem_cons_of_mem _ (List.mem_append_right _ h)
set_option maxHeartbeats 4000000 in
set_option maxRecDepth 100000 in
theorem k_X12_tablet (l : Launch) (dC : Nat → ClassId) (dI : Nat → Nat → Nat) (h : Sh) (L : List Nat) (hN : sx_nd L) (q : Sg) (hV : sx_V h L q) {a0 : Nat} (ha0 : a0 ∈ L) (ka0 : h.1 a0 = 12) {m23 : Nat} (em23 : q.2.2.1 a0 23 = m23) {m26 : Nat} (em26 : q.2.2.1 a0 26 = m26) {m27 : Nat} (em27 : q.2.2.1 a0 27 = m27) {m28 : Nat} (em28 : q.2.2.1 a0 28 = m28) {m29 : Nat} (em29 : q.2.2.1 a0 29 = m29) {m30 : Nat} (em30 : q.2.2.1 a0 30 = m30) {m18 : Nat} (em18 : q.2.2.1 a0 18 = m18) {m19 : Nat} (em19 : q.2.2.1 a0 19 = m19) {m24 : Nat} (em24 : q.2.2.1 a0 24 = m24) {m25 : Nat} (em25 : q.2.2.1 a0 25 = m25) (mN : mv_N a0 q) (mS : mv_S m23 m26 m28 m29 q)   : CMi l dC dI h L yX12_tablet wsX12_tablet ({ frames := 5, cells := 0, slots := 0, locals := 119 } : Room) q [.ref a0] (fun r q' => sx_V h L q' ∧ sx_fr h L (fun a => h.1 a = 12 ∨ h.1 a = 113 ∨ h.1 a = 133 ∨ h.1 a = 134 ∨ h.1 a = 135 ∨ h.1 a = 138 ∨ h.1 a = 139 ∨ h.1 a = 140 ∨ h.1 a = 136 ∨ h.1 a = 137) q q' ∧ sx_kf a0 [0, 2, 4, 14, 15, 31, 32, 33, 5, 10, 6, 7, 8, 9, 11, 12, 13] q q' ∧ mv_N a0 q' ∧ mv_S m23 m26 m28 m29 q' ∧ ((q'.1 a0 2).toInt = 0)) := by
  refine cm_i (cc := cX12_tablet) (mL := 1) (own := RX12) hN (by decide) rfl rfl (Nat.le_of_ble_eq_true rfl) (fun Z B hret => ?_)
  have hF : sx_fr h L (fun a => h.1 a = 12 ∨ h.1 a = 113 ∨ h.1 a = 133 ∨ h.1 a = 134 ∨ h.1 a = 135 ∨ h.1 a = 138 ∨ h.1 a = 139 ∨ h.1 a = 140 ∨ h.1 a = 136 ∨ h.1 a = 137) q q := sx_fr.rf
  have hK : sx_kf a0 [0, 2, 4, 14, 15, 31, 32, 33, 5, 10, 6, 7, 8, 9, 11, 12, 13] q q := sx_kf.rf
  obtain ⟨hm23, km23, lm23⟩ : m23 ∈ L ∧ h.1 m23 = 133 ∧ h.2.1 m23 = 9 := by obtain ⟨r9, e9, z1, z2, z3⟩ := hV.refn (t := 133) (n := 9) ha0 ka0 23 rfl (by decide) rfl (by decide); rw [← em23, e9]; exact ⟨z1, z2, z3⟩
  obtain ⟨hm26, km26, lm26⟩ : m26 ∈ L ∧ h.1 m26 = 136 ∧ h.2.1 m26 = 108 := by obtain ⟨r9, e9, z1, z2, z3⟩ := hV.refn (t := 136) (n := 108) ha0 ka0 26 rfl (by decide) rfl (by decide); rw [← em26, e9]; exact ⟨z1, z2, z3⟩
  obtain ⟨hm27, km27, lm27⟩ : m27 ∈ L ∧ h.1 m27 = 137 ∧ h.2.1 m27 = 9 := by obtain ⟨r9, e9, z1, z2, z3⟩ := hV.refn (t := 137) (n := 9) ha0 ka0 27 rfl (by decide) rfl (by decide); rw [← em27, e9]; exact ⟨z1, z2, z3⟩
  obtain ⟨hm28, km28, lm28⟩ : m28 ∈ L ∧ h.1 m28 = 138 ∧ h.2.1 m28 = 540 := by obtain ⟨r9, e9, z1, z2, z3⟩ := hV.refn (t := 138) (n := 540) ha0 ka0 28 rfl (by decide) rfl (by decide); rw [← em28, e9]; exact ⟨z1, z2, z3⟩
  obtain ⟨hm29, km29, lm29⟩ : m29 ∈ L ∧ h.1 m29 = 139 ∧ h.2.1 m29 = 540 := by obtain ⟨r9, e9, z1, z2, z3⟩ := hV.refn (t := 139) (n := 540) ha0 ka0 29 rfl (by decide) rfl (by decide); rw [← em29, e9]; exact ⟨z1, z2, z3⟩
  obtain ⟨hm30, km30, lm30⟩ : m30 ∈ L ∧ h.1 m30 = 140 ∧ h.2.1 m30 = 540 := by obtain ⟨r9, e9, z1, z2, z3⟩ := hV.refn (t := 140) (n := 540) ha0 ka0 30 rfl (by decide) rfl (by decide); rw [← em30, e9]; exact ⟨z1, z2, z3⟩
  obtain ⟨hm18, km18, lm18⟩ : m18 ∈ L ∧ h.1 m18 = 128 ∧ h.2.1 m18 = 6 := by obtain ⟨r9, e9, z1, z2, z3⟩ := hV.refn (t := 128) (n := 6) ha0 ka0 18 rfl (by decide) rfl (by decide); rw [← em18, e9]; exact ⟨z1, z2, z3⟩
  obtain ⟨hm19, km19, lm19⟩ : m19 ∈ L ∧ h.1 m19 = 129 ∧ h.2.1 m19 = 30 := by obtain ⟨r9, e9, z1, z2, z3⟩ := hV.refn (t := 129) (n := 30) ha0 ka0 19 rfl (by decide) rfl (by decide); rw [← em19, e9]; exact ⟨z1, z2, z3⟩
  obtain ⟨hm24, km24, lm24⟩ : m24 ∈ L ∧ h.1 m24 = 134 ∧ h.2.1 m24 = 108 := by obtain ⟨r9, e9, z1, z2, z3⟩ := hV.refn (t := 134) (n := 108) ha0 ka0 24 rfl (by decide) rfl (by decide); rw [← em24, e9]; exact ⟨z1, z2, z3⟩
  obtain ⟨hm25, km25, lm25⟩ : m25 ∈ L ∧ h.1 m25 = 135 ∧ h.2.1 m25 = 108 := by obtain ⟨r9, e9, z1, z2, z3⟩ := hV.refn (t := 135) (n := 108) ha0 ka0 25 rfl (by decide) rfl (by decide); rw [← em25, e9]; exact ⟨z1, z2, z3⟩
  show WA l dC dI h L ({ frames := 5, cells := 0, slots := 0, locals := 119 } : Room) 1 Z q 0 [(0, .ref a0)] []
  refine wa_aload_n B dX12_tablet_0 rfl 0 rfl ?_
  refine wa_iconst B 0 dX12_tablet_1 (by decide) ?_
  refine wa_putI B (C := RX12) (T := TX12) (N := 51) iq_X12_tablet_X12 ha0 ka0 (by decide) rfl 0 (by decide) (by decide) (by decide +kernel) rfl (by decide) (v := 0) (ty := .int) tyX12 tyX12_ok nmX12 rfl (by decide +kernel) rfl rfl dX12_tablet_2 (fun q_1 eq_1 => ?_)
  have hV_q_1 : sx_V h L q_1 := by rw [eq_1]; exact hV.pI ka0 trivial
  have hF_q_1 : sx_fr h L (fun a => h.1 a = 12 ∨ h.1 a = 113 ∨ h.1 a = 133 ∨ h.1 a = 134 ∨ h.1 a = 135 ∨ h.1 a = 138 ∨ h.1 a = 139 ∨ h.1 a = 140 ∨ h.1 a = 136 ∨ h.1 a = 137) q q_1 := hF.tr (by rw [eq_1]; exact sx_fr.pI (show h.1 a0 = 12 ∨ h.1 a0 = 113 ∨ h.1 a0 = 133 ∨ h.1 a0 = 134 ∨ h.1 a0 = 135 ∨ h.1 a0 = 138 ∨ h.1 a0 = 139 ∨ h.1 a0 = 140 ∨ h.1 a0 = 136 ∨ h.1 a0 = 137 from by omega))
  have z_2 : q_1.1 a0 0 = 0 := by rw [eq_1]; exact sg_pI_e
  have hK_q_1 : sx_kf a0 [0, 2, 4, 14, 15, 31, 32, 33, 5, 10, 6, 7, 8, 9, 11, 12, 13] q q_1 := hK.tr (by rw [eq_1]; exact sx_kf.pI (by decide))
  have mN_q_1 : mv_N a0 q_1 := mv_N.eq ((show q_1.1 a0 8 = q.1 a0 8 from by rw [eq_1]; exact sg_pI_k (by decide))) ((show q_1.2.1 a0 11 = q.2.1 a0 11 from by rw [eq_1]; rfl)) mN
  have mS_q_1 : mv_S m23 m26 m28 m29 q_1 := mv_S.eq ((show q_1.2.2.2.1 m23 = q.2.2.2.1 m23 from by rw [eq_1]; rfl)) ((show q_1.2.2.2.1 m26 = q.2.2.2.1 m26 from by rw [eq_1]; rfl)) ((show q_1.2.2.2.1 m28 = q.2.2.2.1 m28 from by rw [eq_1]; rfl)) ((show q_1.2.2.2.1 m29 = q.2.2.2.1 m29 from by rw [eq_1]; rfl)) mS
  refine wa_aload_n B dX12_tablet_5 rfl 0 rfl ?_
  refine wa_getI B (C := RX12) (T := TX12) (N := 51) iq_X12_tablet_X12 ha0 ka0 (by decide) rfl 31 (by decide) (by decide) (by decide +kernel) rfl (by decide) (v := (q_1.1 a0 31)) rfl dX12_tablet_6 ?_
  have g_3 : (0 : Int) ≤ (q_1.1 a0 31).toInt ∧ (q_1.1 a0 31).toInt ≤ 8 := hV_q_1.int ha0 ka0 31
  refine wa_bipush B 8 dX12_tablet_9 (by decide) ?_
  refine wa_icmp_eq B 21 dX12_tablet_11 (by decide) (fun (t_4 : (q_1.1 a0 31).toInt = 8) => ?_) (fun (t_4 : ¬ (q_1.1 a0 31).toInt = 8) => ?_)
  · refine wa_aload_n B dX12_tablet_21 rfl 0 rfl ?_
    refine wa_iconst B 0 dX12_tablet_22 (by decide) ?_
    refine wa_putI B (C := RX12) (T := TX12) (N := 51) iq_X12_tablet_X12 ha0 ka0 (by decide) rfl 2 (by decide) (by decide) (by decide +kernel) rfl (by decide) (v := 0) (ty := .int) tyX12 tyX12_ok nmX12 rfl (by decide +kernel) rfl rfl dX12_tablet_23 (fun q_5 eq_5 => ?_)
    have hV_q_5 : sx_V h L q_5 := by rw [eq_5]; exact hV_q_1.pI ka0 (show sx_in 0 (0) 440 from ⟨by decide, by decide⟩)
    have hF_q_5 : sx_fr h L (fun a => h.1 a = 12 ∨ h.1 a = 113 ∨ h.1 a = 133 ∨ h.1 a = 134 ∨ h.1 a = 135 ∨ h.1 a = 138 ∨ h.1 a = 139 ∨ h.1 a = 140 ∨ h.1 a = 136 ∨ h.1 a = 137) q q_5 := hF_q_1.tr (by rw [eq_5]; exact sx_fr.pI (show h.1 a0 = 12 ∨ h.1 a0 = 113 ∨ h.1 a0 = 133 ∨ h.1 a0 = 134 ∨ h.1 a0 = 135 ∨ h.1 a0 = 138 ∨ h.1 a0 = 139 ∨ h.1 a0 = 140 ∨ h.1 a0 = 136 ∨ h.1 a0 = 137 from by omega))
    have z_6 : q_5.1 a0 2 = 0 := by rw [eq_5]; exact sg_pI_e
    have hK_q_5 : sx_kf a0 [0, 2, 4, 14, 15, 31, 32, 33, 5, 10, 6, 7, 8, 9, 11, 12, 13] q q_5 := hK_q_1.tr (by rw [eq_5]; exact sx_kf.pI (by decide))
    have mN_q_5 : mv_N a0 q_5 := mv_N.eq ((show q_5.1 a0 8 = q_1.1 a0 8 from by rw [eq_5]; exact sg_pI_k (by decide))) ((show q_5.2.1 a0 11 = q_1.2.1 a0 11 from by rw [eq_5]; rfl)) mN_q_1
    have mS_q_5 : mv_S m23 m26 m28 m29 q_5 := mv_S.eq ((show q_5.2.2.2.1 m23 = q_1.2.2.2.1 m23 from by rw [eq_5]; rfl)) ((show q_5.2.2.2.1 m26 = q_1.2.2.2.1 m26 from by rw [eq_5]; rfl)) ((show q_5.2.2.2.1 m28 = q_1.2.2.2.1 m28 from by rw [eq_5]; rfl)) ((show q_5.2.2.2.1 m29 = q_1.2.2.2.1 m29 from by rw [eq_5]; rfl)) mS_q_1
    refine wa_sipush B (-400) dX12_tablet_26 (by decide) ?_
    have y_7 : (q_5.1 a0 2).toInt = 0 := by rw [z_6]; rfl
    exact hret _ _ _ _ dX12_tablet_29 ⟨hV_q_5, hF_q_5, hK_q_5, mN_q_5, mS_q_5, (by have h9 : ((-400) : Int32).toInt = (-400) := rfl; first | omega | (refine ⟨?_, ?_⟩ <;> omega) | trivial)⟩
  · refine wa_aload_n B dX12_tablet_14 rfl 0 rfl ?_
    refine wa_getI B (C := RX12) (T := TX12) (N := 51) iq_X12_tablet_X12 ha0 ka0 (by decide) rfl 20 (by decide) (by decide) (by decide +kernel) rfl (by decide) (v := (q_1.1 a0 20)) rfl dX12_tablet_15 ?_
    have g_8 : (0 : Int) ≤ (q_1.1 a0 20).toInt ∧ (q_1.1 a0 20).toInt ≤ 3 := hV_q_1.int ha0 ka0 20
    refine wa_if_ne B 30 dX12_tablet_18 (by decide) (fun (t_9 : ¬ (q_1.1 a0 20).toInt = 0) => ?_) (fun (t_9 : (q_1.1 a0 20).toInt = 0) => ?_)
    · refine wa_aload_n B dX12_tablet_30 rfl 0 rfl ?_
      refine wa_iconst B 0 dX12_tablet_31 (by decide) ?_
      refine wa_putI B (C := RX12) (T := TX12) (N := 51) iq_X12_tablet_X12 ha0 ka0 (by decide) rfl 14 (by decide) (by decide) (by decide +kernel) rfl (by decide) (v := 0) (ty := .int) tyX12 tyX12_ok nmX12 rfl (by decide +kernel) rfl rfl dX12_tablet_32 (fun q_10 eq_10 => ?_)
      have hV_q_10 : sx_V h L q_10 := by rw [eq_10]; exact hV_q_1.pI ka0 trivial
      have hF_q_10 : sx_fr h L (fun a => h.1 a = 12 ∨ h.1 a = 113 ∨ h.1 a = 133 ∨ h.1 a = 134 ∨ h.1 a = 135 ∨ h.1 a = 138 ∨ h.1 a = 139 ∨ h.1 a = 140 ∨ h.1 a = 136 ∨ h.1 a = 137) q q_10 := hF_q_1.tr (by rw [eq_10]; exact sx_fr.pI (show h.1 a0 = 12 ∨ h.1 a0 = 113 ∨ h.1 a0 = 133 ∨ h.1 a0 = 134 ∨ h.1 a0 = 135 ∨ h.1 a0 = 138 ∨ h.1 a0 = 139 ∨ h.1 a0 = 140 ∨ h.1 a0 = 136 ∨ h.1 a0 = 137 from by omega))
      have z_11 : q_10.1 a0 14 = 0 := by rw [eq_10]; exact sg_pI_e
      have hK_q_10 : sx_kf a0 [0, 2, 4, 14, 15, 31, 32, 33, 5, 10, 6, 7, 8, 9, 11, 12, 13] q q_10 := hK_q_1.tr (by rw [eq_10]; exact sx_kf.pI (by decide))
      have mN_q_10 : mv_N a0 q_10 := mv_N.eq ((show q_10.1 a0 8 = q_1.1 a0 8 from by rw [eq_10]; exact sg_pI_k (by decide))) ((show q_10.2.1 a0 11 = q_1.2.1 a0 11 from by rw [eq_10]; rfl)) mN_q_1
      have mS_q_10 : mv_S m23 m26 m28 m29 q_10 := mv_S.eq ((show q_10.2.2.2.1 m23 = q_1.2.2.2.1 m23 from by rw [eq_10]; rfl)) ((show q_10.2.2.2.1 m26 = q_1.2.2.2.1 m26 from by rw [eq_10]; rfl)) ((show q_10.2.2.2.1 m28 = q_1.2.2.2.1 m28 from by rw [eq_10]; rfl)) ((show q_10.2.2.2.1 m29 = q_1.2.2.2.1 m29 from by rw [eq_10]; rfl)) mS_q_1
      refine wa_aload_n B dX12_tablet_35 rfl 0 rfl ?_
      refine wa_sipush B 300 dX12_tablet_36 (by decide) ?_
      refine wa_iconst B 1 dX12_tablet_39 (by decide) ?_
      refine wa_callVv B (x := (RX12, TX12, 51)) (As := [.int 300, .int 1]) (rest := []) (k_X12_takes l dC dI h L hN q_10 hV_q_10 (a0 := a0) ha0 ka0 300 1  (by first | assumption | omega | decide) (by first | assumption | omega | decide) (by first | assumption | omega | decide)) (cwV 2 B.1.2.2.2.2 gX12_tablet_X12_takes rfl rfl rfl (by decide +kernel) ⟨Nat.le_of_ble_eq_true rfl, Nat.le_of_ble_eq_true rfl⟩) ha0 ka0 (by decide) rfl rfl rfl (Nat.le_of_ble_eq_true rfl) dX12_tablet_40 (fun q_12 w_13 => ?_)
      obtain ⟨hV_q_12, h2_q_12, h3_q_12, mN_q_12, hw_13⟩ := w_13
      have hF_q_12 : sx_fr h L (fun a => h.1 a = 12 ∨ h.1 a = 113 ∨ h.1 a = 133 ∨ h.1 a = 134 ∨ h.1 a = 135 ∨ h.1 a = 138 ∨ h.1 a = 139 ∨ h.1 a = 140 ∨ h.1 a = 136 ∨ h.1 a = 137) q q_12 := hF_q_10.tr (h2_q_12.mono (fun a (z : h.1 a = 12 ∨ h.1 a = 113) => (show h.1 a = 12 ∨ h.1 a = 113 ∨ h.1 a = 133 ∨ h.1 a = 134 ∨ h.1 a = 135 ∨ h.1 a = 138 ∨ h.1 a = 139 ∨ h.1 a = 140 ∨ h.1 a = 136 ∨ h.1 a = 137 from by omega)))
      have hK_q_12 : sx_kf a0 [0, 2, 4, 14, 15, 31, 32, 33, 5, 10, 6, 7, 8, 9, 11, 12, 13] q q_12 := hK_q_10.tr (h3_q_12.mono (by decide))
      have mS_q_12 : mv_S m23 m26 m28 m29 q_12 := mv_S.eq (h2_q_12.G hm23 (show ¬ (h.1 m23 = 12 ∨ h.1 m23 = 113) from by omega) (by rw [km23]; decide)) (h2_q_12.G hm26 (show ¬ (h.1 m26 = 12 ∨ h.1 m26 = 113) from by omega) (by rw [km26]; decide)) (h2_q_12.G hm28 (show ¬ (h.1 m28 = 12 ∨ h.1 m28 = 113) from by omega) (by rw [km28]; decide)) (h2_q_12.G hm29 (show ¬ (h.1 m29 = 12 ∨ h.1 m29 = 113) from by omega) (by rw [km29]; decide)) mS_q_10
      refine wa_aload_n B dX12_tablet_43 rfl 0 rfl ?_
      refine wa_aload_n B dX12_tablet_44 rfl 0 rfl ?_
      have z_14 : q_12.1 a0 31 = q_1.1 a0 31 := (h3_q_12.1 31 (by decide)).trans ((show q_10.1 a0 31 = q_1.1 a0 31 from by rw [eq_10]; exact sg_pI_k (by decide)))
      refine wa_getI B (C := RX12) (T := TX12) (N := 51) iq_X12_tablet_X12 ha0 ka0 (by decide) rfl 31 (by decide) (by decide) (by decide +kernel) rfl (by decide) (v := (q_1.1 a0 31)) z_14 dX12_tablet_45 ?_
      have z_15 : q_12.2.2.1 a0 18 = m18 := (h2_q_12.R ha0 (show ¬ ((h.1 a0 = 12 ∨ h.1 a0 = 113) ∧ (h.1 a0 = 8 ∨ h.1 a0 = 11)) from by omega) 18).trans (((show q_10.2.2.1 a0 18 = q_1.2.2.1 a0 18 from by rw [eq_10]; rfl)).trans (((show q_1.2.2.1 a0 18 = q.2.2.1 a0 18 from by rw [eq_1]; rfl)).trans (em18)))
      have z_16 : q_12.2.2.1 a0 19 = m19 := (h2_q_12.R ha0 (show ¬ ((h.1 a0 = 12 ∨ h.1 a0 = 113) ∧ (h.1 a0 = 8 ∨ h.1 a0 = 11)) from by omega) 19).trans (((show q_10.2.2.1 a0 19 = q_1.2.2.1 a0 19 from by rw [eq_10]; rfl)).trans (((show q_1.2.2.1 a0 19 = q.2.2.1 a0 19 from by rw [eq_1]; rfl)).trans (em19)))
      have z_17 : q_12.2.2.1 a0 23 = m23 := (h2_q_12.R ha0 (show ¬ ((h.1 a0 = 12 ∨ h.1 a0 = 113) ∧ (h.1 a0 = 8 ∨ h.1 a0 = 11)) from by omega) 23).trans (((show q_10.2.2.1 a0 23 = q_1.2.2.1 a0 23 from by rw [eq_10]; rfl)).trans (((show q_1.2.2.1 a0 23 = q.2.2.1 a0 23 from by rw [eq_1]; rfl)).trans (em23)))
      have z_18 : q_12.2.2.1 a0 24 = m24 := (h2_q_12.R ha0 (show ¬ ((h.1 a0 = 12 ∨ h.1 a0 = 113) ∧ (h.1 a0 = 8 ∨ h.1 a0 = 11)) from by omega) 24).trans (((show q_10.2.2.1 a0 24 = q_1.2.2.1 a0 24 from by rw [eq_10]; rfl)).trans (((show q_1.2.2.1 a0 24 = q.2.2.1 a0 24 from by rw [eq_1]; rfl)).trans (em24)))
      have z_19 : q_12.2.2.1 a0 25 = m25 := (h2_q_12.R ha0 (show ¬ ((h.1 a0 = 12 ∨ h.1 a0 = 113) ∧ (h.1 a0 = 8 ∨ h.1 a0 = 11)) from by omega) 25).trans (((show q_10.2.2.1 a0 25 = q_1.2.2.1 a0 25 from by rw [eq_10]; rfl)).trans (((show q_1.2.2.1 a0 25 = q.2.2.1 a0 25 from by rw [eq_1]; rfl)).trans (em25)))
      have z_20 : q_12.2.2.1 a0 26 = m26 := (h2_q_12.R ha0 (show ¬ ((h.1 a0 = 12 ∨ h.1 a0 = 113) ∧ (h.1 a0 = 8 ∨ h.1 a0 = 11)) from by omega) 26).trans (((show q_10.2.2.1 a0 26 = q_1.2.2.1 a0 26 from by rw [eq_10]; rfl)).trans (((show q_1.2.2.1 a0 26 = q.2.2.1 a0 26 from by rw [eq_1]; rfl)).trans (em26)))
      have z_21 : q_12.2.2.1 a0 27 = m27 := (h2_q_12.R ha0 (show ¬ ((h.1 a0 = 12 ∨ h.1 a0 = 113) ∧ (h.1 a0 = 8 ∨ h.1 a0 = 11)) from by omega) 27).trans (((show q_10.2.2.1 a0 27 = q_1.2.2.1 a0 27 from by rw [eq_10]; rfl)).trans (((show q_1.2.2.1 a0 27 = q.2.2.1 a0 27 from by rw [eq_1]; rfl)).trans (em27)))
      have z_22 : q_12.2.2.1 a0 28 = m28 := (h2_q_12.R ha0 (show ¬ ((h.1 a0 = 12 ∨ h.1 a0 = 113) ∧ (h.1 a0 = 8 ∨ h.1 a0 = 11)) from by omega) 28).trans (((show q_10.2.2.1 a0 28 = q_1.2.2.1 a0 28 from by rw [eq_10]; rfl)).trans (((show q_1.2.2.1 a0 28 = q.2.2.1 a0 28 from by rw [eq_1]; rfl)).trans (em28)))
      have z_23 : q_12.2.2.1 a0 29 = m29 := (h2_q_12.R ha0 (show ¬ ((h.1 a0 = 12 ∨ h.1 a0 = 113) ∧ (h.1 a0 = 8 ∨ h.1 a0 = 11)) from by omega) 29).trans (((show q_10.2.2.1 a0 29 = q_1.2.2.1 a0 29 from by rw [eq_10]; rfl)).trans (((show q_1.2.2.1 a0 29 = q.2.2.1 a0 29 from by rw [eq_1]; rfl)).trans (em29)))
      have z_24 : q_12.2.2.1 a0 30 = m30 := (h2_q_12.R ha0 (show ¬ ((h.1 a0 = 12 ∨ h.1 a0 = 113) ∧ (h.1 a0 = 8 ∨ h.1 a0 = 11)) from by omega) 30).trans (((show q_10.2.2.1 a0 30 = q_1.2.2.1 a0 30 from by rw [eq_10]; rfl)).trans (((show q_1.2.2.1 a0 30 = q.2.2.1 a0 30 from by rw [eq_1]; rfl)).trans (em30)))
      refine wa_callVi B (x := (RX12, TX12, 51)) (As := [.int (q_1.1 a0 31)]) (rest := []) (k_X12_readTablet l dC dI h L hN q_12 hV_q_12 (a0 := a0) ha0 ka0 (q_1.1 a0 31) (m18 := m18) z_15 (m19 := m19) z_16 (m23 := m23) z_17 (m24 := m24) z_18 (m25 := m25) z_19 (m26 := m26) z_20 (m27 := m27) z_21 (m28 := m28) z_22 (m29 := m29) z_23 (m30 := m30) z_24 mN_q_12 mS_q_12 (by first | assumption | omega | decide) (by first | assumption | omega | decide)) (cwV 1 B.1.2.2.2.2 gX12_tablet_X12_readTablet rfl rfl rfl (by decide +kernel) ⟨Nat.le_of_ble_eq_true rfl, Nat.le_of_ble_eq_true rfl⟩) ha0 ka0 (by decide) rfl rfl rfl (Nat.le_of_ble_eq_true rfl) dX12_tablet_48 (fun r_26 q_25 w_27 => ?_)
      obtain ⟨hV_q_25, h2_q_25, h3_q_25, mN_q_25, mS_q_25, hw_27⟩ := w_27
      have hF_q_25 : sx_fr h L (fun a => h.1 a = 12 ∨ h.1 a = 113 ∨ h.1 a = 133 ∨ h.1 a = 134 ∨ h.1 a = 135 ∨ h.1 a = 138 ∨ h.1 a = 139 ∨ h.1 a = 140 ∨ h.1 a = 136 ∨ h.1 a = 137) q q_25 := hF_q_12.tr (h2_q_25.mono (fun a (z : h.1 a = 12 ∨ h.1 a = 133 ∨ h.1 a = 134 ∨ h.1 a = 135 ∨ h.1 a = 138 ∨ h.1 a = 139 ∨ h.1 a = 140 ∨ h.1 a = 136 ∨ h.1 a = 137) => (show h.1 a = 12 ∨ h.1 a = 113 ∨ h.1 a = 133 ∨ h.1 a = 134 ∨ h.1 a = 135 ∨ h.1 a = 138 ∨ h.1 a = 139 ∨ h.1 a = 140 ∨ h.1 a = 136 ∨ h.1 a = 137 from by omega)))
      have hK_q_25 : sx_kf a0 [0, 2, 4, 14, 15, 31, 32, 33, 5, 10, 6, 7, 8, 9, 11, 12, 13] q q_25 := hK_q_12.tr (h3_q_25.mono (by decide))
      refine wa_if_ne B 61 dX12_tablet_51 (by decide) (fun (t_28 : ¬ r_26.toInt = 0) => ?_) (fun (t_28 : r_26.toInt = 0) => ?_)
      · refine wa_aload_n B dX12_tablet_61 rfl 0 rfl ?_
        refine wa_dup B dX12_tablet_62 rfl ?_
        have z_29 : q_25.1 a0 31 = (q_1.1 a0 31) := (h3_q_25.1 31 (by decide)).trans (z_14)
        refine wa_getI B (C := RX12) (T := TX12) (N := 51) iq_X12_tablet_X12 ha0 ka0 (by decide) rfl 31 (by decide) (by decide) (by decide +kernel) rfl (by decide) (v := (q_1.1 a0 31)) z_29 dX12_tablet_63 ?_
        refine wa_iconst B 1 dX12_tablet_66 (by decide) ?_
        refine wa_iadd B dX12_tablet_67 (fun v_30 ev_30 => ?_)
        have tv_30 : v_30.toInt = (q_1.1 a0 31).toInt + 1 := by have b0 := zx_bd (q_1.1 a0 31); rw [ev_30]; exact zx_add (show (-2147483648 : Int) ≤ (q_1.1 a0 31).toInt + 1 by omega) (show (q_1.1 a0 31).toInt + 1 < (2147483648 : Int) by omega)
        refine wa_putI B (C := RX12) (T := TX12) (N := 51) iq_X12_tablet_X12 ha0 ka0 (by decide) rfl 31 (by decide) (by decide) (by decide +kernel) rfl (by decide) (v := v_30) (ty := .int) tyX12 tyX12_ok nmX12 rfl (by decide +kernel) rfl rfl dX12_tablet_68 (fun q_31 eq_31 => ?_)
        have hV_q_31 : sx_V h L q_31 := by rw [eq_31]; exact hV_q_25.pI ka0 (show sx_in v_30 (0) 8 from ⟨by omega, by omega⟩)
        have hF_q_31 : sx_fr h L (fun a => h.1 a = 12 ∨ h.1 a = 113 ∨ h.1 a = 133 ∨ h.1 a = 134 ∨ h.1 a = 135 ∨ h.1 a = 138 ∨ h.1 a = 139 ∨ h.1 a = 140 ∨ h.1 a = 136 ∨ h.1 a = 137) q q_31 := hF_q_25.tr (by rw [eq_31]; exact sx_fr.pI (show h.1 a0 = 12 ∨ h.1 a0 = 113 ∨ h.1 a0 = 133 ∨ h.1 a0 = 134 ∨ h.1 a0 = 135 ∨ h.1 a0 = 138 ∨ h.1 a0 = 139 ∨ h.1 a0 = 140 ∨ h.1 a0 = 136 ∨ h.1 a0 = 137 from by omega))
        have z_32 : q_31.1 a0 31 = v_30 := by rw [eq_31]; exact sg_pI_e
        have hK_q_31 : sx_kf a0 [0, 2, 4, 14, 15, 31, 32, 33, 5, 10, 6, 7, 8, 9, 11, 12, 13] q q_31 := hK_q_25.tr (by rw [eq_31]; exact sx_kf.pI (by decide))
        have mN_q_31 : mv_N a0 q_31 := mv_N.eq ((show q_31.1 a0 8 = q_25.1 a0 8 from by rw [eq_31]; exact sg_pI_k (by decide))) ((show q_31.2.1 a0 11 = q_25.2.1 a0 11 from by rw [eq_31]; rfl)) mN_q_25
        have mS_q_31 : mv_S m23 m26 m28 m29 q_31 := mv_S.eq ((show q_31.2.2.2.1 m23 = q_25.2.2.2.1 m23 from by rw [eq_31]; rfl)) ((show q_31.2.2.2.1 m26 = q_25.2.2.2.1 m26 from by rw [eq_31]; rfl)) ((show q_31.2.2.2.1 m28 = q_25.2.2.2.1 m28 from by rw [eq_31]; rfl)) ((show q_31.2.2.2.1 m29 = q_25.2.2.2.1 m29 from by rw [eq_31]; rfl)) mS_q_25
        refine wa_aload_n B dX12_tablet_71 rfl 0 rfl ?_
        refine wa_getI B (C := RX12) (T := TX12) (N := 51) iq_X12_tablet_X12 ha0 ka0 (by decide) rfl 31 (by decide) (by decide) (by decide +kernel) rfl (by decide) (v := v_30) z_32 dX12_tablet_72 ?_
        have g_33 : (0 : Int) ≤ v_30.toInt ∧ v_30.toInt ≤ 8 := by rw [← z_32]; exact hV_q_31.int ha0 ka0 31
        refine wa_iconst B 1 dX12_tablet_75 (by decide) ?_
        refine wa_isub B dX12_tablet_76 (fun v_34 ev_34 => ?_)
        have tv_34 : v_34.toInt = v_30.toInt - 1 := by have b0 := zx_bd v_30; rw [ev_34]; exact zx_sub (show (-2147483648 : Int) ≤ v_30.toInt - 1 by omega) (show v_30.toInt - 1 < (2147483648 : Int) by omega)
        have z_35 : q_31.1 a0 2 = q_12.1 a0 2 := ((show q_31.1 a0 2 = q_25.1 a0 2 from by rw [eq_31]; exact sg_pI_k (by decide))).trans (h3_q_25.1 2 (by decide))
        have y_36 : (q_31.1 a0 2).toInt = (q_12.1 a0 2).toInt := by rw [z_35]
        exact hret _ _ _ _ dX12_tablet_77 ⟨hV_q_31, hF_q_31, hK_q_31, mN_q_31, mS_q_31, (by first | omega | (refine ⟨?_, ?_⟩ <;> omega) | trivial)⟩
      · refine wa_iconst B (-1) dX12_tablet_54 (by decide) ?_
        refine wa_aload_n B dX12_tablet_55 rfl 0 rfl ?_
        refine wa_getI B (C := RX12) (T := TX12) (N := 51) iq_X12_tablet_X12 ha0 ka0 (by decide) rfl 15 (by decide) (by decide) (by decide +kernel) rfl (by decide) (v := (q_25.1 a0 15)) rfl dX12_tablet_56 ?_
        refine wa_isub B dX12_tablet_59 (fun v_37 ev_37 => ?_)
        have tv_37 : v_37.toInt = (-1) - (q_25.1 a0 15).toInt := by have b1 := zx_bd (q_25.1 a0 15); rw [ev_37]; exact zx_sub (show (-2147483648 : Int) ≤ (-1) - (q_25.1 a0 15).toInt by omega) (show (-1) - (q_25.1 a0 15).toInt < (2147483648 : Int) by omega)
        have z_38 : q_25.1 a0 2 = q_12.1 a0 2 := h3_q_25.1 2 (by decide)
        have y_39 : (q_25.1 a0 2).toInt = (q_12.1 a0 2).toInt := by rw [z_38]
        exact hret _ _ _ _ dX12_tablet_60 ⟨hV_q_25, hF_q_25, hK_q_25, mN_q_25, mS_q_25, (by first | omega | (refine ⟨?_, ?_⟩ <;> omega) | trivial)⟩
    · refine wa_aload_n B dX12_tablet_21 rfl 0 rfl ?_
      refine wa_iconst B 0 dX12_tablet_22 (by decide) ?_
      refine wa_putI B (C := RX12) (T := TX12) (N := 51) iq_X12_tablet_X12 ha0 ka0 (by decide) rfl 2 (by decide) (by decide) (by decide +kernel) rfl (by decide) (v := 0) (ty := .int) tyX12 tyX12_ok nmX12 rfl (by decide +kernel) rfl rfl dX12_tablet_23 (fun q_40 eq_40 => ?_)
      have hV_q_40 : sx_V h L q_40 := by rw [eq_40]; exact hV_q_1.pI ka0 (show sx_in 0 (0) 440 from ⟨by decide, by decide⟩)
      have hF_q_40 : sx_fr h L (fun a => h.1 a = 12 ∨ h.1 a = 113 ∨ h.1 a = 133 ∨ h.1 a = 134 ∨ h.1 a = 135 ∨ h.1 a = 138 ∨ h.1 a = 139 ∨ h.1 a = 140 ∨ h.1 a = 136 ∨ h.1 a = 137) q q_40 := hF_q_1.tr (by rw [eq_40]; exact sx_fr.pI (show h.1 a0 = 12 ∨ h.1 a0 = 113 ∨ h.1 a0 = 133 ∨ h.1 a0 = 134 ∨ h.1 a0 = 135 ∨ h.1 a0 = 138 ∨ h.1 a0 = 139 ∨ h.1 a0 = 140 ∨ h.1 a0 = 136 ∨ h.1 a0 = 137 from by omega))
      have z_41 : q_40.1 a0 2 = 0 := by rw [eq_40]; exact sg_pI_e
      have hK_q_40 : sx_kf a0 [0, 2, 4, 14, 15, 31, 32, 33, 5, 10, 6, 7, 8, 9, 11, 12, 13] q q_40 := hK_q_1.tr (by rw [eq_40]; exact sx_kf.pI (by decide))
      have mN_q_40 : mv_N a0 q_40 := mv_N.eq ((show q_40.1 a0 8 = q_1.1 a0 8 from by rw [eq_40]; exact sg_pI_k (by decide))) ((show q_40.2.1 a0 11 = q_1.2.1 a0 11 from by rw [eq_40]; rfl)) mN_q_1
      have mS_q_40 : mv_S m23 m26 m28 m29 q_40 := mv_S.eq ((show q_40.2.2.2.1 m23 = q_1.2.2.2.1 m23 from by rw [eq_40]; rfl)) ((show q_40.2.2.2.1 m26 = q_1.2.2.2.1 m26 from by rw [eq_40]; rfl)) ((show q_40.2.2.2.1 m28 = q_1.2.2.2.1 m28 from by rw [eq_40]; rfl)) ((show q_40.2.2.2.1 m29 = q_1.2.2.2.1 m29 from by rw [eq_40]; rfl)) mS_q_1
      refine wa_sipush B (-400) dX12_tablet_26 (by decide) ?_
      have y_42 : (q_40.1 a0 2).toInt = 0 := by rw [z_41]; rfl
      exact hret _ _ _ _ dX12_tablet_29 ⟨hV_q_40, hF_q_40, hK_q_40, mN_q_40, mS_q_40, (by have h9 : ((-400) : Int32).toInt = (-400) := rfl; first | omega | (refine ⟨?_, ?_⟩ <;> omega) | trivial)⟩
