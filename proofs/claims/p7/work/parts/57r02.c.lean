set_option maxHeartbeats 4000000 in
set_option maxRecDepth 100000 in
theorem k_X12_systems_c (l : Launch) (dC : Nat → ClassId) (dI : Nat → Nat → Nat) (h : Sh) (L : List Nat) (hN : sx_nd L) (q : Sg) (hV : sx_V h L q) {a0 : Nat} (ha0 : a0 ∈ L) (ka0 : h.1 a0 = 12) {m1 : Nat} (em1 : q.2.2.1 a0 1 = m1) {m3 : Nat} (em3 : q.2.2.1 a0 3 = m3) {m16 : Nat} (em16 : q.2.2.1 a0 16 = m16) {m17 : Nat} (em17 : q.2.2.1 a0 17 = m17) {m18 : Nat} (em18 : q.2.2.1 a0 18 = m18) {m19 : Nat} (em19 : q.2.2.1 a0 19 = m19) (mN : mv_N a0 q) (mF : mv_F m18 m19 q) (mU : mv_U m17 q) (F : Nat → Int32) (n9 : Nat) (R9 : Option Nat × PU) (hn9 : (n9 : Int) = (q.1 a0 2).toInt) (hFF : ∀ j : Nat, j < n9 → q.2.2.2.1 m1 j = F j) (hR9 : R9 = pm_run F n9 401 0 0 pu_0 0) : CMi l dC dI h L yX12_systems wsX12_systems ({ frames := 5, cells := 0, slots := 0, locals := 110 } : Room) q [.ref a0] (fun r q' => sx_V h L q' ∧ sx_fr h L (fun a => h.1 a = 12 ∨ h.1 a = 113 ∨ h.1 a = 226 ∨ h.1 a = 227 ∨ h.1 a = 128 ∨ h.1 a = 129) q q' ∧ sx_kf a0 [0, 14, 15, 2, 4, 5, 10, 20, 31, 49, 50, 6, 7, 8, 9, 11, 12, 13] q q' ∧ mv_N a0 q' ∧ mv_F m18 m19 q' ∧ mv_U m17 q' ∧ ((q'.1 a0 2).toInt = 0 ∧ ((∃ p : Nat, R9.1 = some p ∧ r.toInt = -1 - (p : Int)) ∧ q'.1 a0 20 = q.1 a0 20 ∧ rs_lo (q.2.2.2.2 m17) (q'.2.2.2.2 m17) (q.2.2.2.1 m18) (q'.2.2.2.1 m18) (q.2.2.2.1 m19) (q'.2.2.2.1 m19) ∨ R9.1 = none ∧ r.toInt = ((R9.2.1 : Nat) : Int) ∧ (q'.1 a0 20).toInt = ((R9.2.1 : Nat) : Int) ∧ r27z F R9.2 (q'.2.2.2.2 m17) (q'.2.2.2.1 m18) (q'.2.2.2.1 m19) ∧ pm_ok F 0 R9.2))) := by
  refine cm_i (cc := cX12_systems) (mL := 4) (own := RX12) hN (by decide) rfl rfl (Nat.le_of_ble_eq_true rfl) (fun Z B hret => ?_)
  have hF : sx_fr h L (fun a => h.1 a = 12 ∨ h.1 a = 113 ∨ h.1 a = 226 ∨ h.1 a = 227 ∨ h.1 a = 128 ∨ h.1 a = 129) q q := sx_fr.rf
  have hK : sx_kf a0 [0, 14, 15, 2, 4, 5, 10, 20, 31, 49, 50, 6, 7, 8, 9, 11, 12, 13] q q := sx_kf.rf
  obtain ⟨hm1, km1, lm1⟩ : m1 ∈ L ∧ h.1 m1 = 111 ∧ h.2.1 m1 = 440 := by obtain ⟨r9, e9, z1, z2, z3⟩ := hV.refn (t := 111) (n := 440) ha0 ka0 1 rfl (by decide) rfl (by decide); rw [← em1, e9]; exact ⟨z1, z2, z3⟩
  obtain ⟨hm3, km3, lm3⟩ : m3 ∈ L ∧ h.1 m3 = 113 ∧ h.2.1 m3 = 500 := by obtain ⟨r9, e9, z1, z2, z3⟩ := hV.refn (t := 113) (n := 500) ha0 ka0 3 rfl (by decide) rfl (by decide); rw [← em3, e9]; exact ⟨z1, z2, z3⟩
  obtain ⟨hm16, km16, lm16⟩ : m16 ∈ L ∧ h.1 m16 = 226 ∧ h.2.1 m16 = 6 := by obtain ⟨r9, e9, z1, z2, z3⟩ := hV.refn (t := 226) (n := 6) ha0 ka0 16 rfl (by decide) rfl (by decide); rw [← em16, e9]; exact ⟨z1, z2, z3⟩
  obtain ⟨hm17, km17, lm17⟩ : m17 ∈ L ∧ h.1 m17 = 227 ∧ h.2.1 m17 = 30 := by obtain ⟨r9, e9, z1, z2, z3⟩ := hV.refn (t := 227) (n := 30) ha0 ka0 17 rfl (by decide) rfl (by decide); rw [← em17, e9]; exact ⟨z1, z2, z3⟩
  obtain ⟨hm18, km18, lm18⟩ : m18 ∈ L ∧ h.1 m18 = 128 ∧ h.2.1 m18 = 6 := by obtain ⟨r9, e9, z1, z2, z3⟩ := hV.refn (t := 128) (n := 6) ha0 ka0 18 rfl (by decide) rfl (by decide); rw [← em18, e9]; exact ⟨z1, z2, z3⟩
  obtain ⟨hm19, km19, lm19⟩ : m19 ∈ L ∧ h.1 m19 = 129 ∧ h.2.1 m19 = 30 := by obtain ⟨r9, e9, z1, z2, z3⟩ := hV.refn (t := 129) (n := 30) ha0 ka0 19 rfl (by decide) rfl (by decide); rw [← em19, e9]; exact ⟨z1, z2, z3⟩
  show WA l dC dI h L ({ frames := 5, cells := 0, slots := 0, locals := 110 } : Room) 4 Z q 0 [(0, .ref a0)] []
  refine wa_aload_n B dX12_systems_0 rfl 0 rfl ?_
  refine wa_iconst B 0 dX12_systems_1 (by decide) ?_
  refine wa_putI B (C := RX12) (T := TX12) (N := 51) iq_X12_systems_X12 ha0 ka0 (by decide) rfl 0 (by decide) (by decide) (by decide +kernel) rfl (by decide) (v := 0) (ty := .int) tyX12 tyX12_ok nmX12 rfl (by decide +kernel) rfl rfl dX12_systems_2 (fun q_1 eq_1 => ?_)
  have hV_q_1 : sx_V h L q_1 := by rw [eq_1]; exact hV.pI ka0 trivial
  have hF_q_1 : sx_fr h L (fun a => h.1 a = 12 ∨ h.1 a = 113 ∨ h.1 a = 226 ∨ h.1 a = 227 ∨ h.1 a = 128 ∨ h.1 a = 129) q q_1 := hF.tr (by rw [eq_1]; exact sx_fr.pI (show h.1 a0 = 12 ∨ h.1 a0 = 113 ∨ h.1 a0 = 226 ∨ h.1 a0 = 227 ∨ h.1 a0 = 128 ∨ h.1 a0 = 129 from (Or.inl ka0)))
  have z_2 : q_1.1 a0 0 = 0 := by rw [eq_1]; exact sg_pI_e
  have hK_q_1 : sx_kf a0 [0, 14, 15, 2, 4, 5, 10, 20, 31, 49, 50, 6, 7, 8, 9, 11, 12, 13] q q_1 := hK.tr (by rw [eq_1]; exact sx_kf.pI (by decide))
  have mN_q_1 : mv_N a0 q_1 := mv_N.eq ((show q_1.1 a0 8 = q.1 a0 8 from by rw [eq_1]; exact sg_pI_k (by decide))) ((show q_1.2.1 a0 11 = q.2.1 a0 11 from by rw [eq_1]; rfl)) mN
  have mF_q_1 : mv_F m18 m19 q_1 := mv_F.eq ((show q_1.2.2.2.1 m18 = q.2.2.2.1 m18 from by rw [eq_1]; rfl)) ((show q_1.2.2.2.1 m19 = q.2.2.2.1 m19 from by rw [eq_1]; rfl)) mF
  have mU_q_1 : mv_U m17 q_1 := mv_U.eq ((show q_1.2.2.2.2 m17 = q.2.2.2.2 m17 from by rw [eq_1]; rfl)) mU
  refine wa_aload_n B dX12_systems_5 rfl 0 rfl ?_
  refine wa_iconst B 0 dX12_systems_6 (by decide) ?_
  refine wa_putI B (C := RX12) (T := TX12) (N := 51) iq_X12_systems_X12 ha0 ka0 (by decide) rfl 14 (by decide) (by decide) (by decide +kernel) rfl (by decide) (v := 0) (ty := .int) tyX12 tyX12_ok nmX12 rfl (by decide +kernel) rfl rfl dX12_systems_7 (fun q_3 eq_3 => ?_)
  have hV_q_3 : sx_V h L q_3 := by rw [eq_3]; exact hV_q_1.pI ka0 trivial
  have hF_q_3 : sx_fr h L (fun a => h.1 a = 12 ∨ h.1 a = 113 ∨ h.1 a = 226 ∨ h.1 a = 227 ∨ h.1 a = 128 ∨ h.1 a = 129) q q_3 := hF_q_1.tr (by rw [eq_3]; exact sx_fr.pI (show h.1 a0 = 12 ∨ h.1 a0 = 113 ∨ h.1 a0 = 226 ∨ h.1 a0 = 227 ∨ h.1 a0 = 128 ∨ h.1 a0 = 129 from (Or.inl ka0)))
  have z_4 : q_3.1 a0 14 = 0 := by rw [eq_3]; exact sg_pI_e
  have hK_q_3 : sx_kf a0 [0, 14, 15, 2, 4, 5, 10, 20, 31, 49, 50, 6, 7, 8, 9, 11, 12, 13] q q_3 := hK_q_1.tr (by rw [eq_3]; exact sx_kf.pI (by decide))
  have mN_q_3 : mv_N a0 q_3 := mv_N.eq ((show q_3.1 a0 8 = q_1.1 a0 8 from by rw [eq_3]; exact sg_pI_k (by decide))) ((show q_3.2.1 a0 11 = q_1.2.1 a0 11 from by rw [eq_3]; rfl)) mN_q_1
  have mF_q_3 : mv_F m18 m19 q_3 := mv_F.eq ((show q_3.2.2.2.1 m18 = q_1.2.2.2.1 m18 from by rw [eq_3]; rfl)) ((show q_3.2.2.2.1 m19 = q_1.2.2.2.1 m19 from by rw [eq_3]; rfl)) mF_q_1
  have mU_q_3 : mv_U m17 q_3 := mv_U.eq ((show q_3.2.2.2.2 m17 = q_1.2.2.2.2 m17 from by rw [eq_3]; rfl)) mU_q_1
  refine wa_aload_n B dX12_systems_10 rfl 0 rfl ?_
  refine wa_sipush B 400 dX12_systems_11 (by decide) ?_
  refine wa_iconst B 0 dX12_systems_14 (by decide) ?_
  have z_5 : q_3.2.2.1 a0 1 = m1 := ((show q_3.2.2.1 a0 1 = q_1.2.2.1 a0 1 from by rw [eq_3]; rfl)).trans (((show q_1.2.2.1 a0 1 = q.2.2.1 a0 1 from by rw [eq_1]; rfl)).trans (em1))
  have z_6 : q_3.2.2.1 a0 3 = m3 := ((show q_3.2.2.1 a0 3 = q_1.2.2.1 a0 3 from by rw [eq_3]; rfl)).trans (((show q_1.2.2.1 a0 3 = q.2.2.1 a0 3 from by rw [eq_1]; rfl)).trans (em3))
  have z_7 : q_3.1 a0 2 = q.1 a0 2 := ((show q_3.1 a0 2 = q_1.1 a0 2 from by rw [eq_3]; exact sg_pI_k (by decide))).trans ((show q_1.1 a0 2 = q.1 a0 2 from by rw [eq_1]; exact sg_pI_k (by decide)))
  have y_8 : (q_3.1 a0 2).toInt = (q.1 a0 2).toInt := by rw [z_7]
  have z_9 : q_3.2.2.2.1 m1 = q.2.2.2.1 m1 := ((show q_3.2.2.2.1 m1 = q_1.2.2.2.1 m1 from by rw [eq_3]; rfl)).trans ((show q_1.2.2.2.1 m1 = q.2.2.2.1 m1 from by rw [eq_1]; rfl))
  refine wa_callVv B (x := (RX12, TX12, 51)) (As := [.int 400, .int 0]) (rest := []) (k_X12_takes_c l dC dI h L hN q_3 hV_q_3 (a0 := a0) ha0 ka0 400 0 (m1 := m1) z_5 (m3 := m3) z_6 F n9 (by first | assumption | omega | decide) (by first | assumption | omega | decide) (by first | assumption | omega | decide) (fun j hj => by rw [z_9]; exact hFF j hj)) (cwV 2 B.1.2.2.2.2 gX12_systems_X12_takes rfl rfl rfl (by decide +kernel) ⟨Nat.le_of_ble_eq_true rfl, Nat.le_of_ble_eq_true rfl⟩) ha0 ka0 (by decide) rfl rfl rfl (Nat.le_of_ble_eq_true rfl) dX12_systems_15 (fun q_10 w_11 => ?_)
  obtain ⟨hV_q_10, h2_q_10, h3_q_10, mN_q_10, hw_11⟩ := w_11
  have hF_q_10 : sx_fr h L (fun a => h.1 a = 12 ∨ h.1 a = 113 ∨ h.1 a = 226 ∨ h.1 a = 227 ∨ h.1 a = 128 ∨ h.1 a = 129) q q_10 := hF_q_3.tr (h2_q_10.mono (fun a (z : h.1 a = 12 ∨ h.1 a = 113) => ((fun z => z.elim (fun z => (Or.inl z)) (fun z => (Or.inr (Or.inl z)))) z)))
  have hK_q_10 : sx_kf a0 [0, 14, 15, 2, 4, 5, 10, 20, 31, 49, 50, 6, 7, 8, 9, 11, 12, 13] q q_10 := hK_q_3.tr (h3_q_10.mono (by decide))
  have mF_q_10 : mv_F m18 m19 q_10 := mv_F.eq (h2_q_10.G hm18 (show ¬ (h.1 m18 = 12 ∨ h.1 m18 = 113) from (fun z => z.elim (fun z => absurd (z.symm.trans km18) (by decide)) (fun z => absurd (z.symm.trans km18) (by decide)))) (by rw [km18]; decide)) (h2_q_10.G hm19 (show ¬ (h.1 m19 = 12 ∨ h.1 m19 = 113) from (fun z => z.elim (fun z => absurd (z.symm.trans km19) (by decide)) (fun z => absurd (z.symm.trans km19) (by decide)))) (by rw [km19]; decide)) mF_q_3
  have mU_q_10 : mv_U m17 q_10 := mv_U.eq (h2_q_10.Lg hm17 (show ¬ (h.1 m17 = 12 ∨ h.1 m17 = 113) from (fun z => z.elim (fun z => absurd (z.symm.trans km17) (by decide)) (fun z => absurd (z.symm.trans km17) (by decide)))) (by rw [km17]; decide)) mU_q_3
  refine wa_iconst B 0 dX12_systems_18 (by decide) ?_
  refine wa_istore_n B [(1, .int 0), (0, .ref a0)] dX12_systems_19 rfl (by decide) rfl ?_
  have z_14 : q_10.1 a0 20 = q.1 a0 20 := (h3_q_10.1 20 (by decide)).trans (((show q_3.1 a0 20 = q_1.1 a0 20 from by rw [eq_3]; exact sg_pI_k (by decide))).trans ((show q_1.1 a0 20 = q.1 a0 20 from by rw [eq_1]; exact sg_pI_k (by decide))))
  have z_15 : q_10.1 a0 0 = 0 := (h3_q_10.1 0 (by decide)).trans (((show q_3.1 a0 0 = q_1.1 a0 0 from by rw [eq_3]; exact sg_pI_k (by decide))).trans (z_2))
  have z_16 : q_10.1 a0 14 = 0 := (h3_q_10.1 14 (by decide)).trans (z_4)
  have z_17 : q_10.2.2.1 a0 1 = m1 := (h2_q_10.R ha0 (fun z9 => absurd z9.2 (by omega)) 1).trans (z_5)
  have z_18 : q_10.2.2.1 a0 3 = m3 := (h2_q_10.R ha0 (fun z9 => absurd z9.2 (by omega)) 3).trans (z_6)
  have z_19 : q_10.2.2.1 a0 16 = m16 := (h2_q_10.R ha0 (fun z9 => absurd z9.2 (by omega)) 16).trans (((show q_3.2.2.1 a0 16 = q_1.2.2.1 a0 16 from by rw [eq_3]; rfl)).trans (((show q_1.2.2.1 a0 16 = q.2.2.1 a0 16 from by rw [eq_1]; rfl)).trans (em16)))
  have z_20 : q_10.2.2.1 a0 17 = m17 := (h2_q_10.R ha0 (fun z9 => absurd z9.2 (by omega)) 17).trans (((show q_3.2.2.1 a0 17 = q_1.2.2.1 a0 17 from by rw [eq_3]; rfl)).trans (((show q_1.2.2.1 a0 17 = q.2.2.1 a0 17 from by rw [eq_1]; rfl)).trans (em17)))
  have z_21 : q_10.2.2.1 a0 18 = m18 := (h2_q_10.R ha0 (fun z9 => absurd z9.2 (by omega)) 18).trans (((show q_3.2.2.1 a0 18 = q_1.2.2.1 a0 18 from by rw [eq_3]; rfl)).trans (((show q_1.2.2.1 a0 18 = q.2.2.1 a0 18 from by rw [eq_1]; rfl)).trans (em18)))
  have z_22 : q_10.2.2.1 a0 19 = m19 := (h2_q_10.R ha0 (fun z9 => absurd z9.2 (by omega)) 19).trans (((show q_3.2.2.1 a0 19 = q_1.2.2.1 a0 19 from by rw [eq_3]; rfl)).trans (((show q_1.2.2.1 a0 19 = q.2.2.1 a0 19 from by rw [eq_1]; rfl)).trans (em19)))
  have z_23 : q_10.2.2.2.1 m1 = (q.2.2.2.1 m1) := (h2_q_10.G hm1 (show ¬ (h.1 m1 = 12 ∨ h.1 m1 = 113) from (fun z => z.elim (fun z => absurd (z.symm.trans km1) (by decide)) (fun z => absurd (z.symm.trans km1) (by decide)))) (by rw [km1]; decide)).trans (z_9)
  have z_24 : q_10.2.2.2.1 m18 = q.2.2.2.1 m18 := (h2_q_10.G hm18 (show ¬ (h.1 m18 = 12 ∨ h.1 m18 = 113) from (fun z => z.elim (fun z => absurd (z.symm.trans km18) (by decide)) (fun z => absurd (z.symm.trans km18) (by decide)))) (by rw [km18]; decide)).trans (((show q_3.2.2.2.1 m18 = q_1.2.2.2.1 m18 from by rw [eq_3]; rfl)).trans ((show q_1.2.2.2.1 m18 = q.2.2.2.1 m18 from by rw [eq_1]; rfl)))
  have z_25 : q_10.2.2.2.1 m19 = q.2.2.2.1 m19 := (h2_q_10.G hm19 (show ¬ (h.1 m19 = 12 ∨ h.1 m19 = 113) from (fun z => z.elim (fun z => absurd (z.symm.trans km19) (by decide)) (fun z => absurd (z.symm.trans km19) (by decide)))) (by rw [km19]; decide)).trans (((show q_3.2.2.2.1 m19 = q_1.2.2.2.1 m19 from by rw [eq_3]; rfl)).trans ((show q_1.2.2.2.1 m19 = q.2.2.2.1 m19 from by rw [eq_1]; rfl)))
  have z_26 : q_10.2.2.2.2 m16 = q.2.2.2.2 m16 := (h2_q_10.Lg hm16 (show ¬ (h.1 m16 = 12 ∨ h.1 m16 = 113) from (fun z => z.elim (fun z => absurd (z.symm.trans km16) (by decide)) (fun z => absurd (z.symm.trans km16) (by decide)))) (by rw [km16]; decide)).trans (((show q_3.2.2.2.2 m16 = q_1.2.2.2.2 m16 from by rw [eq_3]; rfl)).trans ((show q_1.2.2.2.2 m16 = q.2.2.2.2 m16 from by rw [eq_1]; rfl)))
  have z_27 : q_10.2.2.2.2 m17 = q.2.2.2.2 m17 := (h2_q_10.Lg hm17 (show ¬ (h.1 m17 = 12 ∨ h.1 m17 = 113) from (fun z => z.elim (fun z => absurd (z.symm.trans km17) (by decide)) (fun z => absurd (z.symm.trans km17) (by decide)))) (by rw [km17]; decide)).trans (((show q_3.2.2.2.2 m17 = q_1.2.2.2.2 m17 from by rw [eq_3]; rfl)).trans ((show q_1.2.2.2.2 m17 = q.2.2.2.2 m17 from by rw [eq_1]; rfl)))
  have Lp_20_34 : ∀ (n : Nat) (v_12 : Int32) (q_13 : Sg), sx_V h L q_13 → sx_fr h L (fun a => h.1 a = 12 ∨ h.1 a = 113 ∨ h.1 a = 226 ∨ h.1 a = 227 ∨ h.1 a = 128 ∨ h.1 a = 129) q q_13 → sx_kf a0 [0, 14, 15, 2, 4, 5, 10, 20, 31, 49, 50, 6, 7, 8, 9, 11, 12, 13] q q_13 → mv_N a0 q_13 → mv_F m18 m19 q_13 → mv_U m17 q_13 → q_13.1 a0 20 = (q.1 a0 20) → q_13.1 a0 2 = (q_10.1 a0 2) → q_13.1 a0 0 = 0 → q_13.1 a0 10 = (q_10.1 a0 10) → q_13.1 a0 4 = (q_10.1 a0 4) → q_13.1 a0 5 = (q_10.1 a0 5) → q_13.2.2.1 a0 1 = m1 → q_13.2.2.1 a0 3 = m3 → q_13.2.2.1 a0 16 = m16 → q_13.2.2.1 a0 17 = m17 → q_13.2.2.1 a0 18 = m18 → q_13.2.2.1 a0 19 = m19 → q_13.2.2.2.1 m1 = (q.2.2.2.1 m1) → q_13.2.2.2.1 m3 = (q_10.2.2.2.1 m3) → 0 ≤ v_12.toInt → v_12.toInt ≤ 3 → (q_13.1 a0 6).toInt ≤ (q_13.1 a0 4).toInt → v_12.toInt = 0 ∨ ¬ (q_13.1 a0 8).toInt = 0 → rs_lo (q.2.2.2.2 m17) (q_13.2.2.2.2 m17) (q.2.2.2.1 m18) (q_13.2.2.2.1 m18) (q.2.2.2.1 m19) (q_13.2.2.2.1 m19) → rs_P F n9 R9 0 (v_12).toInt.toNat (q_13.1 a0 8) (q_13.1 a0 9) (q_13.1 a0 7) (q_13.1 a0 6) (q_13.1 a0 12) (q_13.1 a0 13) (q_13.2.1 a0 11) (q_13.2.2.2.2 m16) (q_13.2.2.2.2 m17) (q_13.2.2.2.1 m18) (q_13.2.2.2.1 m19) → (4 - v_12.toInt : Int).toNat < n → WA l dC dI h L ({ frames := 5, cells := 0, slots := 0, locals := 110 } : Room) 4 Z q_13 20 [(1, .int v_12), (0, .ref a0)] [] := by
    intro n
    induction n with
    | zero =>
      intro v_12 q_13 hV_q_13 hF_q_13 hK_q_13 mN_q_13 mF_q_13 mU_q_13 p0_q_13 p1_q_13 p2_q_13 p3_q_13 p4_q_13 p5_q_13 p6_q_13 p7_q_13 p8_q_13 p9_q_13 p10_q_13 p11_q_13 p12_q_13 p13_q_13 x_28 x_29 x_30 x_31 x_32 x_33 hn
      exact absurd hn (Nat.not_lt_zero _)
    | succ n ih_36 =>
      intro v_12 q_13 hV_q_13 hF_q_13 hK_q_13 mN_q_13 mF_q_13 mU_q_13 p0_q_13 p1_q_13 p2_q_13 p3_q_13 p4_q_13 p5_q_13 p6_q_13 p7_q_13 p8_q_13 p9_q_13 p10_q_13 p11_q_13 p12_q_13 p13_q_13 x_28 x_29 x_30 x_31 x_32 x_33 hn
      have y_35 : (q_13.1 a0 4).toInt = (q_10.1 a0 4).toInt := by rw [p4_q_13]
      refine wa_aload_n B dX12_systems_20 rfl 1 rfl ?_
      obtain ⟨A9, hT, hC⟩ := x_33
      have hpl := hT.1
      refine wa_gets0 B (by decide +kernel) dX12_systems_21 ?_
      refine wa_callVi B (x := (RX12, TX12, 51)) (As := [.long 286303963]) (rest := []) (k_X12_isKey_c l dC dI h L hN q_13 hV_q_13 (a0 := a0) ha0 ka0 286303963  ) (cwV 1 B.1.2.2.2.2 gX12_systems_X12_isKey rfl rfl rfl (by decide +kernel) ⟨Nat.le_of_ble_eq_true rfl, Nat.le_of_ble_eq_true rfl⟩) ha0 ka0 (by decide) rfl rfl rfl (Nat.le_of_ble_eq_true rfl) dX12_systems_24 (fun r_38 q_37 w_39 => ?_)
      obtain ⟨ew_39, hw_39⟩ := w_39
      subst ew_39
      refine wa_if_ne B 43 dX12_systems_27 (by decide) (fun (t_40 : ¬ r_38.toInt = 0) => ?_) (fun (t_40 : r_38.toInt = 0) => ?_)
      · refine wa_iload_n B dX12_systems_43 rfl 0 rfl ?_
        refine wa_iconst B 3 dX12_systems_44 (by decide) ?_
        refine wa_icmp_ne B 61 dX12_systems_45 (by decide) (fun (t_41 : ¬ v_12.toInt = 3) => ?_) (fun (t_41 : v_12.toInt = 3) => ?_)
        · have y9 := rr_key hC hT ⟨((hw_39.resolve_right (fun y => absurd y.1 (by omega))).2).1, ((hw_39.resolve_right (fun y => absurd y.1 (by omega))).2).2, by omega⟩
          refine wa_aload_n B dX12_systems_61 rfl 1 rfl ?_
          have y_42 : (q_13.1 a0 5).toInt = (q_10.1 a0 5).toInt := by rw [p5_q_13]
          have y_43 : (q_13.1 a0 4).toInt = (q_10.1 a0 4).toInt := by rw [p4_q_13]
          have y_44 : (q_13.1 a0 10).toInt = (q_10.1 a0 10).toInt := by rw [p3_q_13]
          refine wa_callVv B (x := (RX12, TX12, 51)) (As := []) (rest := []) (k_X12_go_c l dC dI h L hN q_13 hV_q_13 (a0 := a0) ha0 ka0 (m3 := m3) p7_q_13 F n9 (by first | assumption | omega | decide) (fun j hj => by rw [p13_q_13]; exact hw_11.2.2.2.2.2.1 j hj) (by first | assumption | omega | decide) (by first | assumption | omega | decide) (by first | assumption | omega | decide)) (cwV 0 B.1.2.2.2.2 gX12_systems_X12_go rfl rfl rfl (by decide +kernel) ⟨Nat.le_of_ble_eq_true rfl, Nat.le_of_ble_eq_true rfl⟩) ha0 ka0 (by decide) rfl rfl rfl (Nat.le_of_ble_eq_true rfl) dX12_systems_62 (fun q_45 w_46 => ?_)
          obtain ⟨hV_q_45, h2_q_45, h3_q_45, mN_q_45, hw_46⟩ := w_46
          have hF_q_45 : sx_fr h L (fun a => h.1 a = 12 ∨ h.1 a = 113 ∨ h.1 a = 226 ∨ h.1 a = 227 ∨ h.1 a = 128 ∨ h.1 a = 129) q q_45 := hF_q_13.tr (h2_q_45.mono (fun a (z : h.1 a = 12) => ((fun z => (Or.inl z)) z)))
          have hK_q_45 : sx_kf a0 [0, 14, 15, 2, 4, 5, 10, 20, 31, 49, 50, 6, 7, 8, 9, 11, 12, 13] q q_45 := hK_q_13.tr (h3_q_45.mono (by decide))
          have mF_q_45 : mv_F m18 m19 q_45 := mv_F.eq (h2_q_45.G hm18 (show ¬ (h.1 m18 = 12) from (fun z => absurd (z.symm.trans km18) (by decide))) (by rw [km18]; decide)) (h2_q_45.G hm19 (show ¬ (h.1 m19 = 12) from (fun z => absurd (z.symm.trans km19) (by decide))) (by rw [km19]; decide)) mF_q_13
          have mU_q_45 : mv_U m17 q_45 := mv_U.eq (h2_q_45.Lg hm17 (show ¬ (h.1 m17 = 12) from (fun z => absurd (z.symm.trans km17) (by decide))) (by rw [km17]; decide)) mU_q_13
          rw [show (q_13.1 a0 6).toInt.toNat = pz_E F n9 A9 from (by omega)] at hw_46
          obtain ⟨hT20, hT2⟩ := hw_46
          refine wa_aload_n B dX12_systems_65 rfl 1 rfl ?_
          have z_48 : q_45.2.2.2.2 m16 = q_13.2.2.2.2 m16 := h2_q_45.Lg hm16 (show ¬ (h.1 m16 = 12) from (fun z => absurd (z.symm.trans km16) (by decide))) (by rw [km16]; decide)
          have z_49 : q_45.2.2.2.2 m17 = q_13.2.2.2.2 m17 := h2_q_45.Lg hm17 (show ¬ (h.1 m17 = 12) from (fun z => absurd (z.symm.trans km17) (by decide))) (by rw [km17]; decide)
          have z_50 : q_45.2.2.2.1 m18 = q_13.2.2.2.1 m18 := h2_q_45.G hm18 (show ¬ (h.1 m18 = 12) from (fun z => absurd (z.symm.trans km18) (by decide))) (by rw [km18]; decide)
          have z_51 : q_45.2.2.2.1 m19 = q_13.2.2.2.1 m19 := h2_q_45.G hm19 (show ¬ (h.1 m19 = 12) from (fun z => absurd (z.symm.trans km19) (by decide))) (by rw [km19]; decide)
          have lo_47 : rs_lo (q.2.2.2.2 m17) (q_45.2.2.2.2 m17) (q.2.2.2.1 m18) (q_45.2.2.2.1 m18) (q.2.2.2.1 m19) (q_45.2.2.2.1 m19) := by rw [z_49, z_50, z_51]; exact x_32
          refine wa_iload_n B dX12_systems_66 rfl 0 rfl ?_
          have z_52 : q_45.2.2.1 a0 3 = m3 := (h2_q_45.R ha0 (fun z9 => absurd z9.2 (by omega)) 3).trans (p7_q_13)
          have z_53 : q_45.2.2.1 a0 16 = m16 := (h2_q_45.R ha0 (fun z9 => absurd z9.2 (by omega)) 16).trans (p8_q_13)
          have z_54 : q_45.2.2.1 a0 17 = m17 := (h2_q_45.R ha0 (fun z9 => absurd z9.2 (by omega)) 17).trans (p9_q_13)
          have z_55 : q_45.2.2.1 a0 18 = m18 := (h2_q_45.R ha0 (fun z9 => absurd z9.2 (by omega)) 18).trans (p10_q_13)
          have z_56 : q_45.2.2.1 a0 19 = m19 := (h2_q_45.R ha0 (fun z9 => absurd z9.2 (by omega)) 19).trans (p11_q_13)
          have z_57 : q_45.1 a0 10 = (q_10.1 a0 10) := (h3_q_45.1 10 (by decide)).trans (p3_q_13)
          have y_58 : (q_45.1 a0 10).toInt = (q_10.1 a0 10).toInt := by rw [z_57]
          have z_59 : q_45.1 a0 5 = (q_10.1 a0 5) := (h3_q_45.1 5 (by decide)).trans (p5_q_13)
          have y_60 : (q_45.1 a0 5).toInt = (q_10.1 a0 5).toInt := by rw [z_59]
          have z_61 : q_45.1 a0 4 = (q_10.1 a0 4) := (h3_q_45.1 4 (by decide)).trans (p4_q_13)
          have y_62 : (q_45.1 a0 4).toInt = (q_10.1 a0 4).toInt := by rw [z_61]
          have z_63 : q_45.2.2.2.1 m3 = (q_10.2.2.2.1 m3) := (h2_q_45.G hm3 (show ¬ (h.1 m3 = 12) from (fun z => absurd (z.symm.trans km3) (by decide))) (by rw [km3]; decide)).trans (p13_q_13)
          refine wa_callVi B (x := (RX12, TX12, 51)) (As := [.int v_12]) (rest := []) (k_X12_readSystem_c l dC dI h L hN q_45 hV_q_45 (a0 := a0) ha0 ka0 v_12 (m3 := m3) z_52 (m16 := m16) z_53 (m17 := m17) z_54 (m18 := m18) z_55 (m19 := m19) z_56 mN_q_45 mF_q_45 mU_q_45 F n9 R9 (by first | assumption | omega | decide) (by first | assumption | omega | decide) (by first | assumption | omega | decide) (fun j hj => by rw [z_63]; exact hw_11.2.2.2.2.2.1 j hj) (by first | assumption | omega | decide) (by first | assumption | omega | decide) (by first | assumption | omega | decide) (by rw [z_48, z_49, z_50, z_51]; exact ⟨_, hT2, y9.2⟩)) (cwV 1 B.1.2.2.2.2 gX12_systems_X12_readSystem rfl rfl rfl (by decide +kernel) ⟨Nat.le_of_ble_eq_true rfl, Nat.le_of_ble_eq_true rfl⟩) ha0 ka0 (by decide) rfl rfl rfl (Nat.le_of_ble_eq_true rfl) dX12_systems_67 (fun r_65 q_64 w_66 => ?_)
          obtain ⟨hV_q_64, h2_q_64, h3_q_64, mN_q_64, mF_q_64, mU_q_64, hw_66⟩ := w_66
          have hF_q_64 : sx_fr h L (fun a => h.1 a = 12 ∨ h.1 a = 113 ∨ h.1 a = 226 ∨ h.1 a = 227 ∨ h.1 a = 128 ∨ h.1 a = 129) q q_64 := hF_q_45.tr (h2_q_64.mono (fun a (z : h.1 a = 12 ∨ h.1 a = 226 ∨ h.1 a = 227 ∨ h.1 a = 128 ∨ h.1 a = 129) => ((fun z => z.elim (fun z => (Or.inl z)) (fun z => z.elim (fun z => (Or.inr (Or.inr (Or.inl z)))) (fun z => z.elim (fun z => (Or.inr (Or.inr (Or.inr (Or.inl z))))) (fun z => z.elim (fun z => (Or.inr (Or.inr (Or.inr (Or.inr (Or.inl z)))))) (fun z => (Or.inr (Or.inr (Or.inr (Or.inr (Or.inr z)))))))))) z)))
          have hK_q_64 : sx_kf a0 [0, 14, 15, 2, 4, 5, 10, 20, 31, 49, 50, 6, 7, 8, 9, 11, 12, 13] q q_64 := hK_q_45.tr (h3_q_64.mono (by decide))
          have z_67 : q_64.1 a0 4 = (q_10.1 a0 4) := (h3_q_64.1 4 (by decide)).trans (z_61)
          have lo_68 : rs_lo (q.2.2.2.2 m17) (q_64.2.2.2.2 m17) (q.2.2.2.1 m18) (q_64.2.2.2.1 m18) (q.2.2.2.1 m19) (q_64.2.2.2.1 m19) := rs_lo.tr lo_47 hw_66.2
          refine wa_if_ne B 80 dX12_systems_70 (by decide) (fun (t_69 : ¬ r_65.toInt = 0) => ?_) (fun (t_69 : r_65.toInt = 0) => ?_)
          · obtain ⟨v_70, ev_70⟩ : ∃ z : Int32, z = v_12 + 1 := ⟨_, rfl⟩
            refine wa_iinc B [(1, .int v_70), (0, .ref a0)] v_70 dX12_systems_80 0 rfl (by rw [ev_70]; rfl) (by decide) rfl ?_
            refine wa_aload_n B dX12_systems_83 rfl 1 rfl ?_
            refine wa_getI B (C := RX12) (T := TX12) (N := 51) iq_X12_systems_X12 ha0 ka0 (by decide) rfl 8 (by decide) (by decide) (by decide +kernel) rfl (by decide) (v := (q_64.1 a0 8)) rfl dX12_systems_84 ?_
            refine wa_if_ne B 20 dX12_systems_87 (by decide) (fun (t_71 : ¬ (q_64.1 a0 8).toInt = 0) => ?_) (fun (t_71 : (q_64.1 a0 8).toInt = 0) => ?_)
            · have tv_70 : v_70.toInt = v_12.toInt + 1 := by have b0 := zx_bd v_12; rw [ev_70]; exact zx_add (show (-2147483648 : Int) ≤ v_12.toInt + 1 by omega) (show v_12.toInt + 1 < (2147483648 : Int) by omega)
              have y_72 : (q_64.1 a0 4).toInt = (q_10.1 a0 4).toInt := by rw [z_67]
              have z_73 : q_64.1 a0 20 = (q.1 a0 20) := (h3_q_64.1 20 (by decide)).trans ((h3_q_45.1 20 (by decide)).trans (p0_q_13))
              have z_74 : q_64.1 a0 2 = (q_10.1 a0 2) := (h3_q_64.1 2 (by decide)).trans ((h3_q_45.1 2 (by decide)).trans (p1_q_13))
              have z_75 : q_64.1 a0 0 = 0 := (h3_q_64.1 0 (by decide)).trans ((h3_q_45.1 0 (by decide)).trans (p2_q_13))
              have z_76 : q_64.1 a0 10 = (q_10.1 a0 10) := (h3_q_64.1 10 (by decide)).trans (z_57)
              have z_77 : q_64.1 a0 5 = (q_10.1 a0 5) := (h3_q_64.1 5 (by decide)).trans (z_59)
              have z_78 : q_64.2.2.1 a0 1 = m1 := (h2_q_64.R ha0 (fun z9 => absurd z9.2 (by omega)) 1).trans ((h2_q_45.R ha0 (fun z9 => absurd z9.2 (by omega)) 1).trans (p6_q_13))
              have z_79 : q_64.2.2.1 a0 3 = m3 := (h2_q_64.R ha0 (fun z9 => absurd z9.2 (by omega)) 3).trans (z_52)
              have z_80 : q_64.2.2.1 a0 16 = m16 := (h2_q_64.R ha0 (fun z9 => absurd z9.2 (by omega)) 16).trans (z_53)
              have z_81 : q_64.2.2.1 a0 17 = m17 := (h2_q_64.R ha0 (fun z9 => absurd z9.2 (by omega)) 17).trans (z_54)
              have z_82 : q_64.2.2.1 a0 18 = m18 := (h2_q_64.R ha0 (fun z9 => absurd z9.2 (by omega)) 18).trans (z_55)
              have z_83 : q_64.2.2.1 a0 19 = m19 := (h2_q_64.R ha0 (fun z9 => absurd z9.2 (by omega)) 19).trans (z_56)
              have z_84 : q_64.2.2.2.1 m1 = (q.2.2.2.1 m1) := (h2_q_64.G hm1 (show ¬ (h.1 m1 = 12 ∨ h.1 m1 = 226 ∨ h.1 m1 = 227 ∨ h.1 m1 = 128 ∨ h.1 m1 = 129) from (fun z => z.elim (fun z => absurd (z.symm.trans km1) (by decide)) (fun z => z.elim (fun z => absurd (z.symm.trans km1) (by decide)) (fun z => z.elim (fun z => absurd (z.symm.trans km1) (by decide)) (fun z => z.elim (fun z => absurd (z.symm.trans km1) (by decide)) (fun z => absurd (z.symm.trans km1) (by decide))))))) (by rw [km1]; decide)).trans ((h2_q_45.G hm1 (show ¬ (h.1 m1 = 12) from (fun z => absurd (z.symm.trans km1) (by decide))) (by rw [km1]; decide)).trans (p12_q_13))
              have z_85 : q_64.2.2.2.1 m3 = (q_10.2.2.2.1 m3) := (h2_q_64.G hm3 (show ¬ (h.1 m3 = 12 ∨ h.1 m3 = 226 ∨ h.1 m3 = 227 ∨ h.1 m3 = 128 ∨ h.1 m3 = 129) from (fun z => z.elim (fun z => absurd (z.symm.trans km3) (by decide)) (fun z => z.elim (fun z => absurd (z.symm.trans km3) (by decide)) (fun z => z.elim (fun z => absurd (z.symm.trans km3) (by decide)) (fun z => z.elim (fun z => absurd (z.symm.trans km3) (by decide)) (fun z => absurd (z.symm.trans km3) (by decide))))))) (by rw [km3]; decide)).trans (z_63)
              exact ih_36 v_70 q_64 hV_q_64 hF_q_64 hK_q_64 mN_q_64 mF_q_64 mU_q_64 z_73 z_74 z_75 z_76 z_67 z_77 z_78 z_79 z_80 z_81 z_82 z_83 z_84 z_85 (show 0 ≤ v_70.toInt from by first | assumption | omega | decide) (show v_70.toInt ≤ 3 from by first | assumption | omega | decide) (show (q_64.1 a0 6).toInt ≤ (q_64.1 a0 4).toInt from by have y7 := (hw_66.1.resolve_left (fun y => absurd y.1 (by omega))).2.1; omega) (show v_70.toInt = 0 ∨ ¬ (q_64.1 a0 8).toInt = 0 from by first | assumption | omega | decide) (show rs_lo (q.2.2.2.2 m17) (q_64.2.2.2.2 m17) (q.2.2.2.1 m18) (q_64.2.2.2.1 m18) (q.2.2.2.1 m19) (q_64.2.2.2.1 m19) from by exact lo_68) (show rs_P F n9 R9 0 (v_70).toInt.toNat (q_64.1 a0 8) (q_64.1 a0 9) (q_64.1 a0 7) (q_64.1 a0 6) (q_64.1 a0 12) (q_64.1 a0 13) (q_64.2.1 a0 11) (q_64.2.2.2.2 m16) (q_64.2.2.2.2 m17) (q_64.2.2.2.1 m18) (q_64.2.2.2.1 m19) from by have y7 := (hw_66.1.resolve_left (fun y => absurd y.1 (by omega))).2.2; rw [show (v_70 : Int32).toInt.toNat = (v_12 : Int32).toInt.toNat + 1 by omega]; exact y7) (show (4 - v_70.toInt : Int).toNat < _ from by omega)
            · have tv_70 : v_70.toInt = v_12.toInt + 1 := by have b0 := zx_bd v_12; rw [ev_70]; exact zx_add (show (-2147483648 : Int) ≤ v_12.toInt + 1 by omega) (show v_12.toInt + 1 < (2147483648 : Int) by omega)
              have hD : R9.1 = none ∧ R9.2.1 = (v_70 : Int32).toInt.toNat ∧ r27 F R9.2 (q_64.2.2.2.2 m16) (q_64.2.2.2.2 m17) (q_64.2.2.2.1 m18) (q_64.2.2.2.1 m19) ∧ pm_ok F 0 R9.2 := by obtain ⟨A7, hT7, hC7⟩ := (hw_66.1.resolve_left (fun y => absurd y.1 (by omega))).2.2; have y6 := rr_done hC7 hT7 (by omega) (by omega); exact ⟨y6.1, y6.2.1.trans (by omega), y6.2.2.1, y6.2.2.2⟩
              clear hw_39 hw_66 x_31
              refine wa_aload_n B dX12_systems_90 rfl 1 rfl ?_
              refine wa_iload_n B dX12_systems_91 rfl 0 rfl ?_
              refine wa_putI B (C := RX12) (T := TX12) (N := 51) iq_X12_systems_X12 ha0 ka0 (by decide) rfl 20 (by decide) (by decide) (by decide +kernel) rfl (by decide) (v := v_70) (ty := .int) tyX12 tyX12_ok nmX12 rfl (by decide +kernel) rfl rfl dX12_systems_92 (fun q_86 eq_86 => ?_)
              have hV_q_86 : sx_V h L q_86 := by rw [eq_86]; exact hV_q_64.pI ka0 (show sx_in v_70 (0) 3 from ⟨by omega, by omega⟩)
              have hF_q_86 : sx_fr h L (fun a => h.1 a = 12 ∨ h.1 a = 113 ∨ h.1 a = 226 ∨ h.1 a = 227 ∨ h.1 a = 128 ∨ h.1 a = 129) q q_86 := hF_q_64.tr (by rw [eq_86]; exact sx_fr.pI (show h.1 a0 = 12 ∨ h.1 a0 = 113 ∨ h.1 a0 = 226 ∨ h.1 a0 = 227 ∨ h.1 a0 = 128 ∨ h.1 a0 = 129 from (Or.inl ka0)))
              have z_87 : q_86.1 a0 20 = v_70 := by rw [eq_86]; exact sg_pI_e
              have hK_q_86 : sx_kf a0 [0, 14, 15, 2, 4, 5, 10, 20, 31, 49, 50, 6, 7, 8, 9, 11, 12, 13] q q_86 := hK_q_64.tr (by rw [eq_86]; exact sx_kf.pI (by decide))
              have mN_q_86 : mv_N a0 q_86 := mv_N.eq ((show q_86.1 a0 8 = q_64.1 a0 8 from by rw [eq_86]; exact sg_pI_k (by decide))) ((show q_86.2.1 a0 11 = q_64.2.1 a0 11 from by rw [eq_86]; rfl)) mN_q_64
              have mF_q_86 : mv_F m18 m19 q_86 := mv_F.eq ((show q_86.2.2.2.1 m18 = q_64.2.2.2.1 m18 from by rw [eq_86]; rfl)) ((show q_86.2.2.2.1 m19 = q_64.2.2.2.1 m19 from by rw [eq_86]; rfl)) mF_q_64
              have mU_q_86 : mv_U m17 q_86 := mv_U.eq ((show q_86.2.2.2.2 m17 = q_64.2.2.2.2 m17 from by rw [eq_86]; rfl)) mU_q_64
              refine wa_iconst B 0 dX12_systems_95 (by decide) ?_
              refine wa_istore_n B [(2, .int 0), (1, .int v_70), (0, .ref a0)] dX12_systems_96 rfl (by decide) rfl ?_
              have z_90 : q_86.1 a0 2 = (q_10.1 a0 2) := ((show q_86.1 a0 2 = q_64.1 a0 2 from by rw [eq_86]; exact sg_pI_k (by decide))).trans ((h3_q_64.1 2 (by decide)).trans ((h3_q_45.1 2 (by decide)).trans (p1_q_13)))
              have z_91 : q_86.1 a0 0 = 0 := ((show q_86.1 a0 0 = q_64.1 a0 0 from by rw [eq_86]; exact sg_pI_k (by decide))).trans ((h3_q_64.1 0 (by decide)).trans ((h3_q_45.1 0 (by decide)).trans (p2_q_13)))
              have z_92 : q_86.1 a0 10 = (q_10.1 a0 10) := ((show q_86.1 a0 10 = q_64.1 a0 10 from by rw [eq_86]; exact sg_pI_k (by decide))).trans ((h3_q_64.1 10 (by decide)).trans (z_57))
              have z_93 : q_86.1 a0 4 = (q_10.1 a0 4) := ((show q_86.1 a0 4 = q_64.1 a0 4 from by rw [eq_86]; exact sg_pI_k (by decide))).trans (z_67)
              have z_94 : q_86.1 a0 5 = (q_10.1 a0 5) := ((show q_86.1 a0 5 = q_64.1 a0 5 from by rw [eq_86]; exact sg_pI_k (by decide))).trans ((h3_q_64.1 5 (by decide)).trans (z_59))
              have z_95 : q_86.1 a0 6 = q_64.1 a0 6 := (show q_86.1 a0 6 = q_64.1 a0 6 from by rw [eq_86]; exact sg_pI_k (by decide))
              have z_96 : q_86.1 a0 8 = q_64.1 a0 8 := (show q_86.1 a0 8 = q_64.1 a0 8 from by rw [eq_86]; exact sg_pI_k (by decide))
              have z_97 : q_86.1 a0 7 = q_64.1 a0 7 := (show q_86.1 a0 7 = q_64.1 a0 7 from by rw [eq_86]; exact sg_pI_k (by decide))
              have z_98 : q_86.1 a0 12 = q_64.1 a0 12 := (show q_86.1 a0 12 = q_64.1 a0 12 from by rw [eq_86]; exact sg_pI_k (by decide))
              have z_99 : q_86.1 a0 13 = q_64.1 a0 13 := (show q_86.1 a0 13 = q_64.1 a0 13 from by rw [eq_86]; exact sg_pI_k (by decide))
              have z_100 : q_86.1 a0 9 = q_64.1 a0 9 := (show q_86.1 a0 9 = q_64.1 a0 9 from by rw [eq_86]; exact sg_pI_k (by decide))
              have z_101 : q_86.1 a0 15 = q_64.1 a0 15 := (show q_86.1 a0 15 = q_64.1 a0 15 from by rw [eq_86]; exact sg_pI_k (by decide))
              have z_102 : q_86.2.2.1 a0 1 = m1 := ((show q_86.2.2.1 a0 1 = q_64.2.2.1 a0 1 from by rw [eq_86]; rfl)).trans ((h2_q_64.R ha0 (fun z9 => absurd z9.2 (by omega)) 1).trans ((h2_q_45.R ha0 (fun z9 => absurd z9.2 (by omega)) 1).trans (p6_q_13)))
              have z_103 : q_86.2.2.1 a0 3 = m3 := ((show q_86.2.2.1 a0 3 = q_64.2.2.1 a0 3 from by rw [eq_86]; rfl)).trans ((h2_q_64.R ha0 (fun z9 => absurd z9.2 (by omega)) 3).trans (z_52))
              have z_104 : q_86.2.2.1 a0 16 = m16 := ((show q_86.2.2.1 a0 16 = q_64.2.2.1 a0 16 from by rw [eq_86]; rfl)).trans ((h2_q_64.R ha0 (fun z9 => absurd z9.2 (by omega)) 16).trans (z_53))
              have z_105 : q_86.2.2.1 a0 17 = m17 := ((show q_86.2.2.1 a0 17 = q_64.2.2.1 a0 17 from by rw [eq_86]; rfl)).trans ((h2_q_64.R ha0 (fun z9 => absurd z9.2 (by omega)) 17).trans (z_54))
              have z_106 : q_86.2.2.1 a0 18 = m18 := ((show q_86.2.2.1 a0 18 = q_64.2.2.1 a0 18 from by rw [eq_86]; rfl)).trans ((h2_q_64.R ha0 (fun z9 => absurd z9.2 (by omega)) 18).trans (z_55))
              have z_107 : q_86.2.2.1 a0 19 = m19 := ((show q_86.2.2.1 a0 19 = q_64.2.2.1 a0 19 from by rw [eq_86]; rfl)).trans ((h2_q_64.R ha0 (fun z9 => absurd z9.2 (by omega)) 19).trans (z_56))
              have z_108 : q_86.2.2.2.1 m1 = (q.2.2.2.1 m1) := ((show q_86.2.2.2.1 m1 = q_64.2.2.2.1 m1 from by rw [eq_86]; rfl)).trans ((h2_q_64.G hm1 (show ¬ (h.1 m1 = 12 ∨ h.1 m1 = 226 ∨ h.1 m1 = 227 ∨ h.1 m1 = 128 ∨ h.1 m1 = 129) from (fun z => z.elim (fun z => absurd (z.symm.trans km1) (by decide)) (fun z => z.elim (fun z => absurd (z.symm.trans km1) (by decide)) (fun z => z.elim (fun z => absurd (z.symm.trans km1) (by decide)) (fun z => z.elim (fun z => absurd (z.symm.trans km1) (by decide)) (fun z => absurd (z.symm.trans km1) (by decide))))))) (by rw [km1]; decide)).trans ((h2_q_45.G hm1 (show ¬ (h.1 m1 = 12) from (fun z => absurd (z.symm.trans km1) (by decide))) (by rw [km1]; decide)).trans (p12_q_13)))
              have z_109 : q_86.2.2.2.1 m3 = (q_10.2.2.2.1 m3) := ((show q_86.2.2.2.1 m3 = q_64.2.2.2.1 m3 from by rw [eq_86]; rfl)).trans ((h2_q_64.G hm3 (show ¬ (h.1 m3 = 12 ∨ h.1 m3 = 226 ∨ h.1 m3 = 227 ∨ h.1 m3 = 128 ∨ h.1 m3 = 129) from (fun z => z.elim (fun z => absurd (z.symm.trans km3) (by decide)) (fun z => z.elim (fun z => absurd (z.symm.trans km3) (by decide)) (fun z => z.elim (fun z => absurd (z.symm.trans km3) (by decide)) (fun z => z.elim (fun z => absurd (z.symm.trans km3) (by decide)) (fun z => absurd (z.symm.trans km3) (by decide))))))) (by rw [km3]; decide)).trans (z_63))
              have z_110 : q_86.2.2.2.1 m18 = q_64.2.2.2.1 m18 := (show q_86.2.2.2.1 m18 = q_64.2.2.2.1 m18 from by rw [eq_86]; rfl)
              have z_111 : q_86.2.2.2.1 m19 = q_64.2.2.2.1 m19 := (show q_86.2.2.2.1 m19 = q_64.2.2.2.1 m19 from by rw [eq_86]; rfl)
              have z_112 : q_86.2.2.2.2 m16 = q_64.2.2.2.2 m16 := (show q_86.2.2.2.2 m16 = q_64.2.2.2.2 m16 from by rw [eq_86]; rfl)
              have z_113 : q_86.2.2.2.2 m17 = q_64.2.2.2.2 m17 := (show q_86.2.2.2.2 m17 = q_64.2.2.2.2 m17 from by rw [eq_86]; rfl)
              have Lp_97_117 : ∀ (n : Nat) (v_88 : Int32) (q_89 : Sg), sx_V h L q_89 → sx_fr h L (fun a => h.1 a = 12 ∨ h.1 a = 113 ∨ h.1 a = 226 ∨ h.1 a = 227 ∨ h.1 a = 128 ∨ h.1 a = 129) q q_89 → sx_kf a0 [0, 14, 15, 2, 4, 5, 10, 20, 31, 49, 50, 6, 7, 8, 9, 11, 12, 13] q q_89 → mv_N a0 q_89 → mv_F m18 m19 q_89 → mv_U m17 q_89 → q_89.1 a0 20 = v_70 → q_89.1 a0 2 = (q_10.1 a0 2) → q_89.1 a0 0 = 0 → q_89.1 a0 10 = (q_10.1 a0 10) → q_89.1 a0 4 = (q_10.1 a0 4) → q_89.1 a0 5 = (q_10.1 a0 5) → q_89.1 a0 6 = (q_64.1 a0 6) → q_89.1 a0 8 = (q_64.1 a0 8) → q_89.1 a0 7 = (q_64.1 a0 7) → q_89.1 a0 12 = (q_64.1 a0 12) → q_89.1 a0 13 = (q_64.1 a0 13) → q_89.1 a0 9 = (q_64.1 a0 9) → q_89.1 a0 15 = (q_64.1 a0 15) → q_89.2.2.1 a0 1 = m1 → q_89.2.2.1 a0 3 = m3 → q_89.2.2.1 a0 16 = m16 → q_89.2.2.1 a0 17 = m17 → q_89.2.2.1 a0 18 = m18 → q_89.2.2.1 a0 19 = m19 → q_89.2.1 a0 11 = (q_86.2.1 a0 11) → 0 ≤ v_88.toInt → cp_I (v_88).toInt.toNat (q_64.2.2.2.2 m17) (q_64.2.2.2.1 m18) (q_64.2.2.2.1 m19) (q_89.2.2.2.2 m17) (q_89.2.2.2.1 m18) (q_89.2.2.2.1 m19) → v_88.toInt ≤ v_70.toInt → (v_70.toInt - v_88.toInt : Int).toNat < n → WA l dC dI h L ({ frames := 5, cells := 0, slots := 0, locals := 110 } : Room) 4 Z q_89 97 [(2, .int v_88), (1, .int v_70), (0, .ref a0)] [] := by
                intro n
                induction n with
                | zero =>
                  intro v_88 q_89 hV_q_89 hF_q_89 hK_q_89 mN_q_89 mF_q_89 mU_q_89 p0_q_89 p1_q_89 p2_q_89 p3_q_89 p4_q_89 p5_q_89 p6_q_89 p7_q_89 p8_q_89 p9_q_89 p10_q_89 p11_q_89 p12_q_89 p13_q_89 p14_q_89 p15_q_89 p16_q_89 p17_q_89 p18_q_89 p19_q_89 x_114 x_115 x_116 hn
                  exact absurd hn (Nat.not_lt_zero _)
                | succ n ih_118 =>
                  intro v_88 q_89 hV_q_89 hF_q_89 hK_q_89 mN_q_89 mF_q_89 mU_q_89 p0_q_89 p1_q_89 p2_q_89 p3_q_89 p4_q_89 p5_q_89 p6_q_89 p7_q_89 p8_q_89 p9_q_89 p10_q_89 p11_q_89 p12_q_89 p13_q_89 p14_q_89 p15_q_89 p16_q_89 p17_q_89 p18_q_89 p19_q_89 x_114 x_115 x_116 hn
                  refine wa_iload_n B dX12_systems_97 rfl 0 rfl ?_
                  refine wa_iload_n B dX12_systems_98 rfl 1 rfl ?_
                  refine wa_icmp_ge B 179 dX12_systems_99 (by decide) (fun (t_119 : v_70.toInt ≤ v_88.toInt) => ?_) (fun (t_119 : ¬ v_70.toInt ≤ v_88.toInt) => ?_)
                  · refine wa_aload_n B dX12_systems_179 rfl 2 rfl ?_
                    refine wa_iconst B 0 dX12_systems_180 (by decide) ?_
                    refine wa_putI B (C := RX12) (T := TX12) (N := 51) iq_X12_systems_X12 ha0 ka0 (by decide) rfl 31 (by decide) (by decide) (by decide +kernel) rfl (by decide) (v := 0) (ty := .int) tyX12 tyX12_ok nmX12 rfl (by decide +kernel) rfl rfl dX12_systems_181 (fun q_120 eq_120 => ?_)
                    have hV_q_120 : sx_V h L q_120 := by rw [eq_120]; exact hV_q_89.pI ka0 (show sx_in 0 (0) 8 from ⟨by decide, by decide⟩)
                    have hF_q_120 : sx_fr h L (fun a => h.1 a = 12 ∨ h.1 a = 113 ∨ h.1 a = 226 ∨ h.1 a = 227 ∨ h.1 a = 128 ∨ h.1 a = 129) q q_120 := hF_q_89.tr (by rw [eq_120]; exact sx_fr.pI (show h.1 a0 = 12 ∨ h.1 a0 = 113 ∨ h.1 a0 = 226 ∨ h.1 a0 = 227 ∨ h.1 a0 = 128 ∨ h.1 a0 = 129 from (Or.inl ka0)))
                    have z_121 : q_120.1 a0 31 = 0 := by rw [eq_120]; exact sg_pI_e
                    have hK_q_120 : sx_kf a0 [0, 14, 15, 2, 4, 5, 10, 20, 31, 49, 50, 6, 7, 8, 9, 11, 12, 13] q q_120 := hK_q_89.tr (by rw [eq_120]; exact sx_kf.pI (by decide))
                    have mN_q_120 : mv_N a0 q_120 := mv_N.eq ((show q_120.1 a0 8 = q_89.1 a0 8 from by rw [eq_120]; exact sg_pI_k (by decide))) ((show q_120.2.1 a0 11 = q_89.2.1 a0 11 from by rw [eq_120]; rfl)) mN_q_89
                    have mF_q_120 : mv_F m18 m19 q_120 := mv_F.eq ((show q_120.2.2.2.1 m18 = q_89.2.2.2.1 m18 from by rw [eq_120]; rfl)) ((show q_120.2.2.2.1 m19 = q_89.2.2.2.1 m19 from by rw [eq_120]; rfl)) mF_q_89
                    have mU_q_120 : mv_U m17 q_120 := mv_U.eq ((show q_120.2.2.2.2 m17 = q_89.2.2.2.2 m17 from by rw [eq_120]; rfl)) mU_q_89
                    refine wa_aload_n B dX12_systems_184 rfl 2 rfl ?_
                    refine wa_callVv B (x := (RX12, TX12, 51)) (As := []) (rest := []) (k_X12_forget l dC dI h L hN q_120 hV_q_120 (a0 := a0) ha0 ka0  ) (cwV 0 B.1.2.2.2.2 gX12_systems_X12_forget rfl rfl rfl (by decide +kernel) ⟨Nat.le_of_ble_eq_true rfl, Nat.le_of_ble_eq_true rfl⟩) ha0 ka0 (by decide) rfl rfl rfl (Nat.le_of_ble_eq_true rfl) dX12_systems_185 (fun q_122 w_123 => ?_)
                    obtain ⟨hV_q_122, h2_q_122, h3_q_122⟩ := w_123
                    have hF_q_122 : sx_fr h L (fun a => h.1 a = 12 ∨ h.1 a = 113 ∨ h.1 a = 226 ∨ h.1 a = 227 ∨ h.1 a = 128 ∨ h.1 a = 129) q q_122 := hF_q_120.tr (h2_q_122.mono (fun a (z : h.1 a = 12) => ((fun z => (Or.inl z)) z)))
                    have hK_q_122 : sx_kf a0 [0, 14, 15, 2, 4, 5, 10, 20, 31, 49, 50, 6, 7, 8, 9, 11, 12, 13] q q_122 := hK_q_120.tr (h3_q_122.mono (by decide))
                    have mN_q_122 : mv_N a0 q_122 := mv_N.eq (h3_q_122.1 8 (by decide)) (h3_q_122.2 11 (by decide)) mN_q_120
                    have mF_q_122 : mv_F m18 m19 q_122 := mv_F.eq (h2_q_122.G hm18 (show ¬ (h.1 m18 = 12) from (fun z => absurd (z.symm.trans km18) (by decide))) (by rw [km18]; decide)) (h2_q_122.G hm19 (show ¬ (h.1 m19 = 12) from (fun z => absurd (z.symm.trans km19) (by decide))) (by rw [km19]; decide)) mF_q_120
                    have mU_q_122 : mv_U m17 q_122 := mv_U.eq (h2_q_122.Lg hm17 (show ¬ (h.1 m17 = 12) from (fun z => absurd (z.symm.trans km17) (by decide))) (by rw [km17]; decide)) mU_q_120
                    refine wa_iload_n B dX12_systems_188 rfl 1 rfl ?_
                    have z_124 : q_122.1 a0 2 = (q_10.1 a0 2) := (h3_q_122.1 2 (by decide)).trans (((show q_120.1 a0 2 = q_89.1 a0 2 from by rw [eq_120]; exact sg_pI_k (by decide))).trans (p1_q_89))
                    have y_125 : (q_122.1 a0 2).toInt = (q_10.1 a0 2).toInt := by rw [z_124]
                    have z_126 : q_122.1 a0 20 = v_70 := (h3_q_122.1 20 (by decide)).trans (((show q_120.1 a0 20 = q_89.1 a0 20 from by rw [eq_120]; exact sg_pI_k (by decide))).trans (p0_q_89))
                    have y_127 : (q_122.1 a0 20).toInt = v_70.toInt := by rw [z_126]
                    have z_128 : q_122.1 a0 15 = (q_64.1 a0 15) := (h3_q_122.1 15 (by decide)).trans (((show q_120.1 a0 15 = q_89.1 a0 15 from by rw [eq_120]; exact sg_pI_k (by decide))).trans (p12_q_89))
                    have y_129 : (q_122.1 a0 15).toInt = (q_64.1 a0 15).toInt := by rw [z_128]
                    have y_130 : (q_122.1 a0 2).toInt = (q_10.1 a0 2).toInt := by rw [z_124]
                    have y_131 : (q_122.1 a0 20).toInt = v_70.toInt := by rw [z_126]
                    have z_132 : q_122.1 a0 7 = (q_64.1 a0 7) := (h3_q_122.1 7 (by decide)).trans (((show q_120.1 a0 7 = q_89.1 a0 7 from by rw [eq_120]; exact sg_pI_k (by decide))).trans (p8_q_89))
                    have y_133 : (q_122.1 a0 7).toInt = (q_64.1 a0 7).toInt := by rw [z_132]
                    have z_134 : q_122.2.2.2.2 m16 = q_89.2.2.2.2 m16 := (h2_q_122.Lg hm16 (show ¬ (h.1 m16 = 12) from (fun z => absurd (z.symm.trans km16) (by decide))) (by rw [km16]; decide)).trans ((show q_120.2.2.2.2 m16 = q_89.2.2.2.2 m16 from by rw [eq_120]; rfl))
                    have z_135 : q_122.2.2.2.2 m17 = q_89.2.2.2.2 m17 := (h2_q_122.Lg hm17 (show ¬ (h.1 m17 = 12) from (fun z => absurd (z.symm.trans km17) (by decide))) (by rw [km17]; decide)).trans ((show q_120.2.2.2.2 m17 = q_89.2.2.2.2 m17 from by rw [eq_120]; rfl))
                    have z_136 : q_122.2.2.2.1 m18 = q_89.2.2.2.1 m18 := (h2_q_122.G hm18 (show ¬ (h.1 m18 = 12) from (fun z => absurd (z.symm.trans km18) (by decide))) (by rw [km18]; decide)).trans ((show q_120.2.2.2.1 m18 = q_89.2.2.2.1 m18 from by rw [eq_120]; rfl))
                    have z_137 : q_122.2.2.2.1 m19 = q_89.2.2.2.1 m19 := (h2_q_122.G hm19 (show ¬ (h.1 m19 = 12) from (fun z => absurd (z.symm.trans km19) (by decide))) (by rw [km19]; decide)).trans ((show q_120.2.2.2.1 m19 = q_89.2.2.2.1 m19 from by rw [eq_120]; rfl))
                    exact hret _ _ _ _ dX12_systems_189 ⟨hV_q_122, hF_q_122, hK_q_122, mN_q_122, mF_q_122, mU_q_122, ⟨by omega, Or.inr ⟨hD.1, by rw [hD.2.1]; omega, by rw [hD.2.1]; omega, by rw [z_135, z_136, z_137]; exact cp_e (by rw [show (v_88 : Int32).toInt.toNat = (v_70 : Int32).toInt.toNat by omega] at x_115; exact x_115) hD.2.2.1 hD.2.1 hD.2.2.2, hD.2.2.2⟩⟩⟩
                  · refine wa_aload_n B dX12_systems_102 rfl 2 rfl ?_
                    refine wa_getR B (C := RX12) (T := TX12) (N := 51) iq_X12_systems_X12 ha0 ka0 (by decide) rfl 18 (by decide) (by decide) (by decide +kernel) rfl (fun _ _ _ => rfl) (v := m18) p17_q_89 dX12_systems_103 ?_
                    refine wa_iload_n B dX12_systems_106 rfl 0 rfl ?_
                    refine wa_aload_n B dX12_systems_107 rfl 2 rfl ?_
                    refine wa_getR B (C := RX12) (T := TX12) (N := 51) iq_X12_systems_X12 ha0 ka0 (by decide) rfl 18 (by decide) (by decide) (by decide +kernel) rfl (fun _ _ _ => rfl) (v := m18) p17_q_89 dX12_systems_108 ?_
                    refine wa_iconst B 3 dX12_systems_111 (by decide) ?_
                    refine wa_iload_n B dX12_systems_112 rfl 0 rfl ?_
                    refine wa_iadd B dX12_systems_113 (fun v_138 ev_138 => ?_)
                    subst ev_138
                    have t_139 : (3 + v_88).toInt = 3 + v_88.toInt := by have b1 := zx_bd v_88; exact zx_add (show (-2147483648 : Int) ≤ 3 + v_88.toInt by omega) (show 3 + v_88.toInt < (2147483648 : Int) by omega)
                    refine wa_iaload B hm18 km18 (by decide) (by decide) (show 0 ≤ (3 + v_88).toInt by omega) (show (3 + v_88).toInt < (h.2.1 m18 : Int) by omega) (v := (q_89.2.2.2.1 m18 ((3 + v_88) : Int32).toNatClampNeg)) rfl dX12_systems_114 ?_
                    have g_140 : (0 : Int) ≤ ((q_89.2.2.2.1 m18 ((3 + v_88) : Int32).toNatClampNeg)).toInt ∧ ((q_89.2.2.2.1 m18 ((3 + v_88) : Int32).toNatClampNeg)).toInt ≤ 5 := hV_q_89.cnt hm18 km18 _
                    refine wa_iastore B hm18 km18 (by decide) (by decide) (show 0 ≤ v_88.toInt by omega) (show v_88.toInt < (h.2.1 m18 : Int) by omega) dX12_systems_115 (fun q_141 eq_141 => ?_)
                    have hV_q_141 : sx_V h L q_141 := by rw [eq_141]; exact hV_q_89.up1 hm18 km18 (show sx_in ((q_89.2.2.2.1 m18 ((3 + v_88) : Int32).toNatClampNeg)) (0) 5 from ⟨by omega, by omega⟩)
                    have hF_q_141 : sx_fr h L (fun a => h.1 a = 12 ∨ h.1 a = 113 ∨ h.1 a = 226 ∨ h.1 a = 227 ∨ h.1 a = 128 ∨ h.1 a = 129) q q_141 := hF_q_89.tr (by rw [eq_141]; exact sx_fr.pG (show h.1 m18 = 100 ∨ (h.1 m18 = 12 ∨ h.1 m18 = 113 ∨ h.1 m18 = 226 ∨ h.1 m18 = 227 ∨ h.1 m18 = 128 ∨ h.1 m18 = 129) from Or.inr (Or.inr (Or.inr (Or.inr (Or.inr (Or.inl km18)))))))
                    have z_142 : q_141.2.2.2.1 m18 = (upd (q_89.2.2.2.1 m18) (v_88 : Int32).toNatClampNeg ((q_89.2.2.2.1 m18 ((3 + v_88) : Int32).toNatClampNeg))) := by rw [eq_141, sg_pG_e]
                    have z_143 : q_141.2.2.2.1 m18 (v_88 : Int32).toNatClampNeg = (q_89.2.2.2.1 m18 ((3 + v_88) : Int32).toNatClampNeg) := by rw [eq_141, sg_pG_e]; exact if_pos rfl
                    have hK_q_141 : sx_kf a0 [0, 14, 15, 2, 4, 5, 10, 20, 31, 49, 50, 6, 7, 8, 9, 11, 12, 13] q q_141 := hK_q_89.tr (sx_kf.eq (by rw [eq_141]; rfl) (by rw [eq_141]; rfl))
                    have mN_q_141 : mv_N a0 q_141 := mv_N.eq ((show q_141.1 a0 8 = q_89.1 a0 8 from by rw [eq_141]; rfl)) ((show q_141.2.1 a0 11 = q_89.2.1 a0 11 from by rw [eq_141]; rfl)) mN_q_89
                    have mU_q_141 : mv_U m17 q_141 := mv_U.eq ((show q_141.2.2.2.2 m17 = q_89.2.2.2.2 m17 from by rw [eq_141]; rfl)) mU_q_89
                    refine wa_iconst B 0 dX12_systems_116 (by decide) ?_
                    refine wa_istore_n B [(3, .int 0), (2, .int v_88), (1, .int v_70), (0, .ref a0)] dX12_systems_117 rfl (by decide) rfl ?_
                    have z_144 : q_141.2.2.2.1 m19 = q_89.2.2.2.1 m19 := (show q_141.2.2.2.1 m19 = q_89.2.2.2.1 m19 from by rw [eq_141]; exact sg_pG_a (sx_ka h km19 km18 (by decide)))
                    have z_147 : q_141.1 a0 20 = v_70 := ((show q_141.1 a0 20 = q_89.1 a0 20 from by rw [eq_141]; rfl)).trans (p0_q_89)
                    have z_148 : q_141.1 a0 2 = (q_10.1 a0 2) := ((show q_141.1 a0 2 = q_89.1 a0 2 from by rw [eq_141]; rfl)).trans (p1_q_89)
                    have z_149 : q_141.1 a0 0 = 0 := ((show q_141.1 a0 0 = q_89.1 a0 0 from by rw [eq_141]; rfl)).trans (p2_q_89)
                    have z_150 : q_141.1 a0 10 = (q_10.1 a0 10) := ((show q_141.1 a0 10 = q_89.1 a0 10 from by rw [eq_141]; rfl)).trans (p3_q_89)
                    have z_151 : q_141.1 a0 4 = (q_10.1 a0 4) := ((show q_141.1 a0 4 = q_89.1 a0 4 from by rw [eq_141]; rfl)).trans (p4_q_89)
                    have z_152 : q_141.1 a0 5 = (q_10.1 a0 5) := ((show q_141.1 a0 5 = q_89.1 a0 5 from by rw [eq_141]; rfl)).trans (p5_q_89)
                    have z_153 : q_141.1 a0 6 = (q_64.1 a0 6) := ((show q_141.1 a0 6 = q_89.1 a0 6 from by rw [eq_141]; rfl)).trans (p6_q_89)
                    have z_154 : q_141.1 a0 8 = (q_64.1 a0 8) := ((show q_141.1 a0 8 = q_89.1 a0 8 from by rw [eq_141]; rfl)).trans (p7_q_89)
                    have z_155 : q_141.1 a0 7 = (q_64.1 a0 7) := ((show q_141.1 a0 7 = q_89.1 a0 7 from by rw [eq_141]; rfl)).trans (p8_q_89)
                    have z_156 : q_141.1 a0 12 = (q_64.1 a0 12) := ((show q_141.1 a0 12 = q_89.1 a0 12 from by rw [eq_141]; rfl)).trans (p9_q_89)
                    have z_157 : q_141.1 a0 13 = (q_64.1 a0 13) := ((show q_141.1 a0 13 = q_89.1 a0 13 from by rw [eq_141]; rfl)).trans (p10_q_89)
                    have z_158 : q_141.1 a0 9 = (q_64.1 a0 9) := ((show q_141.1 a0 9 = q_89.1 a0 9 from by rw [eq_141]; rfl)).trans (p11_q_89)
                    have z_159 : q_141.1 a0 15 = (q_64.1 a0 15) := ((show q_141.1 a0 15 = q_89.1 a0 15 from by rw [eq_141]; rfl)).trans (p12_q_89)
                    have z_160 : q_141.2.2.1 a0 1 = m1 := ((show q_141.2.2.1 a0 1 = q_89.2.2.1 a0 1 from by rw [eq_141]; rfl)).trans (p13_q_89)
                    have z_161 : q_141.2.2.1 a0 3 = m3 := ((show q_141.2.2.1 a0 3 = q_89.2.2.1 a0 3 from by rw [eq_141]; rfl)).trans (p14_q_89)
                    have z_162 : q_141.2.2.1 a0 16 = m16 := ((show q_141.2.2.1 a0 16 = q_89.2.2.1 a0 16 from by rw [eq_141]; rfl)).trans (p15_q_89)
                    have z_163 : q_141.2.2.1 a0 17 = m17 := ((show q_141.2.2.1 a0 17 = q_89.2.2.1 a0 17 from by rw [eq_141]; rfl)).trans (p16_q_89)
                    have z_164 : q_141.2.2.1 a0 18 = m18 := ((show q_141.2.2.1 a0 18 = q_89.2.2.1 a0 18 from by rw [eq_141]; rfl)).trans (p17_q_89)
                    have z_165 : q_141.2.2.1 a0 19 = m19 := ((show q_141.2.2.1 a0 19 = q_89.2.2.1 a0 19 from by rw [eq_141]; rfl)).trans (p18_q_89)
                    have z_166 : q_141.2.1 a0 11 = (q_86.2.1 a0 11) := ((show q_141.2.1 a0 11 = q_89.2.1 a0 11 from by rw [eq_141]; rfl)).trans (p19_q_89)
                    have z_167 : q_141.2.2.2.2 m16 = q_89.2.2.2.2 m16 := (show q_141.2.2.2.2 m16 = q_89.2.2.2.2 m16 from by rw [eq_141]; rfl)
                    have z_168 : q_141.2.2.2.2 m17 = q_89.2.2.2.2 m17 := (show q_141.2.2.2.2 m17 = q_89.2.2.2.2 m17 from by rw [eq_141]; rfl)
                    have Lp_118_173 : ∀ (n : Nat) (v_145 : Int32) (q_146 : Sg), sx_V h L q_146 → sx_fr h L (fun a => h.1 a = 12 ∨ h.1 a = 113 ∨ h.1 a = 226 ∨ h.1 a = 227 ∨ h.1 a = 128 ∨ h.1 a = 129) q q_146 → sx_kf a0 [0, 14, 15, 2, 4, 5, 10, 20, 31, 49, 50, 6, 7, 8, 9, 11, 12, 13] q q_146 → mv_N a0 q_146 → mv_U m17 q_146 → q_146.1 a0 20 = v_70 → q_146.1 a0 2 = (q_10.1 a0 2) → q_146.1 a0 0 = 0 → q_146.1 a0 10 = (q_10.1 a0 10) → q_146.1 a0 4 = (q_10.1 a0 4) → q_146.1 a0 5 = (q_10.1 a0 5) → q_146.1 a0 6 = (q_64.1 a0 6) → q_146.1 a0 8 = (q_64.1 a0 8) → q_146.1 a0 7 = (q_64.1 a0 7) → q_146.1 a0 12 = (q_64.1 a0 12) → q_146.1 a0 13 = (q_64.1 a0 13) → q_146.1 a0 9 = (q_64.1 a0 9) → q_146.1 a0 15 = (q_64.1 a0 15) → q_146.2.2.1 a0 1 = m1 → q_146.2.2.1 a0 3 = m3 → q_146.2.2.1 a0 16 = m16 → q_146.2.2.1 a0 17 = m17 → q_146.2.2.1 a0 18 = m18 → q_146.2.2.1 a0 19 = m19 → q_146.2.1 a0 11 = (q_86.2.1 a0 11) → q_146.2.2.2.1 m18 = (upd (q_89.2.2.2.1 m18) (v_88 : Int32).toNatClampNeg ((q_89.2.2.2.1 m18 ((3 + v_88) : Int32).toNatClampNeg))) → 0 ≤ v_145.toInt → cp_J (v_88).toInt.toNat (v_145).toInt.toNat (q_64.2.2.2.2 m17) (q_64.2.2.2.1 m18) (q_64.2.2.2.1 m19) (q_146.2.2.2.2 m17) (q_146.2.2.2.1 m18) (q_146.2.2.2.1 m19) → mv_p (q_146.2.2.2.1 m18) (q_146.2.2.2.1 m19) (v_88).toNatClampNeg (v_145).toNatClampNeg → (q_146.2.2.2.1 m18 (v_88).toNatClampNeg) = (q_146.2.2.2.1 m18 (3 + v_88).toNatClampNeg) → (5 - v_145.toInt : Int).toNat < n → WA l dC dI h L ({ frames := 5, cells := 0, slots := 0, locals := 110 } : Room) 4 Z q_146 118 [(3, .int v_145), (2, .int v_88), (1, .int v_70), (0, .ref a0)] [] := by
                      intro n
                      induction n with
                      | zero =>
                        intro v_145 q_146 hV_q_146 hF_q_146 hK_q_146 mN_q_146 mU_q_146 p0_q_146 p1_q_146 p2_q_146 p3_q_146 p4_q_146 p5_q_146 p6_q_146 p7_q_146 p8_q_146 p9_q_146 p10_q_146 p11_q_146 p12_q_146 p13_q_146 p14_q_146 p15_q_146 p16_q_146 p17_q_146 p18_q_146 p19_q_146 p20_q_146 x_169 x_170 x_171 x_172 hn
                        exact absurd hn (Nat.not_lt_zero _)
                      | succ n ih_174 =>
                        intro v_145 q_146 hV_q_146 hF_q_146 hK_q_146 mN_q_146 mU_q_146 p0_q_146 p1_q_146 p2_q_146 p3_q_146 p4_q_146 p5_q_146 p6_q_146 p7_q_146 p8_q_146 p9_q_146 p10_q_146 p11_q_146 p12_q_146 p13_q_146 p14_q_146 p15_q_146 p16_q_146 p17_q_146 p18_q_146 p19_q_146 p20_q_146 x_169 x_170 x_171 x_172 hn
                        refine wa_iload_n B dX12_systems_118 rfl 0 rfl ?_
                        refine wa_iconst B 5 dX12_systems_119 (by decide) ?_
                        refine wa_icmp_ge B 173 dX12_systems_120 (by decide) (fun (t_175 : 5 ≤ v_145.toInt) => ?_) (fun (t_175 : ¬ 5 ≤ v_145.toInt) => ?_)
                        · have mF_176 : mv_F m18 m19 q_146 := (mv_p.f x_171 (by rw [zx_nc]; omega) (fun j => (hV_q_146.cnt hm18 km18 j : sx_in _ 0 5).2)).F rfl rfl
                          obtain ⟨v_177, ev_177⟩ : ∃ z : Int32, z = v_88 + 1 := ⟨_, rfl⟩
                          refine wa_iinc B [(2, .int v_177), (3, .int v_145), (1, .int v_70), (0, .ref a0)] v_177 dX12_systems_173 1 rfl (by rw [ev_177]; rfl) (by decide) rfl ?_
                          refine wa_goto B 97 dX12_systems_176 (by decide) ?_
                          have tv_177 : v_177.toInt = v_88.toInt + 1 := by have b0 := zx_bd v_88; rw [ev_177]; exact zx_add (show (-2147483648 : Int) ≤ v_88.toInt + 1 by omega) (show v_88.toInt + 1 < (2147483648 : Int) by omega)
                          refine WA.sub [0, 2, 3] rfl ?_
                          exact ih_118 v_177 q_146 hV_q_146 hF_q_146 hK_q_146 mN_q_146 mF_176 mU_q_146 p0_q_146 p1_q_146 p2_q_146 p3_q_146 p4_q_146 p5_q_146 p6_q_146 p7_q_146 p8_q_146 p9_q_146 p10_q_146 p11_q_146 p12_q_146 p13_q_146 p14_q_146 p15_q_146 p16_q_146 p17_q_146 p18_q_146 p19_q_146 (show 0 ≤ v_177.toInt from by first | assumption | omega | decide) (show cp_I (v_177).toInt.toNat (q_64.2.2.2.2 m17) (q_64.2.2.2.1 m18) (q_64.2.2.2.1 m19) (q_146.2.2.2.2 m17) (q_146.2.2.2.1 m18) (q_146.2.2.2.1 m19) from by rw [show (v_177 : Int32).toInt.toNat = (v_88 : Int32).toInt.toNat + 1 by omega]; exact cp_c x_170 (by omega)) (show v_177.toInt ≤ v_70.toInt from by first | assumption | omega | decide) (show (v_70.toInt - v_177.toInt : Int).toNat < _ from by omega)
                        · refine wa_aload_n B dX12_systems_123 rfl 3 rfl ?_
                          refine wa_getR B (C := RX12) (T := TX12) (N := 51) iq_X12_systems_X12 ha0 ka0 (by decide) rfl 17 (by decide) (by decide) (by decide +kernel) rfl (fun _ _ _ => rfl) (v := m17) p16_q_146 dX12_systems_124 ?_
                          refine wa_iconst B 5 dX12_systems_127 (by decide) ?_
                          refine wa_iload_n B dX12_systems_128 rfl 1 rfl ?_
                          refine wa_imul B dX12_systems_129 (fun v_178 ev_178 => ?_)
                          refine wa_iload_n B dX12_systems_130 rfl 0 rfl ?_
                          refine wa_iadd B dX12_systems_131 (fun v_179 ev_179 => ?_)
                          refine wa_aload_n B dX12_systems_132 rfl 3 rfl ?_
                          refine wa_getR B (C := RX12) (T := TX12) (N := 51) iq_X12_systems_X12 ha0 ka0 (by decide) rfl 17 (by decide) (by decide) (by decide +kernel) rfl (fun _ _ _ => rfl) (v := m17) p16_q_146 dX12_systems_133 ?_
                          refine wa_iconst B 5 dX12_systems_136 (by decide) ?_
                          refine wa_iconst B 3 dX12_systems_137 (by decide) ?_
                          refine wa_iload_n B dX12_systems_138 rfl 1 rfl ?_
                          refine wa_iadd B dX12_systems_139 (fun v_180 ev_180 => ?_)
                          refine wa_imul B dX12_systems_140 (fun v_181 ev_181 => ?_)
                          refine wa_iload_n B dX12_systems_141 rfl 0 rfl ?_
                          refine wa_iadd B dX12_systems_142 (fun v_182 ev_182 => ?_)
                          have tv_180 : v_180.toInt = 3 + v_88.toInt := by have b1 := zx_bd v_88; rw [ev_180]; exact zx_add (show (-2147483648 : Int) ≤ 3 + v_88.toInt by omega) (show 3 + v_88.toInt < (2147483648 : Int) by omega)
                          have tv_181 : v_181.toInt = 5 * v_180.toInt := by have b1 := zx_bd v_180; rw [ev_181]; exact zx_mul (show (-2147483648 : Int) ≤ 5 * v_180.toInt by omega) (show 5 * v_180.toInt < (2147483648 : Int) by omega)
                          have tv_182 : v_182.toInt = v_181.toInt + v_145.toInt := by have b0 := zx_bd v_181; have b1 := zx_bd v_145; rw [ev_182]; exact zx_add (show (-2147483648 : Int) ≤ v_181.toInt + v_145.toInt by omega) (show v_181.toInt + v_145.toInt < (2147483648 : Int) by omega)
                          refine wa_laload B hm17 km17 (by decide) (by decide) (show 0 ≤ v_182.toInt by omega) (show v_182.toInt < (h.2.1 m17 : Int) by omega) (v := (q_146.2.2.2.2 m17 (v_182 : Int32).toNatClampNeg)) rfl dX12_systems_143 ?_
                          have tv_178 : v_178.toInt = 5 * v_88.toInt := by have b1 := zx_bd v_88; rw [ev_178]; exact zx_mul (show (-2147483648 : Int) ≤ 5 * v_88.toInt by omega) (show 5 * v_88.toInt < (2147483648 : Int) by omega)
                          have tv_179 : v_179.toInt = v_178.toInt + v_145.toInt := by have b0 := zx_bd v_178; have b1 := zx_bd v_145; rw [ev_179]; exact zx_add (show (-2147483648 : Int) ≤ v_178.toInt + v_145.toInt by omega) (show v_178.toInt + v_145.toInt < (2147483648 : Int) by omega)
                          refine wa_lastore B hm17 km17 (by decide) (by decide) (show 0 ≤ v_179.toInt by omega) (show v_179.toInt < (h.2.1 m17 : Int) by omega) dX12_systems_144 (fun q_183 eq_183 => ?_)
                          have hV_q_183 : sx_V h L q_183 := by rw [eq_183]; exact hV_q_146.pL
                          have hF_q_183 : sx_fr h L (fun a => h.1 a = 12 ∨ h.1 a = 113 ∨ h.1 a = 226 ∨ h.1 a = 227 ∨ h.1 a = 128 ∨ h.1 a = 129) q q_183 := hF_q_146.tr (by rw [eq_183]; exact sx_fr.pL (show h.1 m17 = 200 ∨ (h.1 m17 = 12 ∨ h.1 m17 = 113 ∨ h.1 m17 = 226 ∨ h.1 m17 = 227 ∨ h.1 m17 = 128 ∨ h.1 m17 = 129) from Or.inr (Or.inr (Or.inr (Or.inr (Or.inl km17))))))
                          have z_184 : q_183.2.2.2.2 m17 = (vp_updL (q_146.2.2.2.2 m17) (v_179 : Int32).toNatClampNeg ((q_146.2.2.2.2 m17 (v_182 : Int32).toNatClampNeg))) := by rw [eq_183, sg_pL_e]
                          have z_185 : q_183.2.2.2.2 m17 (v_179 : Int32).toNatClampNeg = (q_146.2.2.2.2 m17 (v_182 : Int32).toNatClampNeg) := by rw [eq_183, sg_pL_e]; exact if_pos rfl
                          have hK_q_183 : sx_kf a0 [0, 14, 15, 2, 4, 5, 10, 20, 31, 49, 50, 6, 7, 8, 9, 11, 12, 13] q q_183 := hK_q_146.tr (sx_kf.eq (by rw [eq_183]; rfl) (by rw [eq_183]; rfl))
                          have mN_q_183 : mv_N a0 q_183 := mv_N.eq ((show q_183.1 a0 8 = q_146.1 a0 8 from by rw [eq_183]; rfl)) ((show q_183.2.1 a0 11 = q_146.2.1 a0 11 from by rw [eq_183]; rfl)) mN_q_146
                          have mU_q_183 : mv_U m17 q_183 := mv_U.up (show q_183.2.2.2.2 m17 = _ from by rw [eq_183]; exact sg_pL_e) (mU_q_146) (by exact mU_q_146 _)
                          refine wa_aload_n B dX12_systems_145 rfl 3 rfl ?_
                          have z_186 : q_183.2.2.1 a0 19 = m19 := ((show q_183.2.2.1 a0 19 = q_146.2.2.1 a0 19 from by rw [eq_183]; rfl)).trans (p18_q_146)
                          refine wa_getR B (C := RX12) (T := TX12) (N := 51) iq_X12_systems_X12 ha0 ka0 (by decide) rfl 19 (by decide) (by decide) (by decide +kernel) rfl (fun _ _ _ => rfl) (v := m19) z_186 dX12_systems_146 ?_
                          refine wa_iconst B 5 dX12_systems_149 (by decide) ?_
                          refine wa_iload_n B dX12_systems_150 rfl 1 rfl ?_
                          refine wa_imul B dX12_systems_151 (fun v_187 ev_187 => ?_)
                          refine wa_iload_n B dX12_systems_152 rfl 0 rfl ?_
                          refine wa_iadd B dX12_systems_153 (fun v_188 ev_188 => ?_)
                          refine wa_aload_n B dX12_systems_154 rfl 3 rfl ?_
                          refine wa_getR B (C := RX12) (T := TX12) (N := 51) iq_X12_systems_X12 ha0 ka0 (by decide) rfl 19 (by decide) (by decide) (by decide +kernel) rfl (fun _ _ _ => rfl) (v := m19) z_186 dX12_systems_155 ?_
                          refine wa_iconst B 5 dX12_systems_158 (by decide) ?_
                          refine wa_iconst B 3 dX12_systems_159 (by decide) ?_
                          refine wa_iload_n B dX12_systems_160 rfl 1 rfl ?_
                          refine wa_iadd B dX12_systems_161 (fun v_189 ev_189 => ?_)
                          refine wa_imul B dX12_systems_162 (fun v_190 ev_190 => ?_)
                          refine wa_iload_n B dX12_systems_163 rfl 0 rfl ?_
                          refine wa_iadd B dX12_systems_164 (fun v_191 ev_191 => ?_)
                          have tv_189 : v_189.toInt = 3 + v_88.toInt := by have b1 := zx_bd v_88; rw [ev_189]; exact zx_add (show (-2147483648 : Int) ≤ 3 + v_88.toInt by omega) (show 3 + v_88.toInt < (2147483648 : Int) by omega)
                          have tv_190 : v_190.toInt = 5 * v_189.toInt := by have b1 := zx_bd v_189; rw [ev_190]; exact zx_mul (show (-2147483648 : Int) ≤ 5 * v_189.toInt by omega) (show 5 * v_189.toInt < (2147483648 : Int) by omega)
                          have tv_191 : v_191.toInt = v_190.toInt + v_145.toInt := by have b0 := zx_bd v_190; have b1 := zx_bd v_145; rw [ev_191]; exact zx_add (show (-2147483648 : Int) ≤ v_190.toInt + v_145.toInt by omega) (show v_190.toInt + v_145.toInt < (2147483648 : Int) by omega)
                          have z_192 : q_183.2.2.2.1 m19 = q_146.2.2.2.1 m19 := (show q_183.2.2.2.1 m19 = q_146.2.2.2.1 m19 from by rw [eq_183]; rfl)
                          have z_193 : q_183.2.2.2.1 m19 (v_191 : Int32).toNatClampNeg = (q_146.2.2.2.1 m19 (v_191 : Int32).toNatClampNeg) := congrFun z_192 _
                          refine wa_iaload B hm19 km19 (by decide) (by decide) (show 0 ≤ v_191.toInt by omega) (show v_191.toInt < (h.2.1 m19 : Int) by omega) (v := (q_146.2.2.2.1 m19 (v_191 : Int32).toNatClampNeg)) z_193 dX12_systems_165 ?_
                          have tv_187 : v_187.toInt = 5 * v_88.toInt := by have b1 := zx_bd v_88; rw [ev_187]; exact zx_mul (show (-2147483648 : Int) ≤ 5 * v_88.toInt by omega) (show 5 * v_88.toInt < (2147483648 : Int) by omega)
                          have tv_188 : v_188.toInt = v_187.toInt + v_145.toInt := by have b0 := zx_bd v_187; have b1 := zx_bd v_145; rw [ev_188]; exact zx_add (show (-2147483648 : Int) ≤ v_187.toInt + v_145.toInt by omega) (show v_187.toInt + v_145.toInt < (2147483648 : Int) by omega)
                          refine wa_iastore B hm19 km19 (by decide) (by decide) (show 0 ≤ v_188.toInt by omega) (show v_188.toInt < (h.2.1 m19 : Int) by omega) dX12_systems_166 (fun q_194 eq_194 => ?_)
                          have hV_q_194 : sx_V h L q_194 := by rw [eq_194]; exact hV_q_183.up1 hm19 km19 trivial
                          have hF_q_194 : sx_fr h L (fun a => h.1 a = 12 ∨ h.1 a = 113 ∨ h.1 a = 226 ∨ h.1 a = 227 ∨ h.1 a = 128 ∨ h.1 a = 129) q q_194 := hF_q_183.tr (by rw [eq_194]; exact sx_fr.pG (show h.1 m19 = 100 ∨ (h.1 m19 = 12 ∨ h.1 m19 = 113 ∨ h.1 m19 = 226 ∨ h.1 m19 = 227 ∨ h.1 m19 = 128 ∨ h.1 m19 = 129) from Or.inr (Or.inr (Or.inr (Or.inr (Or.inr (Or.inr km19)))))))
                          have z_195 : q_194.2.2.2.1 m19 = (upd (q_146.2.2.2.1 m19) (v_188 : Int32).toNatClampNeg ((q_146.2.2.2.1 m19 (v_191 : Int32).toNatClampNeg))) := by rw [eq_194, sg_pG_e, z_192]
                          have z_196 : q_194.2.2.2.1 m19 (v_188 : Int32).toNatClampNeg = (q_146.2.2.2.1 m19 (v_191 : Int32).toNatClampNeg) := by rw [eq_194, sg_pG_e]; exact if_pos rfl
                          have hK_q_194 : sx_kf a0 [0, 14, 15, 2, 4, 5, 10, 20, 31, 49, 50, 6, 7, 8, 9, 11, 12, 13] q q_194 := hK_q_183.tr (sx_kf.eq (by rw [eq_194]; rfl) (by rw [eq_194]; rfl))
                          have mN_q_194 : mv_N a0 q_194 := mv_N.eq ((show q_194.1 a0 8 = q_183.1 a0 8 from by rw [eq_194]; rfl)) ((show q_194.2.1 a0 11 = q_183.2.1 a0 11 from by rw [eq_194]; rfl)) mN_q_183
                          have mU_q_194 : mv_U m17 q_194 := mv_U.eq ((show q_194.2.2.2.2 m17 = q_183.2.2.2.2 m17 from by rw [eq_194]; rfl)) mU_q_183
                          obtain ⟨v_197, ev_197⟩ : ∃ z : Int32, z = v_145 + 1 := ⟨_, rfl⟩
                          refine wa_iinc B [(3, .int v_197), (2, .int v_88), (1, .int v_70), (0, .ref a0)] v_197 dX12_systems_167 0 rfl (by rw [ev_197]; rfl) (by decide) rfl ?_
                          refine wa_goto B 118 dX12_systems_170 (by decide) ?_
                          have tv_197 : v_197.toInt = v_145.toInt + 1 := by have b0 := zx_bd v_145; rw [ev_197]; exact zx_add (show (-2147483648 : Int) ≤ v_145.toInt + 1 by omega) (show v_145.toInt + 1 < (2147483648 : Int) by omega)
                          have z_198 : q_194.1 a0 20 = v_70 := ((show q_194.1 a0 20 = q_183.1 a0 20 from by rw [eq_194]; rfl)).trans (((show q_183.1 a0 20 = q_146.1 a0 20 from by rw [eq_183]; rfl)).trans (p0_q_146))
                          have z_199 : q_194.1 a0 2 = (q_10.1 a0 2) := ((show q_194.1 a0 2 = q_183.1 a0 2 from by rw [eq_194]; rfl)).trans (((show q_183.1 a0 2 = q_146.1 a0 2 from by rw [eq_183]; rfl)).trans (p1_q_146))
                          have z_200 : q_194.1 a0 0 = 0 := ((show q_194.1 a0 0 = q_183.1 a0 0 from by rw [eq_194]; rfl)).trans (((show q_183.1 a0 0 = q_146.1 a0 0 from by rw [eq_183]; rfl)).trans (p2_q_146))
                          have z_201 : q_194.1 a0 10 = (q_10.1 a0 10) := ((show q_194.1 a0 10 = q_183.1 a0 10 from by rw [eq_194]; rfl)).trans (((show q_183.1 a0 10 = q_146.1 a0 10 from by rw [eq_183]; rfl)).trans (p3_q_146))
                          have z_202 : q_194.1 a0 4 = (q_10.1 a0 4) := ((show q_194.1 a0 4 = q_183.1 a0 4 from by rw [eq_194]; rfl)).trans (((show q_183.1 a0 4 = q_146.1 a0 4 from by rw [eq_183]; rfl)).trans (p4_q_146))
                          have z_203 : q_194.1 a0 5 = (q_10.1 a0 5) := ((show q_194.1 a0 5 = q_183.1 a0 5 from by rw [eq_194]; rfl)).trans (((show q_183.1 a0 5 = q_146.1 a0 5 from by rw [eq_183]; rfl)).trans (p5_q_146))
                          have z_204 : q_194.1 a0 6 = (q_64.1 a0 6) := ((show q_194.1 a0 6 = q_183.1 a0 6 from by rw [eq_194]; rfl)).trans (((show q_183.1 a0 6 = q_146.1 a0 6 from by rw [eq_183]; rfl)).trans (p6_q_146))
                          have z_205 : q_194.1 a0 8 = (q_64.1 a0 8) := ((show q_194.1 a0 8 = q_183.1 a0 8 from by rw [eq_194]; rfl)).trans (((show q_183.1 a0 8 = q_146.1 a0 8 from by rw [eq_183]; rfl)).trans (p7_q_146))
                          have z_206 : q_194.1 a0 7 = (q_64.1 a0 7) := ((show q_194.1 a0 7 = q_183.1 a0 7 from by rw [eq_194]; rfl)).trans (((show q_183.1 a0 7 = q_146.1 a0 7 from by rw [eq_183]; rfl)).trans (p8_q_146))
                          have z_207 : q_194.1 a0 12 = (q_64.1 a0 12) := ((show q_194.1 a0 12 = q_183.1 a0 12 from by rw [eq_194]; rfl)).trans (((show q_183.1 a0 12 = q_146.1 a0 12 from by rw [eq_183]; rfl)).trans (p9_q_146))
                          have z_208 : q_194.1 a0 13 = (q_64.1 a0 13) := ((show q_194.1 a0 13 = q_183.1 a0 13 from by rw [eq_194]; rfl)).trans (((show q_183.1 a0 13 = q_146.1 a0 13 from by rw [eq_183]; rfl)).trans (p10_q_146))
                          have z_209 : q_194.1 a0 9 = (q_64.1 a0 9) := ((show q_194.1 a0 9 = q_183.1 a0 9 from by rw [eq_194]; rfl)).trans (((show q_183.1 a0 9 = q_146.1 a0 9 from by rw [eq_183]; rfl)).trans (p11_q_146))
                          have z_210 : q_194.1 a0 15 = (q_64.1 a0 15) := ((show q_194.1 a0 15 = q_183.1 a0 15 from by rw [eq_194]; rfl)).trans (((show q_183.1 a0 15 = q_146.1 a0 15 from by rw [eq_183]; rfl)).trans (p12_q_146))
                          have z_211 : q_194.2.2.1 a0 1 = m1 := ((show q_194.2.2.1 a0 1 = q_183.2.2.1 a0 1 from by rw [eq_194]; rfl)).trans (((show q_183.2.2.1 a0 1 = q_146.2.2.1 a0 1 from by rw [eq_183]; rfl)).trans (p13_q_146))
                          have z_212 : q_194.2.2.1 a0 3 = m3 := ((show q_194.2.2.1 a0 3 = q_183.2.2.1 a0 3 from by rw [eq_194]; rfl)).trans (((show q_183.2.2.1 a0 3 = q_146.2.2.1 a0 3 from by rw [eq_183]; rfl)).trans (p14_q_146))
                          have z_213 : q_194.2.2.1 a0 16 = m16 := ((show q_194.2.2.1 a0 16 = q_183.2.2.1 a0 16 from by rw [eq_194]; rfl)).trans (((show q_183.2.2.1 a0 16 = q_146.2.2.1 a0 16 from by rw [eq_183]; rfl)).trans (p15_q_146))
                          have z_214 : q_194.2.2.1 a0 17 = m17 := ((show q_194.2.2.1 a0 17 = q_183.2.2.1 a0 17 from by rw [eq_194]; rfl)).trans (((show q_183.2.2.1 a0 17 = q_146.2.2.1 a0 17 from by rw [eq_183]; rfl)).trans (p16_q_146))
                          have z_215 : q_194.2.2.1 a0 18 = m18 := ((show q_194.2.2.1 a0 18 = q_183.2.2.1 a0 18 from by rw [eq_194]; rfl)).trans (((show q_183.2.2.1 a0 18 = q_146.2.2.1 a0 18 from by rw [eq_183]; rfl)).trans (p17_q_146))
                          have z_216 : q_194.2.2.1 a0 19 = m19 := ((show q_194.2.2.1 a0 19 = q_183.2.2.1 a0 19 from by rw [eq_194]; rfl)).trans (z_186)
                          have z_217 : q_194.2.1 a0 11 = (q_86.2.1 a0 11) := ((show q_194.2.1 a0 11 = q_183.2.1 a0 11 from by rw [eq_194]; rfl)).trans (((show q_183.2.1 a0 11 = q_146.2.1 a0 11 from by rw [eq_183]; rfl)).trans (p19_q_146))
                          have z_218 : q_194.2.2.2.1 m18 = (upd (q_89.2.2.2.1 m18) (v_88 : Int32).toNatClampNeg ((q_89.2.2.2.1 m18 ((3 + v_88) : Int32).toNatClampNeg))) := ((show q_194.2.2.2.1 m18 = q_183.2.2.2.1 m18 from by rw [eq_194]; exact sg_pG_a (sx_ka h km18 km19 (by decide)))).trans (((show q_183.2.2.2.1 m18 = q_146.2.2.2.1 m18 from by rw [eq_183]; rfl)).trans (p20_q_146))
                          have z_219 : q_194.2.2.2.2 m17 = (vp_updL (q_146.2.2.2.2 m17) (v_179 : Int32).toNatClampNeg ((q_146.2.2.2.2 m17 (v_182 : Int32).toNatClampNeg))) := ((show q_194.2.2.2.2 m17 = q_183.2.2.2.2 m17 from by rw [eq_194]; rfl)).trans (z_184)
                          exact ih_174 v_197 q_194 hV_q_194 hF_q_194 hK_q_194 mN_q_194 mU_q_194 z_198 z_199 z_200 z_201 z_202 z_203 z_204 z_205 z_206 z_207 z_208 z_209 z_210 z_211 z_212 z_213 z_214 z_215 z_216 z_217 z_218 (show 0 ≤ v_197.toInt from by first | assumption | omega | decide) (show cp_J (v_88).toInt.toNat (v_197).toInt.toNat (q_64.2.2.2.2 m17) (q_64.2.2.2.1 m18) (q_64.2.2.2.1 m19) (q_194.2.2.2.2 m17) (q_194.2.2.2.1 m18) (q_194.2.2.2.1 m19) from by rw [show (v_197 : Int32).toInt.toNat = (v_145 : Int32).toInt.toNat + 1 by omega]; have x9 := x_170; rw [p20_q_146] at x9; rw [z_219, z_218, z_195]; exact cp_b x9 (by omega) (by omega) (cp_i1 (by omega) (by omega) (by omega)) (cp_i1 (by omega) (by omega) (by omega)) (by rw [cp_i2 (i := v_182) (s := v_88) (v := v_145) (by omega) (by omega) (by omega)]) (by rw [cp_i2 (i := v_191) (s := v_88) (v := v_145) (by omega) (by omega) (by omega)])) (show mv_p (q_194.2.2.2.1 m18) (q_194.2.2.2.1 m19) (v_88).toNatClampNeg (v_197).toNatClampNeg from by have a1 := zx_nc v_88; have a2 := zx_nc v_145; have a3 := zx_nc v_197; have a4 := zx_nc v_188; have a5 := zx_nc v_191; have a6 := zx_nc (3 + v_88); have j1 : (v_188 : Int32).toNatClampNeg = 5 * (v_88 : Int32).toNatClampNeg + (v_145 : Int32).toNatClampNeg := (by omega); have j2 : (v_191 : Int32).toNatClampNeg = 5 * (3 + (v_88 : Int32).toNatClampNeg) + (v_145 : Int32).toNatClampNeg := (by omega); have j3 : (v_197 : Int32).toNatClampNeg = (v_145 : Int32).toNatClampNeg + 1 := (by omega); have j4 : (3 + v_88 : Int32).toNatClampNeg = 3 + (v_88 : Int32).toNatClampNeg := (by omega); rw [show q_194.2.2.2.1 m18 = q_146.2.2.2.1 m18 from (z_218).trans (p20_q_146).symm, z_195, j1, j3]; exact mv_p.st x_171 (by omega) (by omega) (fun j => (hV_q_146.cnt hm18 km18 j : sx_in _ 0 5).2) (by rw [← j4]; exact x_172) (by rw [j2])) (show (q_194.2.2.2.1 m18 (v_88).toNatClampNeg) = (q_194.2.2.2.1 m18 (3 + v_88).toNatClampNeg) from by rw [show q_194.2.2.2.1 m18 = q_146.2.2.2.1 m18 from (z_218).trans (p20_q_146).symm]; exact x_172) (show (5 - v_197.toInt : Int).toNat < _ from by omega)
                    exact Lp_118_173 _ 0 q_141 hV_q_141 hF_q_141 hK_q_141 mN_q_141 mU_q_141 z_147 z_148 z_149 z_150 z_151 z_152 z_153 z_154 z_155 z_156 z_157 z_158 z_159 z_160 z_161 z_162 z_163 z_164 z_165 z_166 z_142 (show 0 ≤ 0 from by first | assumption | omega | decide) (show cp_J (v_88).toInt.toNat ((0 : Int32)).toInt.toNat (q_64.2.2.2.2 m17) (q_64.2.2.2.1 m18) (q_64.2.2.2.1 m19) (q_141.2.2.2.2 m17) (q_141.2.2.2.1 m18) (q_141.2.2.2.1 m19) from by rw [z_168, z_142, z_144]; exact cp_a x_115 (by omega) (by rw [zx_nc]) (by rw [show ((3 + v_88) : Int32).toNatClampNeg = 3 + (v_88 : Int32).toInt.toNat by rw [zx_nc]; omega])) (show mv_p (q_141.2.2.2.1 m18) (q_141.2.2.2.1 m19) (v_88).toNatClampNeg ((0 : Int32)).toNatClampNeg from by have z9 := mv_f.p (s := (v_88 : Int32).toNatClampNeg) (v := (q_89.2.2.2.1 m18 ((3 + v_88) : Int32).toNatClampNeg)) ((mF_q_89).f rfl rfl); rw [z_142, show q_141.2.2.2.1 m19 = q_89.2.2.2.1 m19 from (by rw [eq_141]; exact sg_pG_a (sx_ka h km19 km18 (by decide)))]; exact z9) (show (q_141.2.2.2.1 m18 (v_88).toNatClampNeg) = (q_141.2.2.2.1 m18 (3 + v_88).toNatClampNeg) from by rw [z_142]; exact zx_u1.trans (zx_u2 (show ¬ ((3 + v_88 : Int32).toNatClampNeg = (v_88 : Int32).toNatClampNeg) from by have a9 := zx_nc (3 + v_88); have a8 := zx_nc v_88; omega)).symm) (Nat.lt_succ_self _)
              exact Lp_97_117 _ 0 q_86 hV_q_86 hF_q_86 hK_q_86 mN_q_86 mF_q_86 mU_q_86 z_87 z_90 z_91 z_92 z_93 z_94 z_95 z_96 z_97 z_98 z_99 z_100 z_101 z_102 z_103 z_104 z_105 z_106 z_107 rfl (show 0 ≤ 0 from by first | assumption | omega | decide) (show cp_I ((0 : Int32)).toInt.toNat (q_64.2.2.2.2 m17) (q_64.2.2.2.1 m18) (q_64.2.2.2.1 m19) (q_86.2.2.2.2 m17) (q_86.2.2.2.1 m18) (q_86.2.2.2.1 m19) from by rw [z_113, z_110, z_111]; exact cp_0) (show 0 ≤ v_70.toInt from by first | assumption | omega | decide) (Nat.lt_succ_self _)
          · refine wa_iconst B (-1) dX12_systems_73 (by decide) ?_
            refine wa_aload_n B dX12_systems_74 rfl 1 rfl ?_
            refine wa_getI B (C := RX12) (T := TX12) (N := 51) iq_X12_systems_X12 ha0 ka0 (by decide) rfl 15 (by decide) (by decide) (by decide +kernel) rfl (by decide) (v := (q_64.1 a0 15)) rfl dX12_systems_75 ?_
            refine wa_isub B dX12_systems_78 (fun v_220 ev_220 => ?_)
            have tv_220 : v_220.toInt = (-1) - (q_64.1 a0 15).toInt := by have b1 := zx_bd (q_64.1 a0 15); rw [ev_220]; exact zx_sub (show (-2147483648 : Int) ≤ (-1) - (q_64.1 a0 15).toInt by omega) (show (-1) - (q_64.1 a0 15).toInt < (2147483648 : Int) by omega)
            have z_221 : q_64.1 a0 2 = (q_10.1 a0 2) := (h3_q_64.1 2 (by decide)).trans ((h3_q_45.1 2 (by decide)).trans (p1_q_13))
            have y_222 : (q_64.1 a0 2).toInt = (q_10.1 a0 2).toInt := by rw [z_221]
            have z_223 : q_64.1 a0 20 = (q.1 a0 20) := (h3_q_64.1 20 (by decide)).trans ((h3_q_45.1 20 (by decide)).trans (p0_q_13))
            have y_224 : (q_64.1 a0 20).toInt = (q.1 a0 20).toInt := by rw [z_223]
            have y_225 : (q_64.1 a0 2).toInt = (q_10.1 a0 2).toInt := by rw [z_221]
            have y_226 : (q_64.1 a0 20).toInt = (q.1 a0 20).toInt := by rw [z_223]
            exact hret _ _ _ _ dX12_systems_79 ⟨hV_q_64, hF_q_64, hK_q_64, mN_q_64, mF_q_64, mU_q_64, ⟨by omega, (by have y7 := (hw_66.1.resolve_right (fun y => absurd y.1 (by omega))).2; exact Or.inl ⟨⟨_, y7.2, by omega⟩, z_223, lo_68⟩)⟩⟩
        · refine wa_aload_n B dX12_systems_48 rfl 1 rfl ?_
          refine wa_iconst B 4 dX12_systems_49 (by decide) ?_
          refine wa_callVi B (x := (RX12, TX12, 51)) (As := [.int 4]) (rest := []) (k_X12_bad_c l dC dI h L hN q_13 hV_q_13 (a0 := a0) ha0 ka0 4  ) (cwV 1 B.1.2.2.2.2 gX12_systems_X12_bad rfl rfl rfl (by decide +kernel) ⟨Nat.le_of_ble_eq_true rfl, Nat.le_of_ble_eq_true rfl⟩) ha0 ka0 (by decide) rfl rfl rfl (Nat.le_of_ble_eq_true rfl) dX12_systems_50 (fun r_228 q_227 w_229 => ?_)
          obtain ⟨hV_q_227, h2_q_227, h3_q_227, hw_229⟩ := w_229
          have hF_q_227 : sx_fr h L (fun a => h.1 a = 12 ∨ h.1 a = 113 ∨ h.1 a = 226 ∨ h.1 a = 227 ∨ h.1 a = 128 ∨ h.1 a = 129) q q_227 := hF_q_13.tr (h2_q_227.mono (fun a (z : h.1 a = 12) => ((fun z => (Or.inl z)) z)))
          have hK_q_227 : sx_kf a0 [0, 14, 15, 2, 4, 5, 10, 20, 31, 49, 50, 6, 7, 8, 9, 11, 12, 13] q q_227 := hK_q_13.tr (h3_q_227.mono (by decide))
          have mN_q_227 : mv_N a0 q_227 := mv_N.eq (h3_q_227.1 8 (by decide)) (h3_q_227.2 11 (by decide)) mN_q_13
          have mF_q_227 : mv_F m18 m19 q_227 := mv_F.eq (h2_q_227.G hm18 (show ¬ (h.1 m18 = 12) from (fun z => absurd (z.symm.trans km18) (by decide))) (by rw [km18]; decide)) (h2_q_227.G hm19 (show ¬ (h.1 m19 = 12) from (fun z => absurd (z.symm.trans km19) (by decide))) (by rw [km19]; decide)) mF_q_13
          have mU_q_227 : mv_U m17 q_227 := mv_U.eq (h2_q_227.Lg hm17 (show ¬ (h.1 m17 = 12) from (fun z => absurd (z.symm.trans km17) (by decide))) (by rw [km17]; decide)) mU_q_13
          refine wa_pop B dX12_systems_53 rfl ?_
          refine wa_iconst B (-1) dX12_systems_54 (by decide) ?_
          refine wa_aload_n B dX12_systems_55 rfl 1 rfl ?_
          refine wa_getI B (C := RX12) (T := TX12) (N := 51) iq_X12_systems_X12 ha0 ka0 (by decide) rfl 15 (by decide) (by decide) (by decide +kernel) rfl (by decide) (v := (q_227.1 a0 15)) rfl dX12_systems_56 ?_
          refine wa_isub B dX12_systems_59 (fun v_230 ev_230 => ?_)
          have z_231 : q_227.1 a0 7 = q_13.1 a0 7 := h3_q_227.1 7 (by decide)
          have y_232 : (q_227.1 a0 7).toInt = (q_13.1 a0 7).toInt := by rw [z_231]
          have tv_230 : v_230.toInt = (-1) - (q_227.1 a0 15).toInt := by have b1 := zx_bd (q_227.1 a0 15); rw [ev_230]; exact zx_sub (show (-2147483648 : Int) ≤ (-1) - (q_227.1 a0 15).toInt by omega) (show (-1) - (q_227.1 a0 15).toInt < (2147483648 : Int) by omega)
          have z_233 : q_227.1 a0 2 = (q_10.1 a0 2) := (h3_q_227.1 2 (by decide)).trans (p1_q_13)
          have y_234 : (q_227.1 a0 2).toInt = (q_10.1 a0 2).toInt := by rw [z_233]
          have z_235 : q_227.1 a0 20 = (q.1 a0 20) := (h3_q_227.1 20 (by decide)).trans (p0_q_13)
          have y_236 : (q_227.1 a0 20).toInt = (q.1 a0 20).toInt := by rw [z_235]
          have y_237 : (q_227.1 a0 2).toInt = (q_10.1 a0 2).toInt := by rw [z_233]
          have y_238 : (q_227.1 a0 20).toInt = (q.1 a0 20).toInt := by rw [z_235]
          have y_239 : (q_227.1 a0 7).toInt = (q_13.1 a0 7).toInt := by rw [z_231]
          have z_240 : q_227.2.2.2.2 m16 = q_13.2.2.2.2 m16 := h2_q_227.Lg hm16 (show ¬ (h.1 m16 = 12) from (fun z => absurd (z.symm.trans km16) (by decide))) (by rw [km16]; decide)
          have z_241 : q_227.2.2.2.2 m17 = q_13.2.2.2.2 m17 := h2_q_227.Lg hm17 (show ¬ (h.1 m17 = 12) from (fun z => absurd (z.symm.trans km17) (by decide))) (by rw [km17]; decide)
          have z_242 : q_227.2.2.2.1 m18 = q_13.2.2.2.1 m18 := h2_q_227.G hm18 (show ¬ (h.1 m18 = 12) from (fun z => absurd (z.symm.trans km18) (by decide))) (by rw [km18]; decide)
          have z_243 : q_227.2.2.2.1 m19 = q_13.2.2.2.1 m19 := h2_q_227.G hm19 (show ¬ (h.1 m19 = 12) from (fun z => absurd (z.symm.trans km19) (by decide))) (by rw [km19]; decide)
          exact hret _ _ _ _ dX12_systems_60 ⟨hV_q_227, hF_q_227, hK_q_227, mN_q_227, mF_q_227, mU_q_227, ⟨by omega, Or.inl ⟨⟨_, rr_key_bad hC hT (by omega) (fun z => absurd z.2.2 (by omega)), by omega⟩, z_235, by rw [z_241, z_242, z_243]; exact x_32⟩⟩⟩
      · refine wa_aload_n B dX12_systems_30 rfl 1 rfl ?_
        refine wa_iconst B 1 dX12_systems_31 (by decide) ?_
        refine wa_callVi B (x := (RX12, TX12, 51)) (As := [.int 1]) (rest := []) (k_X12_bad_c l dC dI h L hN q_13 hV_q_13 (a0 := a0) ha0 ka0 1  ) (cwV 1 B.1.2.2.2.2 gX12_systems_X12_bad rfl rfl rfl (by decide +kernel) ⟨Nat.le_of_ble_eq_true rfl, Nat.le_of_ble_eq_true rfl⟩) ha0 ka0 (by decide) rfl rfl rfl (Nat.le_of_ble_eq_true rfl) dX12_systems_32 (fun r_245 q_244 w_246 => ?_)
        obtain ⟨hV_q_244, h2_q_244, h3_q_244, hw_246⟩ := w_246
        have hF_q_244 : sx_fr h L (fun a => h.1 a = 12 ∨ h.1 a = 113 ∨ h.1 a = 226 ∨ h.1 a = 227 ∨ h.1 a = 128 ∨ h.1 a = 129) q q_244 := hF_q_13.tr (h2_q_244.mono (fun a (z : h.1 a = 12) => ((fun z => (Or.inl z)) z)))
        have hK_q_244 : sx_kf a0 [0, 14, 15, 2, 4, 5, 10, 20, 31, 49, 50, 6, 7, 8, 9, 11, 12, 13] q q_244 := hK_q_13.tr (h3_q_244.mono (by decide))
        have mN_q_244 : mv_N a0 q_244 := mv_N.eq (h3_q_244.1 8 (by decide)) (h3_q_244.2 11 (by decide)) mN_q_13
        have mF_q_244 : mv_F m18 m19 q_244 := mv_F.eq (h2_q_244.G hm18 (show ¬ (h.1 m18 = 12) from (fun z => absurd (z.symm.trans km18) (by decide))) (by rw [km18]; decide)) (h2_q_244.G hm19 (show ¬ (h.1 m19 = 12) from (fun z => absurd (z.symm.trans km19) (by decide))) (by rw [km19]; decide)) mF_q_13
        have mU_q_244 : mv_U m17 q_244 := mv_U.eq (h2_q_244.Lg hm17 (show ¬ (h.1 m17 = 12) from (fun z => absurd (z.symm.trans km17) (by decide))) (by rw [km17]; decide)) mU_q_13
        refine wa_pop B dX12_systems_35 rfl ?_
        refine wa_iconst B (-1) dX12_systems_36 (by decide) ?_
        refine wa_aload_n B dX12_systems_37 rfl 1 rfl ?_
        refine wa_getI B (C := RX12) (T := TX12) (N := 51) iq_X12_systems_X12 ha0 ka0 (by decide) rfl 15 (by decide) (by decide) (by decide +kernel) rfl (by decide) (v := (q_244.1 a0 15)) rfl dX12_systems_38 ?_
        refine wa_isub B dX12_systems_41 (fun v_247 ev_247 => ?_)
        have z_248 : q_244.1 a0 7 = q_13.1 a0 7 := h3_q_244.1 7 (by decide)
        have y_249 : (q_244.1 a0 7).toInt = (q_13.1 a0 7).toInt := by rw [z_248]
        have tv_247 : v_247.toInt = (-1) - (q_244.1 a0 15).toInt := by have b1 := zx_bd (q_244.1 a0 15); rw [ev_247]; exact zx_sub (show (-2147483648 : Int) ≤ (-1) - (q_244.1 a0 15).toInt by omega) (show (-1) - (q_244.1 a0 15).toInt < (2147483648 : Int) by omega)
        have z_250 : q_244.1 a0 2 = (q_10.1 a0 2) := (h3_q_244.1 2 (by decide)).trans (p1_q_13)
        have y_251 : (q_244.1 a0 2).toInt = (q_10.1 a0 2).toInt := by rw [z_250]
        have z_252 : q_244.1 a0 20 = (q.1 a0 20) := (h3_q_244.1 20 (by decide)).trans (p0_q_13)
        have y_253 : (q_244.1 a0 20).toInt = (q.1 a0 20).toInt := by rw [z_252]
        have y_254 : (q_244.1 a0 2).toInt = (q_10.1 a0 2).toInt := by rw [z_250]
        have y_255 : (q_244.1 a0 20).toInt = (q.1 a0 20).toInt := by rw [z_252]
        have y_256 : (q_244.1 a0 7).toInt = (q_13.1 a0 7).toInt := by rw [z_248]
        have z_257 : q_244.2.2.2.2 m16 = q_13.2.2.2.2 m16 := h2_q_244.Lg hm16 (show ¬ (h.1 m16 = 12) from (fun z => absurd (z.symm.trans km16) (by decide))) (by rw [km16]; decide)
        have z_258 : q_244.2.2.2.2 m17 = q_13.2.2.2.2 m17 := h2_q_244.Lg hm17 (show ¬ (h.1 m17 = 12) from (fun z => absurd (z.symm.trans km17) (by decide))) (by rw [km17]; decide)
        have z_259 : q_244.2.2.2.1 m18 = q_13.2.2.2.1 m18 := h2_q_244.G hm18 (show ¬ (h.1 m18 = 12) from (fun z => absurd (z.symm.trans km18) (by decide))) (by rw [km18]; decide)
        have z_260 : q_244.2.2.2.1 m19 = q_13.2.2.2.1 m19 := h2_q_244.G hm19 (show ¬ (h.1 m19 = 12) from (fun z => absurd (z.symm.trans km19) (by decide))) (by rw [km19]; decide)
        exact hret _ _ _ _ dX12_systems_42 ⟨hV_q_244, hF_q_244, hK_q_244, mN_q_244, mF_q_244, mU_q_244, ⟨by omega, Or.inl ⟨⟨_, rr_key_bad hC hT (by omega) (fun z => ((hw_39.resolve_left (fun y => absurd y.1 (by omega))).2) ⟨z.1, z.2.1⟩), by omega⟩, z_252, by rw [z_258, z_259, z_260]; exact x_32⟩⟩⟩
  exact Lp_20_34 _ 0 q_10 hV_q_10 hF_q_10 hK_q_10 mN_q_10 mF_q_10 mU_q_10 z_14 rfl z_15 rfl rfl rfl z_17 z_18 z_19 z_20 z_21 z_22 z_23 rfl (show 0 ≤ 0 from by first | assumption | omega | decide) (show 0 ≤ 3 from by first | assumption | omega | decide) (show (q_10.1 a0 6).toInt ≤ (q_10.1 a0 4).toInt from by have y7 := hw_11.2.2.2.2.1; omega) (show 0 = 0 ∨ ¬ (q_10.1 a0 8).toInt = 0 from by first | assumption | omega | decide) (show rs_lo (q.2.2.2.2 m17) (q_10.2.2.2.2 m17) (q.2.2.2.1 m18) (q_10.2.2.2.1 m18) (q.2.2.2.1 m19) (q_10.2.2.2.1 m19) from by rw [z_27, z_24, z_25]; exact rs_lo.rf) (show rs_P F n9 R9 0 ((0 : Int32)).toInt.toNat (q_10.1 a0 8) (q_10.1 a0 9) (q_10.1 a0 7) (q_10.1 a0 6) (q_10.1 a0 12) (q_10.1 a0 13) (q_10.2.1 a0 11) (q_10.2.2.2.2 m16) (q_10.2.2.2.2 m17) (q_10.2.2.2.1 m18) (q_10.2.2.2.1 m19) from by rw [hR9]; exact ⟨0, hw_11.2.2.2.2.2.2, rr_0⟩) (Nat.lt_succ_self _)
