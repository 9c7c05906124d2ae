set_option maxHeartbeats 4000000 in
set_option maxRecDepth 100000 in
theorem k_X12_systems_c (l : Launch) (dC : Nat → ClassId) (dI : Nat → Nat → Nat) (h : Sh) (L : List Nat) (hN : sx_nd L) (q : Sg) (hV : sx_V h L q) {a0 : Nat} (ha0 : a0 ∈ L) (ka0 : h.1 a0 = 12) {m1 : Nat} (em1 : q.2.2.1 a0 1 = m1) {m3 : Nat} (em3 : q.2.2.1 a0 3 = m3) {m16 : Nat} (em16 : q.2.2.1 a0 16 = m16) {m17 : Nat} (em17 : q.2.2.1 a0 17 = m17) {m18 : Nat} (em18 : q.2.2.1 a0 18 = m18) {m19 : Nat} (em19 : q.2.2.1 a0 19 = m19) (mN : mv_N a0 q) (mF : mv_F m18 m19 q) (mU : mv_U m17 q) (F : Nat → Int32) (n9 : Nat) (R9 : Option Nat × PU) (hn9 : (n9 : Int) = (q.1 a0 2).toInt) (hFF : ∀ j : Nat, j < n9 → q.2.2.2.1 m1 j = F j) (hR9 : R9 = pm_run F n9 401 0 0 pu_0 0) : CMi l dC dI h L yX12_systems wsX12_systems ({ frames := 5, cells := 0, slots := 0, locals := 110 } : Room) q [.ref a0] (fun r q' => sx_V h L q' ∧ sx_fr h L (fun a => h.1 a = 12 ∨ h.1 a = 113 ∨ h.1 a = 226 ∨ h.1 a = 227 ∨ h.1 a = 128 ∨ h.1 a = 129) q q' ∧ sx_kf a0 [0, 14, 15, 2, 4, 5, 10, 20, 31, 49, 50, 6, 7, 8, 9, 11, 12, 13] q q' ∧ mv_N a0 q' ∧ mv_F m18 m19 q' ∧ mv_U m17 q' ∧ ((q'.1 a0 2).toInt = 0 ∧ ((∃ p : Nat, R9.1 = some p ∧ r.toInt = -1 - (p : Int)) ∨ R9.1 = none ∧ r.toInt = ((R9.2.1 : Nat) : Int)))) := by
  refine cm_i (cc := cX12_systems) (mL := 4) (own := RX12) hN (by decide) rfl rfl (Nat.le_of_ble_eq_true rfl) (fun Z B hret => ?_)
  have hF : sx_fr h L (fun a => h.1 a = 12 ∨ h.1 a = 113 ∨ h.1 a = 226 ∨ h.1 a = 227 ∨ h.1 a = 128 ∨ h.1 a = 129) q q := sx_fr.rf
  have hK : sx_kf a0 [0, 14, 15, 2, 4, 5, 10, 20, 31, 49, 50, 6, 7, 8, 9, 11, 12, 13] q q := sx_kf.rf
  obtain ⟨hm1, km1, lm1⟩ : m1 ∈ L ∧ h.1 m1 = 111 ∧ h.2.1 m1 = 440 := by obtain ⟨r9, e9, z1, z2, z3⟩ := hV.refn (t := 111) (n := 440) ha0 ka0 1 rfl (by decide) rfl (by decide); rw [← em1, e9]; exact ⟨z1, z2, z3⟩
  obtain ⟨hm3, km3, lm3⟩ : m3 ∈ L ∧ h.1 m3 = 113 ∧ h.2.1 m3 = 500 := by obtain ⟨r9, e9, z1, z2, z3⟩ := hV.refn (t := 113) (n := 500) ha0 ka0 3 rfl (by decide) rfl (by decide); rw [← em3, e9]; exact ⟨z1, z2, z3⟩
  obtain ⟨hm16, km16, lm16⟩ : m16 ∈ L ∧ h.1 m16 = 226 ∧ h.2.1 m16 = 6 := by obtain ⟨r9, e9, z1, z2, z3⟩ := hV.refn (t := 226) (n := 6) ha0 ka0 16 rfl (by decide) rfl (by decide); rw [← em16, e9]; exact ⟨z1, z2, z3⟩
  obtain ⟨hm17, km17, lm17⟩ : m17 ∈ L ∧ h.1 m17 = 227 ∧ h.2.1 m17 = 30 := by obtain ⟨r9, e9, z1, z2, z3⟩ := hV.refn (t := 227) (n := 30) ha0 ka0 17 rfl (by decide) rfl (by decide); rw [← em17, e9]; exact ⟨z1, z2, z3⟩
  obtain ⟨hm18, km18, lm18⟩ : m18 ∈ L ∧ h.1 m18 = 128 ∧ h.2.1 m18 = 6 := by obtain ⟨r9, e9, z1, z2, z3⟩ := hV.refn (t := 128) (n := 6) ha0 ka0 18 rfl (by decide) rfl (by decide); rw [← em18, e9]; exact ⟨z1, z2, z3⟩
  obtain ⟨hm19, km19, lm19⟩ : m19 ∈ L ∧ h.1 m19 = 129 ∧ h.2.1 m19 = 30 := by obtain ⟨r9, e9, z1, z2, z3⟩ := hV.refn (t := 129) (n := 30) ha0 ka0 19 rfl (by decide) rfl (by decide); rw [← em19, e9]; exact ⟨z1, z2, z3⟩
  show WA l dC dI h L ({ frames := 5, cells := 0, slots := 0, locals := 110 } : Room) 4 Z q 0 [(0, .ref a0)] []
  refine wa_aload_n B dX12_systems_0 rfl 0 rfl ?_
  refine wa_iconst B 0 dX12_systems_1 (by decide) ?_
  refine wa_putI B (C := RX12) (T := TX12) (N := 51) iq_X12_systems_X12 ha0 ka0 (by decide) rfl 0 (by decide) (by decide) (by decide +kernel) rfl (by decide) (v := 0) (ty := .int) tyX12 tyX12_ok nmX12 rfl (by decide +kernel) rfl rfl dX12_systems_2 (fun q_1 eq_1 => ?_)
  have hV_q_1 : sx_V h L q_1 := by rw [eq_1]; exact hV.pI ka0 trivial
  have hF_q_1 : sx_fr h L (fun a => h.1 a = 12 ∨ h.1 a = 113 ∨ h.1 a = 226 ∨ h.1 a = 227 ∨ h.1 a = 128 ∨ h.1 a = 129) q q_1 := hF.tr (by rw [eq_1]; exact sx_fr.pI (show h.1 a0 = 12 ∨ h.1 a0 = 113 ∨ h.1 a0 = 226 ∨ h.1 a0 = 227 ∨ h.1 a0 = 128 ∨ h.1 a0 = 129 from (Or.inl ka0)))
  have z_2 : q_1.1 a0 0 = 0 := by rw [eq_1]; exact sg_pI_e
  have hK_q_1 : sx_kf a0 [0, 14, 15, 2, 4, 5, 10, 20, 31, 49, 50, 6, 7, 8, 9, 11, 12, 13] q q_1 := hK.tr (by rw [eq_1]; exact sx_kf.pI (by decide))
  have mN_q_1 : mv_N a0 q_1 := mv_N.eq ((show q_1.1 a0 8 = q.1 a0 8 from by rw [eq_1]; exact sg_pI_k (by decide))) ((show q_1.2.1 a0 11 = q.2.1 a0 11 from by rw [eq_1]; rfl)) mN
  have mF_q_1 : mv_F m18 m19 q_1 := mv_F.eq ((show q_1.2.2.2.1 m18 = q.2.2.2.1 m18 from by rw [eq_1]; rfl)) ((show q_1.2.2.2.1 m19 = q.2.2.2.1 m19 from by rw [eq_1]; rfl)) mF
  have mU_q_1 : mv_U m17 q_1 := mv_U.eq ((show q_1.2.2.2.2 m17 = q.2.2.2.2 m17 from by rw [eq_1]; rfl)) mU
  refine wa_aload_n B dX12_systems_5 rfl 0 rfl ?_
  refine wa_iconst B 0 dX12_systems_6 (by decide) ?_
  refine wa_putI B (C := RX12) (T := TX12) (N := 51) iq_X12_systems_X12 ha0 ka0 (by decide) rfl 14 (by decide) (by decide) (by decide +kernel) rfl (by decide) (v := 0) (ty := .int) tyX12 tyX12_ok nmX12 rfl (by decide +kernel) rfl rfl dX12_systems_7 (fun q_3 eq_3 => ?_)
  have hV_q_3 : sx_V h L q_3 := by rw [eq_3]; exact hV_q_1.pI ka0 trivial
  have hF_q_3 : sx_fr h L (fun a => h.1 a = 12 ∨ h.1 a = 113 ∨ h.1 a = 226 ∨ h.1 a = 227 ∨ h.1 a = 128 ∨ h.1 a = 129) q q_3 := hF_q_1.tr (by rw [eq_3]; exact sx_fr.pI (show h.1 a0 = 12 ∨ h.1 a0 = 113 ∨ h.1 a0 = 226 ∨ h.1 a0 = 227 ∨ h.1 a0 = 128 ∨ h.1 a0 = 129 from (Or.inl ka0)))
  have z_4 : q_3.1 a0 14 = 0 := by rw [eq_3]; exact sg_pI_e
  have hK_q_3 : sx_kf a0 [0, 14, 15, 2, 4, 5, 10, 20, 31, 49, 50, 6, 7, 8, 9, 11, 12, 13] q q_3 := hK_q_1.tr (by rw [eq_3]; exact sx_kf.pI (by decide))
  have mN_q_3 : mv_N a0 q_3 := mv_N.eq ((show q_3.1 a0 8 = q_1.1 a0 8 from by rw [eq_3]; exact sg_pI_k (by decide))) ((show q_3.2.1 a0 11 = q_1.2.1 a0 11 from by rw [eq_3]; rfl)) mN_q_1
  have mF_q_3 : mv_F m18 m19 q_3 := mv_F.eq ((show q_3.2.2.2.1 m18 = q_1.2.2.2.1 m18 from by rw [eq_3]; rfl)) ((show q_3.2.2.2.1 m19 = q_1.2.2.2.1 m19 from by rw [eq_3]; rfl)) mF_q_1
  have mU_q_3 : mv_U m17 q_3 := mv_U.eq ((show q_3.2.2.2.2 m17 = q_1.2.2.2.2 m17 from by rw [eq_3]; rfl)) mU_q_1
  refine wa_aload_n B dX12_systems_10 rfl 0 rfl ?_
  refine wa_sipush B 400 dX12_systems_11 (by decide) ?_
  refine wa_iconst B 0 dX12_systems_14 (by decide) ?_
  have z_5 : q_3.2.2.1 a0 1 = m1 := ((show q_3.2.2.1 a0 1 = q_1.2.2.1 a0 1 from by rw [eq_3]; rfl)).trans (((show q_1.2.2.1 a0 1 = q.2.2.1 a0 1 from by rw [eq_1]; rfl)).trans (em1))
  have z_6 : q_3.2.2.1 a0 3 = m3 := ((show q_3.2.2.1 a0 3 = q_1.2.2.1 a0 3 from by rw [eq_3]; rfl)).trans (((show q_1.2.2.1 a0 3 = q.2.2.1 a0 3 from by rw [eq_1]; rfl)).trans (em3))
  have z_7 : q_3.1 a0 2 = q.1 a0 2 := ((show q_3.1 a0 2 = q_1.1 a0 2 from by rw [eq_3]; exact sg_pI_k (by decide))).trans ((show q_1.1 a0 2 = q.1 a0 2 from by rw [eq_1]; exact sg_pI_k (by decide)))
  have y_8 : (q_3.1 a0 2).toInt = (q.1 a0 2).toInt := by rw [z_7]
  have z_9 : q_3.2.2.2.1 m1 = q.2.2.2.1 m1 := ((show q_3.2.2.2.1 m1 = q_1.2.2.2.1 m1 from by rw [eq_3]; rfl)).trans ((show q_1.2.2.2.1 m1 = q.2.2.2.1 m1 from by rw [eq_1]; rfl))
  refine wa_callVv B (x := (RX12, TX12, 51)) (As := [.int 400, .int 0]) (rest := []) (k_X12_takes_c l dC dI h L hN q_3 hV_q_3 (a0 := a0) ha0 ka0 400 0 (m1 := m1) z_5 (m3 := m3) z_6 F n9 (by first | assumption | omega | decide) (by first | assumption | omega | decide) (by first | assumption | omega | decide) (fun j hj => by rw [z_9]; exact hFF j hj)) (cwV 2 B.1.2.2.2.2 gX12_systems_X12_takes rfl rfl rfl (by decide +kernel) ⟨Nat.le_of_ble_eq_true rfl, Nat.le_of_ble_eq_true rfl⟩) ha0 ka0 (by decide) rfl rfl rfl (Nat.le_of_ble_eq_true rfl) dX12_systems_15 (fun q_10 w_11 => ?_)
  obtain ⟨hV_q_10, h2_q_10, h3_q_10, mN_q_10, hw_11⟩ := w_11
  have hF_q_10 : sx_fr h L (fun a => h.1 a = 12 ∨ h.1 a = 113 ∨ h.1 a = 226 ∨ h.1 a = 227 ∨ h.1 a = 128 ∨ h.1 a = 129) q q_10 := hF_q_3.tr (h2_q_10.mono (fun a (z : h.1 a = 12 ∨ h.1 a = 113) => ((fun z => z.elim (fun z => (Or.inl z)) (fun z => (Or.inr (Or.inl z)))) z)))
  have hK_q_10 : sx_kf a0 [0, 14, 15, 2, 4, 5, 10, 20, 31, 49, 50, 6, 7, 8, 9, 11, 12, 13] q q_10 := hK_q_3.tr (h3_q_10.mono (by decide))
  have mF_q_10 : mv_F m18 m19 q_10 := mv_F.eq (h2_q_10.G hm18 (show ¬ (h.1 m18 = 12 ∨ h.1 m18 = 113) from (fun z => z.elim (fun z => absurd (z.symm.trans km18) (by decide)) (fun z => absurd (z.symm.trans km18) (by decide)))) (by rw [km18]; decide)) (h2_q_10.G hm19 (show ¬ (h.1 m19 = 12 ∨ h.1 m19 = 113) from (fun z => z.elim (fun z => absurd (z.symm.trans km19) (by decide)) (fun z => absurd (z.symm.trans km19) (by decide)))) (by rw [km19]; decide)) mF_q_3
  have mU_q_10 : mv_U m17 q_10 := mv_U.eq (h2_q_10.Lg hm17 (show ¬ (h.1 m17 = 12 ∨ h.1 m17 = 113) from (fun z => z.elim (fun z => absurd (z.symm.trans km17) (by decide)) (fun z => absurd (z.symm.trans km17) (by decide)))) (by rw [km17]; decide)) mU_q_3
  refine wa_iconst B 0 dX12_systems_18 (by decide) ?_
  refine wa_istore_n B [(1, .int 0), (0, .ref a0)] dX12_systems_19 rfl (by decide) rfl ?_
  have z_14 : q_10.1 a0 0 = 0 := (h3_q_10.1 0 (by decide)).trans (((show q_3.1 a0 0 = q_1.1 a0 0 from by rw [eq_3]; exact sg_pI_k (by decide))).trans (z_2))
  have z_15 : q_10.1 a0 14 = 0 := (h3_q_10.1 14 (by decide)).trans (z_4)
  have z_16 : q_10.2.2.1 a0 1 = m1 := (h2_q_10.R ha0 (fun z9 => absurd z9.2 (by omega)) 1).trans (z_5)
  have z_17 : q_10.2.2.1 a0 3 = m3 := (h2_q_10.R ha0 (fun z9 => absurd z9.2 (by omega)) 3).trans (z_6)
  have z_18 : q_10.2.2.1 a0 16 = m16 := (h2_q_10.R ha0 (fun z9 => absurd z9.2 (by omega)) 16).trans (((show q_3.2.2.1 a0 16 = q_1.2.2.1 a0 16 from by rw [eq_3]; rfl)).trans (((show q_1.2.2.1 a0 16 = q.2.2.1 a0 16 from by rw [eq_1]; rfl)).trans (em16)))
  have z_19 : q_10.2.2.1 a0 17 = m17 := (h2_q_10.R ha0 (fun z9 => absurd z9.2 (by omega)) 17).trans (((show q_3.2.2.1 a0 17 = q_1.2.2.1 a0 17 from by rw [eq_3]; rfl)).trans (((show q_1.2.2.1 a0 17 = q.2.2.1 a0 17 from by rw [eq_1]; rfl)).trans (em17)))
  have z_20 : q_10.2.2.1 a0 18 = m18 := (h2_q_10.R ha0 (fun z9 => absurd z9.2 (by omega)) 18).trans (((show q_3.2.2.1 a0 18 = q_1.2.2.1 a0 18 from by rw [eq_3]; rfl)).trans (((show q_1.2.2.1 a0 18 = q.2.2.1 a0 18 from by rw [eq_1]; rfl)).trans (em18)))
  have z_21 : q_10.2.2.1 a0 19 = m19 := (h2_q_10.R ha0 (fun z9 => absurd z9.2 (by omega)) 19).trans (((show q_3.2.2.1 a0 19 = q_1.2.2.1 a0 19 from by rw [eq_3]; rfl)).trans (((show q_1.2.2.1 a0 19 = q.2.2.1 a0 19 from by rw [eq_1]; rfl)).trans (em19)))
  have z_22 : q_10.2.2.2.1 m1 = (q.2.2.2.1 m1) := (h2_q_10.G hm1 (show ¬ (h.1 m1 = 12 ∨ h.1 m1 = 113) from (fun z => z.elim (fun z => absurd (z.symm.trans km1) (by decide)) (fun z => absurd (z.symm.trans km1) (by decide)))) (by rw [km1]; decide)).trans (z_9)
  have z_23 : q_10.2.2.2.1 m18 = q.2.2.2.1 m18 := (h2_q_10.G hm18 (show ¬ (h.1 m18 = 12 ∨ h.1 m18 = 113) from (fun z => z.elim (fun z => absurd (z.symm.trans km18) (by decide)) (fun z => absurd (z.symm.trans km18) (by decide)))) (by rw [km18]; decide)).trans (((show q_3.2.2.2.1 m18 = q_1.2.2.2.1 m18 from by rw [eq_3]; rfl)).trans ((show q_1.2.2.2.1 m18 = q.2.2.2.1 m18 from by rw [eq_1]; rfl)))
  have z_24 : q_10.2.2.2.1 m19 = q.2.2.2.1 m19 := (h2_q_10.G hm19 (show ¬ (h.1 m19 = 12 ∨ h.1 m19 = 113) from (fun z => z.elim (fun z => absurd (z.symm.trans km19) (by decide)) (fun z => absurd (z.symm.trans km19) (by decide)))) (by rw [km19]; decide)).trans (((show q_3.2.2.2.1 m19 = q_1.2.2.2.1 m19 from by rw [eq_3]; rfl)).trans ((show q_1.2.2.2.1 m19 = q.2.2.2.1 m19 from by rw [eq_1]; rfl)))
  have z_25 : q_10.2.2.2.2 m16 = q.2.2.2.2 m16 := (h2_q_10.Lg hm16 (show ¬ (h.1 m16 = 12 ∨ h.1 m16 = 113) from (fun z => z.elim (fun z => absurd (z.symm.trans km16) (by decide)) (fun z => absurd (z.symm.trans km16) (by decide)))) (by rw [km16]; decide)).trans (((show q_3.2.2.2.2 m16 = q_1.2.2.2.2 m16 from by rw [eq_3]; rfl)).trans ((show q_1.2.2.2.2 m16 = q.2.2.2.2 m16 from by rw [eq_1]; rfl)))
  have z_26 : q_10.2.2.2.2 m17 = q.2.2.2.2 m17 := (h2_q_10.Lg hm17 (show ¬ (h.1 m17 = 12 ∨ h.1 m17 = 113) from (fun z => z.elim (fun z => absurd (z.symm.trans km17) (by decide)) (fun z => absurd (z.symm.trans km17) (by decide)))) (by rw [km17]; decide)).trans (((show q_3.2.2.2.2 m17 = q_1.2.2.2.2 m17 from by rw [eq_3]; rfl)).trans ((show q_1.2.2.2.2 m17 = q.2.2.2.2 m17 from by rw [eq_1]; rfl)))
  have Lp_20_32 : ∀ (n : Nat) (v_12 : Int32) (q_13 : Sg), sx_V h L q_13 → sx_fr h L (fun a => h.1 a = 12 ∨ h.1 a = 113 ∨ h.1 a = 226 ∨ h.1 a = 227 ∨ h.1 a = 128 ∨ h.1 a = 129) q q_13 → sx_kf a0 [0, 14, 15, 2, 4, 5, 10, 20, 31, 49, 50, 6, 7, 8, 9, 11, 12, 13] q q_13 → mv_N a0 q_13 → mv_F m18 m19 q_13 → mv_U m17 q_13 → q_13.1 a0 2 = (q_10.1 a0 2) → q_13.1 a0 0 = 0 → q_13.1 a0 10 = (q_10.1 a0 10) → q_13.1 a0 4 = (q_10.1 a0 4) → q_13.1 a0 5 = (q_10.1 a0 5) → q_13.2.2.1 a0 1 = m1 → q_13.2.2.1 a0 3 = m3 → q_13.2.2.1 a0 16 = m16 → q_13.2.2.1 a0 17 = m17 → q_13.2.2.1 a0 18 = m18 → q_13.2.2.1 a0 19 = m19 → q_13.2.2.2.1 m1 = (q.2.2.2.1 m1) → q_13.2.2.2.1 m3 = (q_10.2.2.2.1 m3) → 0 ≤ v_12.toInt → v_12.toInt ≤ 3 → (q_13.1 a0 6).toInt ≤ (q_13.1 a0 4).toInt → v_12.toInt = 0 ∨ ¬ (q_13.1 a0 8).toInt = 0 → rs_P F n9 R9 0 (v_12).toInt.toNat (q_13.1 a0 8) (q_13.1 a0 9) (q_13.1 a0 7) (q_13.1 a0 6) (q_13.1 a0 12) (q_13.1 a0 13) (q_13.2.1 a0 11) (q_13.2.2.2.2 m16) (q_13.2.2.2.2 m17) (q_13.2.2.2.1 m18) (q_13.2.2.2.1 m19) → (4 - v_12.toInt : Int).toNat < n → WA l dC dI h L ({ frames := 5, cells := 0, slots := 0, locals := 110 } : Room) 4 Z q_13 20 [(1, .int v_12), (0, .ref a0)] [] := by
    intro n
    induction n with
    | zero =>
      intro v_12 q_13 hV_q_13 hF_q_13 hK_q_13 mN_q_13 mF_q_13 mU_q_13 p0_q_13 p1_q_13 p2_q_13 p3_q_13 p4_q_13 p5_q_13 p6_q_13 p7_q_13 p8_q_13 p9_q_13 p10_q_13 p11_q_13 p12_q_13 x_27 x_28 x_29 x_30 x_31 hn
      exact absurd hn (Nat.not_lt_zero _)
    | succ n ih_34 =>
      intro v_12 q_13 hV_q_13 hF_q_13 hK_q_13 mN_q_13 mF_q_13 mU_q_13 p0_q_13 p1_q_13 p2_q_13 p3_q_13 p4_q_13 p5_q_13 p6_q_13 p7_q_13 p8_q_13 p9_q_13 p10_q_13 p11_q_13 p12_q_13 x_27 x_28 x_29 x_30 x_31 hn
      have y_33 : (q_13.1 a0 4).toInt = (q_10.1 a0 4).toInt := by rw [p3_q_13]
      refine wa_aload_n B dX12_systems_20 rfl 1 rfl ?_
      obtain ⟨A9, hT, hC⟩ := x_31
      have hpl := hT.1
      refine wa_gets0 B (by decide +kernel) dX12_systems_21 ?_
      refine wa_callVi B (x := (RX12, TX12, 51)) (As := [.long 286303963]) (rest := []) (k_X12_isKey_c l dC dI h L hN q_13 hV_q_13 (a0 := a0) ha0 ka0 286303963  ) (cwV 1 B.1.2.2.2.2 gX12_systems_X12_isKey rfl rfl rfl (by decide +kernel) ⟨Nat.le_of_ble_eq_true rfl, Nat.le_of_ble_eq_true rfl⟩) ha0 ka0 (by decide) rfl rfl rfl (Nat.le_of_ble_eq_true rfl) dX12_systems_24 (fun r_36 q_35 w_37 => ?_)
      obtain ⟨ew_37, hw_37⟩ := w_37
      subst ew_37
      refine wa_if_ne B 43 dX12_systems_27 (by decide) (fun (t_38 : ¬ r_36.toInt = 0) => ?_) (fun (t_38 : r_36.toInt = 0) => ?_)
      · refine wa_iload_n B dX12_systems_43 rfl 0 rfl ?_
        refine wa_iconst B 3 dX12_systems_44 (by decide) ?_
        refine wa_icmp_ne B 61 dX12_systems_45 (by decide) (fun (t_39 : ¬ v_12.toInt = 3) => ?_) (fun (t_39 : v_12.toInt = 3) => ?_)
        · have y9 := rr_key hC hT ⟨((hw_37.resolve_right (fun y => absurd y.1 (by omega))).2).1, ((hw_37.resolve_right (fun y => absurd y.1 (by omega))).2).2, by omega⟩
          refine wa_aload_n B dX12_systems_61 rfl 1 rfl ?_
          have y_40 : (q_13.1 a0 5).toInt = (q_10.1 a0 5).toInt := by rw [p4_q_13]
          have y_41 : (q_13.1 a0 4).toInt = (q_10.1 a0 4).toInt := by rw [p3_q_13]
          have y_42 : (q_13.1 a0 10).toInt = (q_10.1 a0 10).toInt := by rw [p2_q_13]
          refine wa_callVv B (x := (RX12, TX12, 51)) (As := []) (rest := []) (k_X12_go_c l dC dI h L hN q_13 hV_q_13 (a0 := a0) ha0 ka0 (m3 := m3) p6_q_13 F n9 (by first | assumption | omega | decide) (fun j hj => by rw [p12_q_13]; exact hw_11.2.2.2.2.2.1 j hj) (by first | assumption | omega | decide) (by first | assumption | omega | decide) (by first | assumption | omega | decide)) (cwV 0 B.1.2.2.2.2 gX12_systems_X12_go rfl rfl rfl (by decide +kernel) ⟨Nat.le_of_ble_eq_true rfl, Nat.le_of_ble_eq_true rfl⟩) ha0 ka0 (by decide) rfl rfl rfl (Nat.le_of_ble_eq_true rfl) dX12_systems_62 (fun q_43 w_44 => ?_)
          obtain ⟨hV_q_43, h2_q_43, h3_q_43, mN_q_43, hw_44⟩ := w_44
          have hF_q_43 : sx_fr h L (fun a => h.1 a = 12 ∨ h.1 a = 113 ∨ h.1 a = 226 ∨ h.1 a = 227 ∨ h.1 a = 128 ∨ h.1 a = 129) q q_43 := hF_q_13.tr (h2_q_43.mono (fun a (z : h.1 a = 12) => ((fun z => (Or.inl z)) z)))
          have hK_q_43 : sx_kf a0 [0, 14, 15, 2, 4, 5, 10, 20, 31, 49, 50, 6, 7, 8, 9, 11, 12, 13] q q_43 := hK_q_13.tr (h3_q_43.mono (by decide))
          have mF_q_43 : mv_F m18 m19 q_43 := mv_F.eq (h2_q_43.G hm18 (show ¬ (h.1 m18 = 12) from (fun z => absurd (z.symm.trans km18) (by decide))) (by rw [km18]; decide)) (h2_q_43.G hm19 (show ¬ (h.1 m19 = 12) from (fun z => absurd (z.symm.trans km19) (by decide))) (by rw [km19]; decide)) mF_q_13
          have mU_q_43 : mv_U m17 q_43 := mv_U.eq (h2_q_43.Lg hm17 (show ¬ (h.1 m17 = 12) from (fun z => absurd (z.symm.trans km17) (by decide))) (by rw [km17]; decide)) mU_q_13
          rw [show (q_13.1 a0 6).toInt.toNat = pz_E F n9 A9 from (by omega)] at hw_44
          obtain ⟨hT20, hT2⟩ := hw_44
          refine wa_aload_n B dX12_systems_65 rfl 1 rfl ?_
          refine wa_iload_n B dX12_systems_66 rfl 0 rfl ?_
          have z_45 : q_43.2.2.1 a0 3 = m3 := (h2_q_43.R ha0 (fun z9 => absurd z9.2 (by omega)) 3).trans (p6_q_13)
          have z_46 : q_43.2.2.1 a0 16 = m16 := (h2_q_43.R ha0 (fun z9 => absurd z9.2 (by omega)) 16).trans (p7_q_13)
          have z_47 : q_43.2.2.1 a0 17 = m17 := (h2_q_43.R ha0 (fun z9 => absurd z9.2 (by omega)) 17).trans (p8_q_13)
          have z_48 : q_43.2.2.1 a0 18 = m18 := (h2_q_43.R ha0 (fun z9 => absurd z9.2 (by omega)) 18).trans (p9_q_13)
          have z_49 : q_43.2.2.1 a0 19 = m19 := (h2_q_43.R ha0 (fun z9 => absurd z9.2 (by omega)) 19).trans (p10_q_13)
          have z_50 : q_43.1 a0 10 = (q_10.1 a0 10) := (h3_q_43.1 10 (by decide)).trans (p2_q_13)
          have y_51 : (q_43.1 a0 10).toInt = (q_10.1 a0 10).toInt := by rw [z_50]
          have z_52 : q_43.1 a0 5 = (q_10.1 a0 5) := (h3_q_43.1 5 (by decide)).trans (p4_q_13)
          have y_53 : (q_43.1 a0 5).toInt = (q_10.1 a0 5).toInt := by rw [z_52]
          have z_54 : q_43.1 a0 4 = (q_10.1 a0 4) := (h3_q_43.1 4 (by decide)).trans (p3_q_13)
          have y_55 : (q_43.1 a0 4).toInt = (q_10.1 a0 4).toInt := by rw [z_54]
          have z_56 : q_43.2.2.2.1 m3 = (q_10.2.2.2.1 m3) := (h2_q_43.G hm3 (show ¬ (h.1 m3 = 12) from (fun z => absurd (z.symm.trans km3) (by decide))) (by rw [km3]; decide)).trans (p12_q_13)
          have z_57 : q_43.2.2.2.2 m16 = q_13.2.2.2.2 m16 := h2_q_43.Lg hm16 (show ¬ (h.1 m16 = 12) from (fun z => absurd (z.symm.trans km16) (by decide))) (by rw [km16]; decide)
          have z_58 : q_43.2.2.2.2 m17 = q_13.2.2.2.2 m17 := h2_q_43.Lg hm17 (show ¬ (h.1 m17 = 12) from (fun z => absurd (z.symm.trans km17) (by decide))) (by rw [km17]; decide)
          have z_59 : q_43.2.2.2.1 m18 = q_13.2.2.2.1 m18 := h2_q_43.G hm18 (show ¬ (h.1 m18 = 12) from (fun z => absurd (z.symm.trans km18) (by decide))) (by rw [km18]; decide)
          have z_60 : q_43.2.2.2.1 m19 = q_13.2.2.2.1 m19 := h2_q_43.G hm19 (show ¬ (h.1 m19 = 12) from (fun z => absurd (z.symm.trans km19) (by decide))) (by rw [km19]; decide)
          refine wa_callVi B (x := (RX12, TX12, 51)) (As := [.int v_12]) (rest := []) (k_X12_readSystem_c l dC dI h L hN q_43 hV_q_43 (a0 := a0) ha0 ka0 v_12 (m3 := m3) z_45 (m16 := m16) z_46 (m17 := m17) z_47 (m18 := m18) z_48 (m19 := m19) z_49 mN_q_43 mF_q_43 mU_q_43 F n9 R9 (by first | assumption | omega | decide) (by first | assumption | omega | decide) (by first | assumption | omega | decide) (fun j hj => by rw [z_56]; exact hw_11.2.2.2.2.2.1 j hj) (by first | assumption | omega | decide) (by first | assumption | omega | decide) (by first | assumption | omega | decide) (by rw [z_57, z_58, z_59, z_60]; exact ⟨_, hT2, y9.2⟩)) (cwV 1 B.1.2.2.2.2 gX12_systems_X12_readSystem rfl rfl rfl (by decide +kernel) ⟨Nat.le_of_ble_eq_true rfl, Nat.le_of_ble_eq_true rfl⟩) ha0 ka0 (by decide) rfl rfl rfl (Nat.le_of_ble_eq_true rfl) dX12_systems_67 (fun r_62 q_61 w_63 => ?_)
          obtain ⟨hV_q_61, h2_q_61, h3_q_61, mN_q_61, mF_q_61, mU_q_61, hw_63⟩ := w_63
          have hF_q_61 : sx_fr h L (fun a => h.1 a = 12 ∨ h.1 a = 113 ∨ h.1 a = 226 ∨ h.1 a = 227 ∨ h.1 a = 128 ∨ h.1 a = 129) q q_61 := hF_q_43.tr (h2_q_61.mono (fun a (z : h.1 a = 12 ∨ h.1 a = 226 ∨ h.1 a = 227 ∨ h.1 a = 128 ∨ h.1 a = 129) => ((fun z => z.elim (fun z => (Or.inl z)) (fun z => z.elim (fun z => (Or.inr (Or.inr (Or.inl z)))) (fun z => z.elim (fun z => (Or.inr (Or.inr (Or.inr (Or.inl z))))) (fun z => z.elim (fun z => (Or.inr (Or.inr (Or.inr (Or.inr (Or.inl z)))))) (fun z => (Or.inr (Or.inr (Or.inr (Or.inr (Or.inr z)))))))))) z)))
          have hK_q_61 : sx_kf a0 [0, 14, 15, 2, 4, 5, 10, 20, 31, 49, 50, 6, 7, 8, 9, 11, 12, 13] q q_61 := hK_q_43.tr (h3_q_61.mono (by decide))
          have z_64 : q_61.1 a0 4 = (q_10.1 a0 4) := (h3_q_61.1 4 (by decide)).trans (z_54)
          refine wa_if_ne B 80 dX12_systems_70 (by decide) (fun (t_65 : ¬ r_62.toInt = 0) => ?_) (fun (t_65 : r_62.toInt = 0) => ?_)
          · obtain ⟨v_66, ev_66⟩ : ∃ z : Int32, z = v_12 + 1 := ⟨_, rfl⟩
            refine wa_iinc B [(1, .int v_66), (0, .ref a0)] v_66 dX12_systems_80 0 rfl (by rw [ev_66]; rfl) (by decide) rfl ?_
            refine wa_aload_n B dX12_systems_83 rfl 1 rfl ?_
            refine wa_getI B (C := RX12) (T := TX12) (N := 51) iq_X12_systems_X12 ha0 ka0 (by decide) rfl 8 (by decide) (by decide) (by decide +kernel) rfl (by decide) (v := (q_61.1 a0 8)) rfl dX12_systems_84 ?_
            refine wa_if_ne B 20 dX12_systems_87 (by decide) (fun (t_67 : ¬ (q_61.1 a0 8).toInt = 0) => ?_) (fun (t_67 : (q_61.1 a0 8).toInt = 0) => ?_)
            · have tv_66 : v_66.toInt = v_12.toInt + 1 := by have b0 := zx_bd v_12; rw [ev_66]; exact zx_add (show (-2147483648 : Int) ≤ v_12.toInt + 1 by omega) (show v_12.toInt + 1 < (2147483648 : Int) by omega)
              have y_68 : (q_61.1 a0 4).toInt = (q_10.1 a0 4).toInt := by rw [z_64]
              have z_69 : q_61.1 a0 2 = (q_10.1 a0 2) := (h3_q_61.1 2 (by decide)).trans ((h3_q_43.1 2 (by decide)).trans (p0_q_13))
              have z_70 : q_61.1 a0 0 = 0 := (h3_q_61.1 0 (by decide)).trans ((h3_q_43.1 0 (by decide)).trans (p1_q_13))
              have z_71 : q_61.1 a0 10 = (q_10.1 a0 10) := (h3_q_61.1 10 (by decide)).trans (z_50)
              have z_72 : q_61.1 a0 5 = (q_10.1 a0 5) := (h3_q_61.1 5 (by decide)).trans (z_52)
              have z_73 : q_61.2.2.1 a0 1 = m1 := (h2_q_61.R ha0 (fun z9 => absurd z9.2 (by omega)) 1).trans ((h2_q_43.R ha0 (fun z9 => absurd z9.2 (by omega)) 1).trans (p5_q_13))
              have z_74 : q_61.2.2.1 a0 3 = m3 := (h2_q_61.R ha0 (fun z9 => absurd z9.2 (by omega)) 3).trans (z_45)
              have z_75 : q_61.2.2.1 a0 16 = m16 := (h2_q_61.R ha0 (fun z9 => absurd z9.2 (by omega)) 16).trans (z_46)
              have z_76 : q_61.2.2.1 a0 17 = m17 := (h2_q_61.R ha0 (fun z9 => absurd z9.2 (by omega)) 17).trans (z_47)
              have z_77 : q_61.2.2.1 a0 18 = m18 := (h2_q_61.R ha0 (fun z9 => absurd z9.2 (by omega)) 18).trans (z_48)
              have z_78 : q_61.2.2.1 a0 19 = m19 := (h2_q_61.R ha0 (fun z9 => absurd z9.2 (by omega)) 19).trans (z_49)
              have z_79 : q_61.2.2.2.1 m1 = (q.2.2.2.1 m1) := (h2_q_61.G hm1 (show ¬ (h.1 m1 = 12 ∨ h.1 m1 = 226 ∨ h.1 m1 = 227 ∨ h.1 m1 = 128 ∨ h.1 m1 = 129) from (fun z => z.elim (fun z => absurd (z.symm.trans km1) (by decide)) (fun z => z.elim (fun z => absurd (z.symm.trans km1) (by decide)) (fun z => z.elim (fun z => absurd (z.symm.trans km1) (by decide)) (fun z => z.elim (fun z => absurd (z.symm.trans km1) (by decide)) (fun z => absurd (z.symm.trans km1) (by decide))))))) (by rw [km1]; decide)).trans ((h2_q_43.G hm1 (show ¬ (h.1 m1 = 12) from (fun z => absurd (z.symm.trans km1) (by decide))) (by rw [km1]; decide)).trans (p11_q_13))
              have z_80 : q_61.2.2.2.1 m3 = (q_10.2.2.2.1 m3) := (h2_q_61.G hm3 (show ¬ (h.1 m3 = 12 ∨ h.1 m3 = 226 ∨ h.1 m3 = 227 ∨ h.1 m3 = 128 ∨ h.1 m3 = 129) from (fun z => z.elim (fun z => absurd (z.symm.trans km3) (by decide)) (fun z => z.elim (fun z => absurd (z.symm.trans km3) (by decide)) (fun z => z.elim (fun z => absurd (z.symm.trans km3) (by decide)) (fun z => z.elim (fun z => absurd (z.symm.trans km3) (by decide)) (fun z => absurd (z.symm.trans km3) (by decide))))))) (by rw [km3]; decide)).trans (z_56)
              exact ih_34 v_66 q_61 hV_q_61 hF_q_61 hK_q_61 mN_q_61 mF_q_61 mU_q_61 z_69 z_70 z_71 z_64 z_72 z_73 z_74 z_75 z_76 z_77 z_78 z_79 z_80 (show 0 ≤ v_66.toInt from by first | assumption | omega | decide) (show v_66.toInt ≤ 3 from by first | assumption | omega | decide) (show (q_61.1 a0 6).toInt ≤ (q_61.1 a0 4).toInt from by have y7 := (hw_63.resolve_left (fun y => absurd y.1 (by omega))).2.1; omega) (show v_66.toInt = 0 ∨ ¬ (q_61.1 a0 8).toInt = 0 from by first | assumption | omega | decide) (show rs_P F n9 R9 0 (v_66).toInt.toNat (q_61.1 a0 8) (q_61.1 a0 9) (q_61.1 a0 7) (q_61.1 a0 6) (q_61.1 a0 12) (q_61.1 a0 13) (q_61.2.1 a0 11) (q_61.2.2.2.2 m16) (q_61.2.2.2.2 m17) (q_61.2.2.2.1 m18) (q_61.2.2.2.1 m19) from by have y7 := (hw_63.resolve_left (fun y => absurd y.1 (by omega))).2.2; rw [show (v_66 : Int32).toInt.toNat = (v_12 : Int32).toInt.toNat + 1 by omega]; exact y7) (show (4 - v_66.toInt : Int).toNat < _ from by omega)
            · have tv_66 : v_66.toInt = v_12.toInt + 1 := by have b0 := zx_bd v_12; rw [ev_66]; exact zx_add (show (-2147483648 : Int) ≤ v_12.toInt + 1 by omega) (show v_12.toInt + 1 < (2147483648 : Int) by omega)
              have hD : R9.1 = none ∧ R9.2.1 = (v_66 : Int32).toInt.toNat := by obtain ⟨A7, hT7, hC7⟩ := (hw_63.resolve_left (fun y => absurd y.1 (by omega))).2.2; have y6 := rr_done hC7 hT7 (by omega) (by omega); exact ⟨y6.1, y6.2.1.trans (by omega)⟩
              refine wa_aload_n B dX12_systems_90 rfl 1 rfl ?_
              refine wa_iload_n B dX12_systems_91 rfl 0 rfl ?_
              refine wa_putI B (C := RX12) (T := TX12) (N := 51) iq_X12_systems_X12 ha0 ka0 (by decide) rfl 20 (by decide) (by decide) (by decide +kernel) rfl (by decide) (v := v_66) (ty := .int) tyX12 tyX12_ok nmX12 rfl (by decide +kernel) rfl rfl dX12_systems_92 (fun q_81 eq_81 => ?_)
              have hV_q_81 : sx_V h L q_81 := by rw [eq_81]; exact hV_q_61.pI ka0 (show sx_in v_66 (0) 3 from ⟨by omega, by omega⟩)
              have hF_q_81 : sx_fr h L (fun a => h.1 a = 12 ∨ h.1 a = 113 ∨ h.1 a = 226 ∨ h.1 a = 227 ∨ h.1 a = 128 ∨ h.1 a = 129) q q_81 := hF_q_61.tr (by rw [eq_81]; exact sx_fr.pI (show h.1 a0 = 12 ∨ h.1 a0 = 113 ∨ h.1 a0 = 226 ∨ h.1 a0 = 227 ∨ h.1 a0 = 128 ∨ h.1 a0 = 129 from (Or.inl ka0)))
              have z_82 : q_81.1 a0 20 = v_66 := by rw [eq_81]; exact sg_pI_e
              have hK_q_81 : sx_kf a0 [0, 14, 15, 2, 4, 5, 10, 20, 31, 49, 50, 6, 7, 8, 9, 11, 12, 13] q q_81 := hK_q_61.tr (by rw [eq_81]; exact sx_kf.pI (by decide))
              have mN_q_81 : mv_N a0 q_81 := mv_N.eq ((show q_81.1 a0 8 = q_61.1 a0 8 from by rw [eq_81]; exact sg_pI_k (by decide))) ((show q_81.2.1 a0 11 = q_61.2.1 a0 11 from by rw [eq_81]; rfl)) mN_q_61
              have mF_q_81 : mv_F m18 m19 q_81 := mv_F.eq ((show q_81.2.2.2.1 m18 = q_61.2.2.2.1 m18 from by rw [eq_81]; rfl)) ((show q_81.2.2.2.1 m19 = q_61.2.2.2.1 m19 from by rw [eq_81]; rfl)) mF_q_61
              have mU_q_81 : mv_U m17 q_81 := mv_U.eq ((show q_81.2.2.2.2 m17 = q_61.2.2.2.2 m17 from by rw [eq_81]; rfl)) mU_q_61
              refine wa_iconst B 0 dX12_systems_95 (by decide) ?_
              refine wa_istore_n B [(2, .int 0), (1, .int v_66), (0, .ref a0)] dX12_systems_96 rfl (by decide) rfl ?_
              have z_85 : q_81.1 a0 2 = (q_10.1 a0 2) := ((show q_81.1 a0 2 = q_61.1 a0 2 from by rw [eq_81]; exact sg_pI_k (by decide))).trans ((h3_q_61.1 2 (by decide)).trans ((h3_q_43.1 2 (by decide)).trans (p0_q_13)))
              have z_86 : q_81.1 a0 0 = 0 := ((show q_81.1 a0 0 = q_61.1 a0 0 from by rw [eq_81]; exact sg_pI_k (by decide))).trans ((h3_q_61.1 0 (by decide)).trans ((h3_q_43.1 0 (by decide)).trans (p1_q_13)))
              have z_87 : q_81.1 a0 10 = (q_10.1 a0 10) := ((show q_81.1 a0 10 = q_61.1 a0 10 from by rw [eq_81]; exact sg_pI_k (by decide))).trans ((h3_q_61.1 10 (by decide)).trans (z_50))
              have z_88 : q_81.1 a0 4 = (q_10.1 a0 4) := ((show q_81.1 a0 4 = q_61.1 a0 4 from by rw [eq_81]; exact sg_pI_k (by decide))).trans (z_64)
              have z_89 : q_81.1 a0 5 = (q_10.1 a0 5) := ((show q_81.1 a0 5 = q_61.1 a0 5 from by rw [eq_81]; exact sg_pI_k (by decide))).trans ((h3_q_61.1 5 (by decide)).trans (z_52))
              have z_90 : q_81.1 a0 6 = q_61.1 a0 6 := (show q_81.1 a0 6 = q_61.1 a0 6 from by rw [eq_81]; exact sg_pI_k (by decide))
              have z_91 : q_81.1 a0 8 = q_61.1 a0 8 := (show q_81.1 a0 8 = q_61.1 a0 8 from by rw [eq_81]; exact sg_pI_k (by decide))
              have z_92 : q_81.1 a0 7 = q_61.1 a0 7 := (show q_81.1 a0 7 = q_61.1 a0 7 from by rw [eq_81]; exact sg_pI_k (by decide))
              have z_93 : q_81.1 a0 12 = q_61.1 a0 12 := (show q_81.1 a0 12 = q_61.1 a0 12 from by rw [eq_81]; exact sg_pI_k (by decide))
              have z_94 : q_81.1 a0 13 = q_61.1 a0 13 := (show q_81.1 a0 13 = q_61.1 a0 13 from by rw [eq_81]; exact sg_pI_k (by decide))
              have z_95 : q_81.1 a0 9 = q_61.1 a0 9 := (show q_81.1 a0 9 = q_61.1 a0 9 from by rw [eq_81]; exact sg_pI_k (by decide))
              have z_96 : q_81.1 a0 15 = q_61.1 a0 15 := (show q_81.1 a0 15 = q_61.1 a0 15 from by rw [eq_81]; exact sg_pI_k (by decide))
              have z_97 : q_81.2.2.1 a0 1 = m1 := ((show q_81.2.2.1 a0 1 = q_61.2.2.1 a0 1 from by rw [eq_81]; rfl)).trans ((h2_q_61.R ha0 (fun z9 => absurd z9.2 (by omega)) 1).trans ((h2_q_43.R ha0 (fun z9 => absurd z9.2 (by omega)) 1).trans (p5_q_13)))
              have z_98 : q_81.2.2.1 a0 3 = m3 := ((show q_81.2.2.1 a0 3 = q_61.2.2.1 a0 3 from by rw [eq_81]; rfl)).trans ((h2_q_61.R ha0 (fun z9 => absurd z9.2 (by omega)) 3).trans (z_45))
              have z_99 : q_81.2.2.1 a0 16 = m16 := ((show q_81.2.2.1 a0 16 = q_61.2.2.1 a0 16 from by rw [eq_81]; rfl)).trans ((h2_q_61.R ha0 (fun z9 => absurd z9.2 (by omega)) 16).trans (z_46))
              have z_100 : q_81.2.2.1 a0 17 = m17 := ((show q_81.2.2.1 a0 17 = q_61.2.2.1 a0 17 from by rw [eq_81]; rfl)).trans ((h2_q_61.R ha0 (fun z9 => absurd z9.2 (by omega)) 17).trans (z_47))
              have z_101 : q_81.2.2.1 a0 18 = m18 := ((show q_81.2.2.1 a0 18 = q_61.2.2.1 a0 18 from by rw [eq_81]; rfl)).trans ((h2_q_61.R ha0 (fun z9 => absurd z9.2 (by omega)) 18).trans (z_48))
              have z_102 : q_81.2.2.1 a0 19 = m19 := ((show q_81.2.2.1 a0 19 = q_61.2.2.1 a0 19 from by rw [eq_81]; rfl)).trans ((h2_q_61.R ha0 (fun z9 => absurd z9.2 (by omega)) 19).trans (z_49))
              have z_103 : q_81.2.2.2.1 m1 = (q.2.2.2.1 m1) := ((show q_81.2.2.2.1 m1 = q_61.2.2.2.1 m1 from by rw [eq_81]; rfl)).trans ((h2_q_61.G hm1 (show ¬ (h.1 m1 = 12 ∨ h.1 m1 = 226 ∨ h.1 m1 = 227 ∨ h.1 m1 = 128 ∨ h.1 m1 = 129) from (fun z => z.elim (fun z => absurd (z.symm.trans km1) (by decide)) (fun z => z.elim (fun z => absurd (z.symm.trans km1) (by decide)) (fun z => z.elim (fun z => absurd (z.symm.trans km1) (by decide)) (fun z => z.elim (fun z => absurd (z.symm.trans km1) (by decide)) (fun z => absurd (z.symm.trans km1) (by decide))))))) (by rw [km1]; decide)).trans ((h2_q_43.G hm1 (show ¬ (h.1 m1 = 12) from (fun z => absurd (z.symm.trans km1) (by decide))) (by rw [km1]; decide)).trans (p11_q_13)))
              have z_104 : q_81.2.2.2.1 m3 = (q_10.2.2.2.1 m3) := ((show q_81.2.2.2.1 m3 = q_61.2.2.2.1 m3 from by rw [eq_81]; rfl)).trans ((h2_q_61.G hm3 (show ¬ (h.1 m3 = 12 ∨ h.1 m3 = 226 ∨ h.1 m3 = 227 ∨ h.1 m3 = 128 ∨ h.1 m3 = 129) from (fun z => z.elim (fun z => absurd (z.symm.trans km3) (by decide)) (fun z => z.elim (fun z => absurd (z.symm.trans km3) (by decide)) (fun z => z.elim (fun z => absurd (z.symm.trans km3) (by decide)) (fun z => z.elim (fun z => absurd (z.symm.trans km3) (by decide)) (fun z => absurd (z.symm.trans km3) (by decide))))))) (by rw [km3]; decide)).trans (z_56))
              have Lp_97_106 : ∀ (n : Nat) (v_83 : Int32) (q_84 : Sg), sx_V h L q_84 → sx_fr h L (fun a => h.1 a = 12 ∨ h.1 a = 113 ∨ h.1 a = 226 ∨ h.1 a = 227 ∨ h.1 a = 128 ∨ h.1 a = 129) q q_84 → sx_kf a0 [0, 14, 15, 2, 4, 5, 10, 20, 31, 49, 50, 6, 7, 8, 9, 11, 12, 13] q q_84 → mv_N a0 q_84 → mv_F m18 m19 q_84 → mv_U m17 q_84 → q_84.1 a0 2 = (q_10.1 a0 2) → q_84.1 a0 0 = 0 → q_84.1 a0 10 = (q_10.1 a0 10) → q_84.1 a0 4 = (q_10.1 a0 4) → q_84.1 a0 5 = (q_10.1 a0 5) → q_84.1 a0 6 = (q_61.1 a0 6) → q_84.1 a0 8 = (q_61.1 a0 8) → q_84.1 a0 7 = (q_61.1 a0 7) → q_84.1 a0 12 = (q_61.1 a0 12) → q_84.1 a0 13 = (q_61.1 a0 13) → q_84.1 a0 9 = (q_61.1 a0 9) → q_84.1 a0 15 = (q_61.1 a0 15) → q_84.1 a0 20 = v_66 → q_84.2.2.1 a0 1 = m1 → q_84.2.2.1 a0 3 = m3 → q_84.2.2.1 a0 16 = m16 → q_84.2.2.1 a0 17 = m17 → q_84.2.2.1 a0 18 = m18 → q_84.2.2.1 a0 19 = m19 → q_84.2.1 a0 11 = (q_81.2.1 a0 11) → 0 ≤ v_83.toInt → (v_66.toInt - v_83.toInt : Int).toNat < n → WA l dC dI h L ({ frames := 5, cells := 0, slots := 0, locals := 110 } : Room) 4 Z q_84 97 [(2, .int v_83), (1, .int v_66), (0, .ref a0)] [] := by
                intro n
                induction n with
                | zero =>
                  intro v_83 q_84 hV_q_84 hF_q_84 hK_q_84 mN_q_84 mF_q_84 mU_q_84 p0_q_84 p1_q_84 p2_q_84 p3_q_84 p4_q_84 p5_q_84 p6_q_84 p7_q_84 p8_q_84 p9_q_84 p10_q_84 p11_q_84 p12_q_84 p13_q_84 p14_q_84 p15_q_84 p16_q_84 p17_q_84 p18_q_84 p19_q_84 x_105 hn
                  exact absurd hn (Nat.not_lt_zero _)
                | succ n ih_107 =>
                  intro v_83 q_84 hV_q_84 hF_q_84 hK_q_84 mN_q_84 mF_q_84 mU_q_84 p0_q_84 p1_q_84 p2_q_84 p3_q_84 p4_q_84 p5_q_84 p6_q_84 p7_q_84 p8_q_84 p9_q_84 p10_q_84 p11_q_84 p12_q_84 p13_q_84 p14_q_84 p15_q_84 p16_q_84 p17_q_84 p18_q_84 p19_q_84 x_105 hn
                  refine wa_iload_n B dX12_systems_97 rfl 0 rfl ?_
                  refine wa_iload_n B dX12_systems_98 rfl 1 rfl ?_
                  refine wa_icmp_ge B 179 dX12_systems_99 (by decide) (fun (t_108 : v_66.toInt ≤ v_83.toInt) => ?_) (fun (t_108 : ¬ v_66.toInt ≤ v_83.toInt) => ?_)
                  · refine wa_aload_n B dX12_systems_179 rfl 2 rfl ?_
                    refine wa_iconst B 0 dX12_systems_180 (by decide) ?_
                    refine wa_putI B (C := RX12) (T := TX12) (N := 51) iq_X12_systems_X12 ha0 ka0 (by decide) rfl 31 (by decide) (by decide) (by decide +kernel) rfl (by decide) (v := 0) (ty := .int) tyX12 tyX12_ok nmX12 rfl (by decide +kernel) rfl rfl dX12_systems_181 (fun q_109 eq_109 => ?_)
                    have hV_q_109 : sx_V h L q_109 := by rw [eq_109]; exact hV_q_84.pI ka0 (show sx_in 0 (0) 8 from ⟨by decide, by decide⟩)
                    have hF_q_109 : sx_fr h L (fun a => h.1 a = 12 ∨ h.1 a = 113 ∨ h.1 a = 226 ∨ h.1 a = 227 ∨ h.1 a = 128 ∨ h.1 a = 129) q q_109 := hF_q_84.tr (by rw [eq_109]; exact sx_fr.pI (show h.1 a0 = 12 ∨ h.1 a0 = 113 ∨ h.1 a0 = 226 ∨ h.1 a0 = 227 ∨ h.1 a0 = 128 ∨ h.1 a0 = 129 from (Or.inl ka0)))
                    have z_110 : q_109.1 a0 31 = 0 := by rw [eq_109]; exact sg_pI_e
                    have hK_q_109 : sx_kf a0 [0, 14, 15, 2, 4, 5, 10, 20, 31, 49, 50, 6, 7, 8, 9, 11, 12, 13] q q_109 := hK_q_84.tr (by rw [eq_109]; exact sx_kf.pI (by decide))
                    have mN_q_109 : mv_N a0 q_109 := mv_N.eq ((show q_109.1 a0 8 = q_84.1 a0 8 from by rw [eq_109]; exact sg_pI_k (by decide))) ((show q_109.2.1 a0 11 = q_84.2.1 a0 11 from by rw [eq_109]; rfl)) mN_q_84
                    have mF_q_109 : mv_F m18 m19 q_109 := mv_F.eq ((show q_109.2.2.2.1 m18 = q_84.2.2.2.1 m18 from by rw [eq_109]; rfl)) ((show q_109.2.2.2.1 m19 = q_84.2.2.2.1 m19 from by rw [eq_109]; rfl)) mF_q_84
                    have mU_q_109 : mv_U m17 q_109 := mv_U.eq ((show q_109.2.2.2.2 m17 = q_84.2.2.2.2 m17 from by rw [eq_109]; rfl)) mU_q_84
                    refine wa_aload_n B dX12_systems_184 rfl 2 rfl ?_
                    refine wa_callVv B (x := (RX12, TX12, 51)) (As := []) (rest := []) (k_X12_forget l dC dI h L hN q_109 hV_q_109 (a0 := a0) ha0 ka0  ) (cwV 0 B.1.2.2.2.2 gX12_systems_X12_forget rfl rfl rfl (by decide +kernel) ⟨Nat.le_of_ble_eq_true rfl, Nat.le_of_ble_eq_true rfl⟩) ha0 ka0 (by decide) rfl rfl rfl (Nat.le_of_ble_eq_true rfl) dX12_systems_185 (fun q_111 w_112 => ?_)
                    obtain ⟨hV_q_111, h2_q_111, h3_q_111⟩ := w_112
                    have hF_q_111 : sx_fr h L (fun a => h.1 a = 12 ∨ h.1 a = 113 ∨ h.1 a = 226 ∨ h.1 a = 227 ∨ h.1 a = 128 ∨ h.1 a = 129) q q_111 := hF_q_109.tr (h2_q_111.mono (fun a (z : h.1 a = 12) => ((fun z => (Or.inl z)) z)))
                    have hK_q_111 : sx_kf a0 [0, 14, 15, 2, 4, 5, 10, 20, 31, 49, 50, 6, 7, 8, 9, 11, 12, 13] q q_111 := hK_q_109.tr (h3_q_111.mono (by decide))
                    have mN_q_111 : mv_N a0 q_111 := mv_N.eq (h3_q_111.1 8 (by decide)) (h3_q_111.2 11 (by decide)) mN_q_109
                    have mF_q_111 : mv_F m18 m19 q_111 := mv_F.eq (h2_q_111.G hm18 (show ¬ (h.1 m18 = 12) from (fun z => absurd (z.symm.trans km18) (by decide))) (by rw [km18]; decide)) (h2_q_111.G hm19 (show ¬ (h.1 m19 = 12) from (fun z => absurd (z.symm.trans km19) (by decide))) (by rw [km19]; decide)) mF_q_109
                    have mU_q_111 : mv_U m17 q_111 := mv_U.eq (h2_q_111.Lg hm17 (show ¬ (h.1 m17 = 12) from (fun z => absurd (z.symm.trans km17) (by decide))) (by rw [km17]; decide)) mU_q_109
                    refine wa_iload_n B dX12_systems_188 rfl 1 rfl ?_
                    have z_113 : q_111.1 a0 2 = (q_10.1 a0 2) := (h3_q_111.1 2 (by decide)).trans (((show q_109.1 a0 2 = q_84.1 a0 2 from by rw [eq_109]; exact sg_pI_k (by decide))).trans (p0_q_84))
                    have y_114 : (q_111.1 a0 2).toInt = (q_10.1 a0 2).toInt := by rw [z_113]
                    have z_115 : q_111.1 a0 15 = (q_61.1 a0 15) := (h3_q_111.1 15 (by decide)).trans (((show q_109.1 a0 15 = q_84.1 a0 15 from by rw [eq_109]; exact sg_pI_k (by decide))).trans (p11_q_84))
                    have y_116 : (q_111.1 a0 15).toInt = (q_61.1 a0 15).toInt := by rw [z_115]
                    have y_117 : (q_111.1 a0 2).toInt = (q_10.1 a0 2).toInt := by rw [z_113]
                    have z_118 : q_111.1 a0 7 = (q_61.1 a0 7) := (h3_q_111.1 7 (by decide)).trans (((show q_109.1 a0 7 = q_84.1 a0 7 from by rw [eq_109]; exact sg_pI_k (by decide))).trans (p7_q_84))
                    have y_119 : (q_111.1 a0 7).toInt = (q_61.1 a0 7).toInt := by rw [z_118]
                    exact hret _ _ _ _ dX12_systems_189 ⟨hV_q_111, hF_q_111, hK_q_111, mN_q_111, mF_q_111, mU_q_111, ⟨by omega, Or.inr ⟨hD.1, by rw [hD.2]; omega⟩⟩⟩
                  · refine wa_aload_n B dX12_systems_102 rfl 2 rfl ?_
                    refine wa_getR B (C := RX12) (T := TX12) (N := 51) iq_X12_systems_X12 ha0 ka0 (by decide) rfl 18 (by decide) (by decide) (by decide +kernel) rfl (fun _ _ _ => rfl) (v := m18) p17_q_84 dX12_systems_103 ?_
                    refine wa_iload_n B dX12_systems_106 rfl 0 rfl ?_
                    refine wa_aload_n B dX12_systems_107 rfl 2 rfl ?_
                    refine wa_getR B (C := RX12) (T := TX12) (N := 51) iq_X12_systems_X12 ha0 ka0 (by decide) rfl 18 (by decide) (by decide) (by decide +kernel) rfl (fun _ _ _ => rfl) (v := m18) p17_q_84 dX12_systems_108 ?_
                    refine wa_iconst B 3 dX12_systems_111 (by decide) ?_
                    refine wa_iload_n B dX12_systems_112 rfl 0 rfl ?_
                    refine wa_iadd B dX12_systems_113 (fun v_120 ev_120 => ?_)
                    subst ev_120
                    have t_121 : (3 + v_83).toInt = 3 + v_83.toInt := by have b1 := zx_bd v_83; exact zx_add (show (-2147483648 : Int) ≤ 3 + v_83.toInt by omega) (show 3 + v_83.toInt < (2147483648 : Int) by omega)
                    refine wa_iaload B hm18 km18 (by decide) (by decide) (show 0 ≤ (3 + v_83).toInt by omega) (show (3 + v_83).toInt < (h.2.1 m18 : Int) by omega) (v := (q_84.2.2.2.1 m18 ((3 + v_83) : Int32).toNatClampNeg)) rfl dX12_systems_114 ?_
                    have g_122 : (0 : Int) ≤ ((q_84.2.2.2.1 m18 ((3 + v_83) : Int32).toNatClampNeg)).toInt ∧ ((q_84.2.2.2.1 m18 ((3 + v_83) : Int32).toNatClampNeg)).toInt ≤ 5 := hV_q_84.cnt hm18 km18 _
                    refine wa_iastore B hm18 km18 (by decide) (by decide) (show 0 ≤ v_83.toInt by omega) (show v_83.toInt < (h.2.1 m18 : Int) by omega) dX12_systems_115 (fun q_123 eq_123 => ?_)
                    have hV_q_123 : sx_V h L q_123 := by rw [eq_123]; exact hV_q_84.up1 hm18 km18 (show sx_in ((q_84.2.2.2.1 m18 ((3 + v_83) : Int32).toNatClampNeg)) (0) 5 from ⟨by omega, by omega⟩)
                    have hF_q_123 : sx_fr h L (fun a => h.1 a = 12 ∨ h.1 a = 113 ∨ h.1 a = 226 ∨ h.1 a = 227 ∨ h.1 a = 128 ∨ h.1 a = 129) q q_123 := hF_q_84.tr (by rw [eq_123]; exact sx_fr.pG (show h.1 m18 = 100 ∨ (h.1 m18 = 12 ∨ h.1 m18 = 113 ∨ h.1 m18 = 226 ∨ h.1 m18 = 227 ∨ h.1 m18 = 128 ∨ h.1 m18 = 129) from Or.inr (Or.inr (Or.inr (Or.inr (Or.inr (Or.inl km18)))))))
                    have z_124 : q_123.2.2.2.1 m18 = (upd (q_84.2.2.2.1 m18) (v_83 : Int32).toNatClampNeg ((q_84.2.2.2.1 m18 ((3 + v_83) : Int32).toNatClampNeg))) := by rw [eq_123, sg_pG_e]
                    have z_125 : q_123.2.2.2.1 m18 (v_83 : Int32).toNatClampNeg = (q_84.2.2.2.1 m18 ((3 + v_83) : Int32).toNatClampNeg) := by rw [eq_123, sg_pG_e]; exact if_pos rfl
                    have hK_q_123 : sx_kf a0 [0, 14, 15, 2, 4, 5, 10, 20, 31, 49, 50, 6, 7, 8, 9, 11, 12, 13] q q_123 := hK_q_84.tr (sx_kf.eq (by rw [eq_123]; rfl) (by rw [eq_123]; rfl))
                    have mN_q_123 : mv_N a0 q_123 := mv_N.eq ((show q_123.1 a0 8 = q_84.1 a0 8 from by rw [eq_123]; rfl)) ((show q_123.2.1 a0 11 = q_84.2.1 a0 11 from by rw [eq_123]; rfl)) mN_q_84
                    have mU_q_123 : mv_U m17 q_123 := mv_U.eq ((show q_123.2.2.2.2 m17 = q_84.2.2.2.2 m17 from by rw [eq_123]; rfl)) mU_q_84
                    refine wa_iconst B 0 dX12_systems_116 (by decide) ?_
                    refine wa_istore_n B [(3, .int 0), (2, .int v_83), (1, .int v_66), (0, .ref a0)] dX12_systems_117 rfl (by decide) rfl ?_
                    have z_128 : q_123.1 a0 2 = (q_10.1 a0 2) := ((show q_123.1 a0 2 = q_84.1 a0 2 from by rw [eq_123]; rfl)).trans (p0_q_84)
                    have z_129 : q_123.1 a0 0 = 0 := ((show q_123.1 a0 0 = q_84.1 a0 0 from by rw [eq_123]; rfl)).trans (p1_q_84)
                    have z_130 : q_123.1 a0 10 = (q_10.1 a0 10) := ((show q_123.1 a0 10 = q_84.1 a0 10 from by rw [eq_123]; rfl)).trans (p2_q_84)
                    have z_131 : q_123.1 a0 4 = (q_10.1 a0 4) := ((show q_123.1 a0 4 = q_84.1 a0 4 from by rw [eq_123]; rfl)).trans (p3_q_84)
                    have z_132 : q_123.1 a0 5 = (q_10.1 a0 5) := ((show q_123.1 a0 5 = q_84.1 a0 5 from by rw [eq_123]; rfl)).trans (p4_q_84)
                    have z_133 : q_123.1 a0 6 = (q_61.1 a0 6) := ((show q_123.1 a0 6 = q_84.1 a0 6 from by rw [eq_123]; rfl)).trans (p5_q_84)
                    have z_134 : q_123.1 a0 8 = (q_61.1 a0 8) := ((show q_123.1 a0 8 = q_84.1 a0 8 from by rw [eq_123]; rfl)).trans (p6_q_84)
                    have z_135 : q_123.1 a0 7 = (q_61.1 a0 7) := ((show q_123.1 a0 7 = q_84.1 a0 7 from by rw [eq_123]; rfl)).trans (p7_q_84)
                    have z_136 : q_123.1 a0 12 = (q_61.1 a0 12) := ((show q_123.1 a0 12 = q_84.1 a0 12 from by rw [eq_123]; rfl)).trans (p8_q_84)
                    have z_137 : q_123.1 a0 13 = (q_61.1 a0 13) := ((show q_123.1 a0 13 = q_84.1 a0 13 from by rw [eq_123]; rfl)).trans (p9_q_84)
                    have z_138 : q_123.1 a0 9 = (q_61.1 a0 9) := ((show q_123.1 a0 9 = q_84.1 a0 9 from by rw [eq_123]; rfl)).trans (p10_q_84)
                    have z_139 : q_123.1 a0 15 = (q_61.1 a0 15) := ((show q_123.1 a0 15 = q_84.1 a0 15 from by rw [eq_123]; rfl)).trans (p11_q_84)
                    have z_140 : q_123.1 a0 20 = v_66 := ((show q_123.1 a0 20 = q_84.1 a0 20 from by rw [eq_123]; rfl)).trans (p12_q_84)
                    have z_141 : q_123.2.2.1 a0 1 = m1 := ((show q_123.2.2.1 a0 1 = q_84.2.2.1 a0 1 from by rw [eq_123]; rfl)).trans (p13_q_84)
                    have z_142 : q_123.2.2.1 a0 3 = m3 := ((show q_123.2.2.1 a0 3 = q_84.2.2.1 a0 3 from by rw [eq_123]; rfl)).trans (p14_q_84)
                    have z_143 : q_123.2.2.1 a0 16 = m16 := ((show q_123.2.2.1 a0 16 = q_84.2.2.1 a0 16 from by rw [eq_123]; rfl)).trans (p15_q_84)
                    have z_144 : q_123.2.2.1 a0 17 = m17 := ((show q_123.2.2.1 a0 17 = q_84.2.2.1 a0 17 from by rw [eq_123]; rfl)).trans (p16_q_84)
                    have z_145 : q_123.2.2.1 a0 18 = m18 := ((show q_123.2.2.1 a0 18 = q_84.2.2.1 a0 18 from by rw [eq_123]; rfl)).trans (p17_q_84)
                    have z_146 : q_123.2.2.1 a0 19 = m19 := ((show q_123.2.2.1 a0 19 = q_84.2.2.1 a0 19 from by rw [eq_123]; rfl)).trans (p18_q_84)
                    have z_147 : q_123.2.1 a0 11 = (q_81.2.1 a0 11) := ((show q_123.2.1 a0 11 = q_84.2.1 a0 11 from by rw [eq_123]; rfl)).trans (p19_q_84)
                    have Lp_118_151 : ∀ (n : Nat) (v_126 : Int32) (q_127 : Sg), sx_V h L q_127 → sx_fr h L (fun a => h.1 a = 12 ∨ h.1 a = 113 ∨ h.1 a = 226 ∨ h.1 a = 227 ∨ h.1 a = 128 ∨ h.1 a = 129) q q_127 → sx_kf a0 [0, 14, 15, 2, 4, 5, 10, 20, 31, 49, 50, 6, 7, 8, 9, 11, 12, 13] q q_127 → mv_N a0 q_127 → mv_U m17 q_127 → q_127.1 a0 2 = (q_10.1 a0 2) → q_127.1 a0 0 = 0 → q_127.1 a0 10 = (q_10.1 a0 10) → q_127.1 a0 4 = (q_10.1 a0 4) → q_127.1 a0 5 = (q_10.1 a0 5) → q_127.1 a0 6 = (q_61.1 a0 6) → q_127.1 a0 8 = (q_61.1 a0 8) → q_127.1 a0 7 = (q_61.1 a0 7) → q_127.1 a0 12 = (q_61.1 a0 12) → q_127.1 a0 13 = (q_61.1 a0 13) → q_127.1 a0 9 = (q_61.1 a0 9) → q_127.1 a0 15 = (q_61.1 a0 15) → q_127.1 a0 20 = v_66 → q_127.2.2.1 a0 1 = m1 → q_127.2.2.1 a0 3 = m3 → q_127.2.2.1 a0 16 = m16 → q_127.2.2.1 a0 17 = m17 → q_127.2.2.1 a0 18 = m18 → q_127.2.2.1 a0 19 = m19 → q_127.2.1 a0 11 = (q_81.2.1 a0 11) → q_127.2.2.2.1 m18 = (upd (q_84.2.2.2.1 m18) (v_83 : Int32).toNatClampNeg ((q_84.2.2.2.1 m18 ((3 + v_83) : Int32).toNatClampNeg))) → 0 ≤ v_126.toInt → mv_p (q_127.2.2.2.1 m18) (q_127.2.2.2.1 m19) (v_83).toNatClampNeg (v_126).toNatClampNeg → (q_127.2.2.2.1 m18 (v_83).toNatClampNeg) = (q_127.2.2.2.1 m18 (3 + v_83).toNatClampNeg) → (5 - v_126.toInt : Int).toNat < n → WA l dC dI h L ({ frames := 5, cells := 0, slots := 0, locals := 110 } : Room) 4 Z q_127 118 [(3, .int v_126), (2, .int v_83), (1, .int v_66), (0, .ref a0)] [] := by
                      intro n
                      induction n with
                      | zero =>
                        intro v_126 q_127 hV_q_127 hF_q_127 hK_q_127 mN_q_127 mU_q_127 p0_q_127 p1_q_127 p2_q_127 p3_q_127 p4_q_127 p5_q_127 p6_q_127 p7_q_127 p8_q_127 p9_q_127 p10_q_127 p11_q_127 p12_q_127 p13_q_127 p14_q_127 p15_q_127 p16_q_127 p17_q_127 p18_q_127 p19_q_127 p20_q_127 x_148 x_149 x_150 hn
                        exact absurd hn (Nat.not_lt_zero _)
                      | succ n ih_152 =>
                        intro v_126 q_127 hV_q_127 hF_q_127 hK_q_127 mN_q_127 mU_q_127 p0_q_127 p1_q_127 p2_q_127 p3_q_127 p4_q_127 p5_q_127 p6_q_127 p7_q_127 p8_q_127 p9_q_127 p10_q_127 p11_q_127 p12_q_127 p13_q_127 p14_q_127 p15_q_127 p16_q_127 p17_q_127 p18_q_127 p19_q_127 p20_q_127 x_148 x_149 x_150 hn
                        refine wa_iload_n B dX12_systems_118 rfl 0 rfl ?_
                        refine wa_iconst B 5 dX12_systems_119 (by decide) ?_
                        refine wa_icmp_ge B 173 dX12_systems_120 (by decide) (fun (t_153 : 5 ≤ v_126.toInt) => ?_) (fun (t_153 : ¬ 5 ≤ v_126.toInt) => ?_)
                        · have mF_154 : mv_F m18 m19 q_127 := (mv_p.f x_149 (by rw [zx_nc]; omega) (fun j => (hV_q_127.cnt hm18 km18 j : sx_in _ 0 5).2)).F rfl rfl
                          obtain ⟨v_155, ev_155⟩ : ∃ z : Int32, z = v_83 + 1 := ⟨_, rfl⟩
                          refine wa_iinc B [(2, .int v_155), (3, .int v_126), (1, .int v_66), (0, .ref a0)] v_155 dX12_systems_173 1 rfl (by rw [ev_155]; rfl) (by decide) rfl ?_
                          refine wa_goto B 97 dX12_systems_176 (by decide) ?_
                          have tv_155 : v_155.toInt = v_83.toInt + 1 := by have b0 := zx_bd v_83; rw [ev_155]; exact zx_add (show (-2147483648 : Int) ≤ v_83.toInt + 1 by omega) (show v_83.toInt + 1 < (2147483648 : Int) by omega)
                          refine WA.sub [0, 2, 3] rfl ?_
                          exact ih_107 v_155 q_127 hV_q_127 hF_q_127 hK_q_127 mN_q_127 mF_154 mU_q_127 p0_q_127 p1_q_127 p2_q_127 p3_q_127 p4_q_127 p5_q_127 p6_q_127 p7_q_127 p8_q_127 p9_q_127 p10_q_127 p11_q_127 p12_q_127 p13_q_127 p14_q_127 p15_q_127 p16_q_127 p17_q_127 p18_q_127 p19_q_127 (show 0 ≤ v_155.toInt from by first | assumption | omega | decide) (show (v_66.toInt - v_155.toInt : Int).toNat < _ from by omega)
                        · refine wa_aload_n B dX12_systems_123 rfl 3 rfl ?_
                          refine wa_getR B (C := RX12) (T := TX12) (N := 51) iq_X12_systems_X12 ha0 ka0 (by decide) rfl 17 (by decide) (by decide) (by decide +kernel) rfl (fun _ _ _ => rfl) (v := m17) p16_q_127 dX12_systems_124 ?_
                          refine wa_iconst B 5 dX12_systems_127 (by decide) ?_
                          refine wa_iload_n B dX12_systems_128 rfl 1 rfl ?_
                          refine wa_imul B dX12_systems_129 (fun v_156 ev_156 => ?_)
                          refine wa_iload_n B dX12_systems_130 rfl 0 rfl ?_
                          refine wa_iadd B dX12_systems_131 (fun v_157 ev_157 => ?_)
                          refine wa_aload_n B dX12_systems_132 rfl 3 rfl ?_
                          refine wa_getR B (C := RX12) (T := TX12) (N := 51) iq_X12_systems_X12 ha0 ka0 (by decide) rfl 17 (by decide) (by decide) (by decide +kernel) rfl (fun _ _ _ => rfl) (v := m17) p16_q_127 dX12_systems_133 ?_
                          refine wa_iconst B 5 dX12_systems_136 (by decide) ?_
                          refine wa_iconst B 3 dX12_systems_137 (by decide) ?_
                          refine wa_iload_n B dX12_systems_138 rfl 1 rfl ?_
                          refine wa_iadd B dX12_systems_139 (fun v_158 ev_158 => ?_)
                          refine wa_imul B dX12_systems_140 (fun v_159 ev_159 => ?_)
                          refine wa_iload_n B dX12_systems_141 rfl 0 rfl ?_
                          refine wa_iadd B dX12_systems_142 (fun v_160 ev_160 => ?_)
                          have tv_158 : v_158.toInt = 3 + v_83.toInt := by have b1 := zx_bd v_83; rw [ev_158]; exact zx_add (show (-2147483648 : Int) ≤ 3 + v_83.toInt by omega) (show 3 + v_83.toInt < (2147483648 : Int) by omega)
                          have tv_159 : v_159.toInt = 5 * v_158.toInt := by have b1 := zx_bd v_158; rw [ev_159]; exact zx_mul (show (-2147483648 : Int) ≤ 5 * v_158.toInt by omega) (show 5 * v_158.toInt < (2147483648 : Int) by omega)
                          have tv_160 : v_160.toInt = v_159.toInt + v_126.toInt := by have b0 := zx_bd v_159; have b1 := zx_bd v_126; rw [ev_160]; exact zx_add (show (-2147483648 : Int) ≤ v_159.toInt + v_126.toInt by omega) (show v_159.toInt + v_126.toInt < (2147483648 : Int) by omega)
                          refine wa_laload B hm17 km17 (by decide) (by decide) (show 0 ≤ v_160.toInt by omega) (show v_160.toInt < (h.2.1 m17 : Int) by omega) (v := (q_127.2.2.2.2 m17 (v_160 : Int32).toNatClampNeg)) rfl dX12_systems_143 ?_
                          have tv_156 : v_156.toInt = 5 * v_83.toInt := by have b1 := zx_bd v_83; rw [ev_156]; exact zx_mul (show (-2147483648 : Int) ≤ 5 * v_83.toInt by omega) (show 5 * v_83.toInt < (2147483648 : Int) by omega)
                          have tv_157 : v_157.toInt = v_156.toInt + v_126.toInt := by have b0 := zx_bd v_156; have b1 := zx_bd v_126; rw [ev_157]; exact zx_add (show (-2147483648 : Int) ≤ v_156.toInt + v_126.toInt by omega) (show v_156.toInt + v_126.toInt < (2147483648 : Int) by omega)
                          refine wa_lastore B hm17 km17 (by decide) (by decide) (show 0 ≤ v_157.toInt by omega) (show v_157.toInt < (h.2.1 m17 : Int) by omega) dX12_systems_144 (fun q_161 eq_161 => ?_)
                          have hV_q_161 : sx_V h L q_161 := by rw [eq_161]; exact hV_q_127.pL
                          have hF_q_161 : sx_fr h L (fun a => h.1 a = 12 ∨ h.1 a = 113 ∨ h.1 a = 226 ∨ h.1 a = 227 ∨ h.1 a = 128 ∨ h.1 a = 129) q q_161 := hF_q_127.tr (by rw [eq_161]; exact sx_fr.pL (show h.1 m17 = 200 ∨ (h.1 m17 = 12 ∨ h.1 m17 = 113 ∨ h.1 m17 = 226 ∨ h.1 m17 = 227 ∨ h.1 m17 = 128 ∨ h.1 m17 = 129) from Or.inr (Or.inr (Or.inr (Or.inr (Or.inl km17))))))
                          have z_162 : q_161.2.2.2.2 m17 = (vp_updL (q_127.2.2.2.2 m17) (v_157 : Int32).toNatClampNeg ((q_127.2.2.2.2 m17 (v_160 : Int32).toNatClampNeg))) := by rw [eq_161, sg_pL_e]
                          have z_163 : q_161.2.2.2.2 m17 (v_157 : Int32).toNatClampNeg = (q_127.2.2.2.2 m17 (v_160 : Int32).toNatClampNeg) := by rw [eq_161, sg_pL_e]; exact if_pos rfl
                          have hK_q_161 : sx_kf a0 [0, 14, 15, 2, 4, 5, 10, 20, 31, 49, 50, 6, 7, 8, 9, 11, 12, 13] q q_161 := hK_q_127.tr (sx_kf.eq (by rw [eq_161]; rfl) (by rw [eq_161]; rfl))
                          have mN_q_161 : mv_N a0 q_161 := mv_N.eq ((show q_161.1 a0 8 = q_127.1 a0 8 from by rw [eq_161]; rfl)) ((show q_161.2.1 a0 11 = q_127.2.1 a0 11 from by rw [eq_161]; rfl)) mN_q_127
                          have mU_q_161 : mv_U m17 q_161 := mv_U.up (show q_161.2.2.2.2 m17 = _ from by rw [eq_161]; exact sg_pL_e) (mU_q_127) (by exact mU_q_127 _)
                          refine wa_aload_n B dX12_systems_145 rfl 3 rfl ?_
                          have z_164 : q_161.2.2.1 a0 19 = m19 := ((show q_161.2.2.1 a0 19 = q_127.2.2.1 a0 19 from by rw [eq_161]; rfl)).trans (p18_q_127)
                          refine wa_getR B (C := RX12) (T := TX12) (N := 51) iq_X12_systems_X12 ha0 ka0 (by decide) rfl 19 (by decide) (by decide) (by decide +kernel) rfl (fun _ _ _ => rfl) (v := m19) z_164 dX12_systems_146 ?_
                          refine wa_iconst B 5 dX12_systems_149 (by decide) ?_
                          refine wa_iload_n B dX12_systems_150 rfl 1 rfl ?_
                          refine wa_imul B dX12_systems_151 (fun v_165 ev_165 => ?_)
                          refine wa_iload_n B dX12_systems_152 rfl 0 rfl ?_
                          refine wa_iadd B dX12_systems_153 (fun v_166 ev_166 => ?_)
                          refine wa_aload_n B dX12_systems_154 rfl 3 rfl ?_
                          refine wa_getR B (C := RX12) (T := TX12) (N := 51) iq_X12_systems_X12 ha0 ka0 (by decide) rfl 19 (by decide) (by decide) (by decide +kernel) rfl (fun _ _ _ => rfl) (v := m19) z_164 dX12_systems_155 ?_
                          refine wa_iconst B 5 dX12_systems_158 (by decide) ?_
                          refine wa_iconst B 3 dX12_systems_159 (by decide) ?_
                          refine wa_iload_n B dX12_systems_160 rfl 1 rfl ?_
                          refine wa_iadd B dX12_systems_161 (fun v_167 ev_167 => ?_)
                          refine wa_imul B dX12_systems_162 (fun v_168 ev_168 => ?_)
                          refine wa_iload_n B dX12_systems_163 rfl 0 rfl ?_
                          refine wa_iadd B dX12_systems_164 (fun v_169 ev_169 => ?_)
                          have tv_167 : v_167.toInt = 3 + v_83.toInt := by have b1 := zx_bd v_83; rw [ev_167]; exact zx_add (show (-2147483648 : Int) ≤ 3 + v_83.toInt by omega) (show 3 + v_83.toInt < (2147483648 : Int) by omega)
                          have tv_168 : v_168.toInt = 5 * v_167.toInt := by have b1 := zx_bd v_167; rw [ev_168]; exact zx_mul (show (-2147483648 : Int) ≤ 5 * v_167.toInt by omega) (show 5 * v_167.toInt < (2147483648 : Int) by omega)
                          have tv_169 : v_169.toInt = v_168.toInt + v_126.toInt := by have b0 := zx_bd v_168; have b1 := zx_bd v_126; rw [ev_169]; exact zx_add (show (-2147483648 : Int) ≤ v_168.toInt + v_126.toInt by omega) (show v_168.toInt + v_126.toInt < (2147483648 : Int) by omega)
                          have z_170 : q_161.2.2.2.1 m19 = q_127.2.2.2.1 m19 := (show q_161.2.2.2.1 m19 = q_127.2.2.2.1 m19 from by rw [eq_161]; rfl)
                          have z_171 : q_161.2.2.2.1 m19 (v_169 : Int32).toNatClampNeg = (q_127.2.2.2.1 m19 (v_169 : Int32).toNatClampNeg) := congrFun z_170 _
                          refine wa_iaload B hm19 km19 (by decide) (by decide) (show 0 ≤ v_169.toInt by omega) (show v_169.toInt < (h.2.1 m19 : Int) by omega) (v := (q_127.2.2.2.1 m19 (v_169 : Int32).toNatClampNeg)) z_171 dX12_systems_165 ?_
                          have tv_165 : v_165.toInt = 5 * v_83.toInt := by have b1 := zx_bd v_83; rw [ev_165]; exact zx_mul (show (-2147483648 : Int) ≤ 5 * v_83.toInt by omega) (show 5 * v_83.toInt < (2147483648 : Int) by omega)
                          have tv_166 : v_166.toInt = v_165.toInt + v_126.toInt := by have b0 := zx_bd v_165; have b1 := zx_bd v_126; rw [ev_166]; exact zx_add (show (-2147483648 : Int) ≤ v_165.toInt + v_126.toInt by omega) (show v_165.toInt + v_126.toInt < (2147483648 : Int) by omega)
                          refine wa_iastore B hm19 km19 (by decide) (by decide) (show 0 ≤ v_166.toInt by omega) (show v_166.toInt < (h.2.1 m19 : Int) by omega) dX12_systems_166 (fun q_172 eq_172 => ?_)
                          have hV_q_172 : sx_V h L q_172 := by rw [eq_172]; exact hV_q_161.up1 hm19 km19 trivial
                          have hF_q_172 : sx_fr h L (fun a => h.1 a = 12 ∨ h.1 a = 113 ∨ h.1 a = 226 ∨ h.1 a = 227 ∨ h.1 a = 128 ∨ h.1 a = 129) q q_172 := hF_q_161.tr (by rw [eq_172]; exact sx_fr.pG (show h.1 m19 = 100 ∨ (h.1 m19 = 12 ∨ h.1 m19 = 113 ∨ h.1 m19 = 226 ∨ h.1 m19 = 227 ∨ h.1 m19 = 128 ∨ h.1 m19 = 129) from Or.inr (Or.inr (Or.inr (Or.inr (Or.inr (Or.inr km19)))))))
                          have z_173 : q_172.2.2.2.1 m19 = (upd (q_127.2.2.2.1 m19) (v_166 : Int32).toNatClampNeg ((q_127.2.2.2.1 m19 (v_169 : Int32).toNatClampNeg))) := by rw [eq_172, sg_pG_e, z_170]
                          have z_174 : q_172.2.2.2.1 m19 (v_166 : Int32).toNatClampNeg = (q_127.2.2.2.1 m19 (v_169 : Int32).toNatClampNeg) := by rw [eq_172, sg_pG_e]; exact if_pos rfl
                          have hK_q_172 : sx_kf a0 [0, 14, 15, 2, 4, 5, 10, 20, 31, 49, 50, 6, 7, 8, 9, 11, 12, 13] q q_172 := hK_q_161.tr (sx_kf.eq (by rw [eq_172]; rfl) (by rw [eq_172]; rfl))
                          have mN_q_172 : mv_N a0 q_172 := mv_N.eq ((show q_172.1 a0 8 = q_161.1 a0 8 from by rw [eq_172]; rfl)) ((show q_172.2.1 a0 11 = q_161.2.1 a0 11 from by rw [eq_172]; rfl)) mN_q_161
                          have mU_q_172 : mv_U m17 q_172 := mv_U.eq ((show q_172.2.2.2.2 m17 = q_161.2.2.2.2 m17 from by rw [eq_172]; rfl)) mU_q_161
                          obtain ⟨v_175, ev_175⟩ : ∃ z : Int32, z = v_126 + 1 := ⟨_, rfl⟩
                          refine wa_iinc B [(3, .int v_175), (2, .int v_83), (1, .int v_66), (0, .ref a0)] v_175 dX12_systems_167 0 rfl (by rw [ev_175]; rfl) (by decide) rfl ?_
                          refine wa_goto B 118 dX12_systems_170 (by decide) ?_
                          have tv_175 : v_175.toInt = v_126.toInt + 1 := by have b0 := zx_bd v_126; rw [ev_175]; exact zx_add (show (-2147483648 : Int) ≤ v_126.toInt + 1 by omega) (show v_126.toInt + 1 < (2147483648 : Int) by omega)
                          have z_176 : q_172.1 a0 2 = (q_10.1 a0 2) := ((show q_172.1 a0 2 = q_161.1 a0 2 from by rw [eq_172]; rfl)).trans (((show q_161.1 a0 2 = q_127.1 a0 2 from by rw [eq_161]; rfl)).trans (p0_q_127))
                          have z_177 : q_172.1 a0 0 = 0 := ((show q_172.1 a0 0 = q_161.1 a0 0 from by rw [eq_172]; rfl)).trans (((show q_161.1 a0 0 = q_127.1 a0 0 from by rw [eq_161]; rfl)).trans (p1_q_127))
                          have z_178 : q_172.1 a0 10 = (q_10.1 a0 10) := ((show q_172.1 a0 10 = q_161.1 a0 10 from by rw [eq_172]; rfl)).trans (((show q_161.1 a0 10 = q_127.1 a0 10 from by rw [eq_161]; rfl)).trans (p2_q_127))
                          have z_179 : q_172.1 a0 4 = (q_10.1 a0 4) := ((show q_172.1 a0 4 = q_161.1 a0 4 from by rw [eq_172]; rfl)).trans (((show q_161.1 a0 4 = q_127.1 a0 4 from by rw [eq_161]; rfl)).trans (p3_q_127))
                          have z_180 : q_172.1 a0 5 = (q_10.1 a0 5) := ((show q_172.1 a0 5 = q_161.1 a0 5 from by rw [eq_172]; rfl)).trans (((show q_161.1 a0 5 = q_127.1 a0 5 from by rw [eq_161]; rfl)).trans (p4_q_127))
                          have z_181 : q_172.1 a0 6 = (q_61.1 a0 6) := ((show q_172.1 a0 6 = q_161.1 a0 6 from by rw [eq_172]; rfl)).trans (((show q_161.1 a0 6 = q_127.1 a0 6 from by rw [eq_161]; rfl)).trans (p5_q_127))
                          have z_182 : q_172.1 a0 8 = (q_61.1 a0 8) := ((show q_172.1 a0 8 = q_161.1 a0 8 from by rw [eq_172]; rfl)).trans (((show q_161.1 a0 8 = q_127.1 a0 8 from by rw [eq_161]; rfl)).trans (p6_q_127))
                          have z_183 : q_172.1 a0 7 = (q_61.1 a0 7) := ((show q_172.1 a0 7 = q_161.1 a0 7 from by rw [eq_172]; rfl)).trans (((show q_161.1 a0 7 = q_127.1 a0 7 from by rw [eq_161]; rfl)).trans (p7_q_127))
                          have z_184 : q_172.1 a0 12 = (q_61.1 a0 12) := ((show q_172.1 a0 12 = q_161.1 a0 12 from by rw [eq_172]; rfl)).trans (((show q_161.1 a0 12 = q_127.1 a0 12 from by rw [eq_161]; rfl)).trans (p8_q_127))
                          have z_185 : q_172.1 a0 13 = (q_61.1 a0 13) := ((show q_172.1 a0 13 = q_161.1 a0 13 from by rw [eq_172]; rfl)).trans (((show q_161.1 a0 13 = q_127.1 a0 13 from by rw [eq_161]; rfl)).trans (p9_q_127))
                          have z_186 : q_172.1 a0 9 = (q_61.1 a0 9) := ((show q_172.1 a0 9 = q_161.1 a0 9 from by rw [eq_172]; rfl)).trans (((show q_161.1 a0 9 = q_127.1 a0 9 from by rw [eq_161]; rfl)).trans (p10_q_127))
                          have z_187 : q_172.1 a0 15 = (q_61.1 a0 15) := ((show q_172.1 a0 15 = q_161.1 a0 15 from by rw [eq_172]; rfl)).trans (((show q_161.1 a0 15 = q_127.1 a0 15 from by rw [eq_161]; rfl)).trans (p11_q_127))
                          have z_188 : q_172.1 a0 20 = v_66 := ((show q_172.1 a0 20 = q_161.1 a0 20 from by rw [eq_172]; rfl)).trans (((show q_161.1 a0 20 = q_127.1 a0 20 from by rw [eq_161]; rfl)).trans (p12_q_127))
                          have z_189 : q_172.2.2.1 a0 1 = m1 := ((show q_172.2.2.1 a0 1 = q_161.2.2.1 a0 1 from by rw [eq_172]; rfl)).trans (((show q_161.2.2.1 a0 1 = q_127.2.2.1 a0 1 from by rw [eq_161]; rfl)).trans (p13_q_127))
                          have z_190 : q_172.2.2.1 a0 3 = m3 := ((show q_172.2.2.1 a0 3 = q_161.2.2.1 a0 3 from by rw [eq_172]; rfl)).trans (((show q_161.2.2.1 a0 3 = q_127.2.2.1 a0 3 from by rw [eq_161]; rfl)).trans (p14_q_127))
                          have z_191 : q_172.2.2.1 a0 16 = m16 := ((show q_172.2.2.1 a0 16 = q_161.2.2.1 a0 16 from by rw [eq_172]; rfl)).trans (((show q_161.2.2.1 a0 16 = q_127.2.2.1 a0 16 from by rw [eq_161]; rfl)).trans (p15_q_127))
                          have z_192 : q_172.2.2.1 a0 17 = m17 := ((show q_172.2.2.1 a0 17 = q_161.2.2.1 a0 17 from by rw [eq_172]; rfl)).trans (((show q_161.2.2.1 a0 17 = q_127.2.2.1 a0 17 from by rw [eq_161]; rfl)).trans (p16_q_127))
                          have z_193 : q_172.2.2.1 a0 18 = m18 := ((show q_172.2.2.1 a0 18 = q_161.2.2.1 a0 18 from by rw [eq_172]; rfl)).trans (((show q_161.2.2.1 a0 18 = q_127.2.2.1 a0 18 from by rw [eq_161]; rfl)).trans (p17_q_127))
                          have z_194 : q_172.2.2.1 a0 19 = m19 := ((show q_172.2.2.1 a0 19 = q_161.2.2.1 a0 19 from by rw [eq_172]; rfl)).trans (z_164)
                          have z_195 : q_172.2.1 a0 11 = (q_81.2.1 a0 11) := ((show q_172.2.1 a0 11 = q_161.2.1 a0 11 from by rw [eq_172]; rfl)).trans (((show q_161.2.1 a0 11 = q_127.2.1 a0 11 from by rw [eq_161]; rfl)).trans (p19_q_127))
                          have z_196 : q_172.2.2.2.1 m18 = (upd (q_84.2.2.2.1 m18) (v_83 : Int32).toNatClampNeg ((q_84.2.2.2.1 m18 ((3 + v_83) : Int32).toNatClampNeg))) := ((show q_172.2.2.2.1 m18 = q_161.2.2.2.1 m18 from by rw [eq_172]; exact sg_pG_a (sx_ka h km18 km19 (by decide)))).trans (((show q_161.2.2.2.1 m18 = q_127.2.2.2.1 m18 from by rw [eq_161]; rfl)).trans (p20_q_127))
                          exact ih_152 v_175 q_172 hV_q_172 hF_q_172 hK_q_172 mN_q_172 mU_q_172 z_176 z_177 z_178 z_179 z_180 z_181 z_182 z_183 z_184 z_185 z_186 z_187 z_188 z_189 z_190 z_191 z_192 z_193 z_194 z_195 z_196 (show 0 ≤ v_175.toInt from by first | assumption | omega | decide) (show mv_p (q_172.2.2.2.1 m18) (q_172.2.2.2.1 m19) (v_83).toNatClampNeg (v_175).toNatClampNeg from by have a1 := zx_nc v_83; have a2 := zx_nc v_126; have a3 := zx_nc v_175; have a4 := zx_nc v_166; have a5 := zx_nc v_169; have a6 := zx_nc (3 + v_83); have j1 : (v_166 : Int32).toNatClampNeg = 5 * (v_83 : Int32).toNatClampNeg + (v_126 : Int32).toNatClampNeg := (by omega); have j2 : (v_169 : Int32).toNatClampNeg = 5 * (3 + (v_83 : Int32).toNatClampNeg) + (v_126 : Int32).toNatClampNeg := (by omega); have j3 : (v_175 : Int32).toNatClampNeg = (v_126 : Int32).toNatClampNeg + 1 := (by omega); have j4 : (3 + v_83 : Int32).toNatClampNeg = 3 + (v_83 : Int32).toNatClampNeg := (by omega); rw [show q_172.2.2.2.1 m18 = q_127.2.2.2.1 m18 from (z_196).trans (p20_q_127).symm, z_173, j1, j3]; exact mv_p.st x_149 (by omega) (by omega) (fun j => (hV_q_127.cnt hm18 km18 j : sx_in _ 0 5).2) (by rw [← j4]; exact x_150) (by rw [j2])) (show (q_172.2.2.2.1 m18 (v_83).toNatClampNeg) = (q_172.2.2.2.1 m18 (3 + v_83).toNatClampNeg) from by rw [show q_172.2.2.2.1 m18 = q_127.2.2.2.1 m18 from (z_196).trans (p20_q_127).symm]; exact x_150) (show (5 - v_175.toInt : Int).toNat < _ from by omega)
                    exact Lp_118_151 _ 0 q_123 hV_q_123 hF_q_123 hK_q_123 mN_q_123 mU_q_123 z_128 z_129 z_130 z_131 z_132 z_133 z_134 z_135 z_136 z_137 z_138 z_139 z_140 z_141 z_142 z_143 z_144 z_145 z_146 z_147 z_124 (show 0 ≤ 0 from by first | assumption | omega | decide) (show mv_p (q_123.2.2.2.1 m18) (q_123.2.2.2.1 m19) (v_83).toNatClampNeg ((0 : Int32)).toNatClampNeg from by have z9 := mv_f.p (s := (v_83 : Int32).toNatClampNeg) (v := (q_84.2.2.2.1 m18 ((3 + v_83) : Int32).toNatClampNeg)) ((mF_q_84).f rfl rfl); rw [z_124, show q_123.2.2.2.1 m19 = q_84.2.2.2.1 m19 from (by rw [eq_123]; exact sg_pG_a (sx_ka h km19 km18 (by decide)))]; exact z9) (show (q_123.2.2.2.1 m18 (v_83).toNatClampNeg) = (q_123.2.2.2.1 m18 (3 + v_83).toNatClampNeg) from by rw [z_124]; exact zx_u1.trans (zx_u2 (show ¬ ((3 + v_83 : Int32).toNatClampNeg = (v_83 : Int32).toNatClampNeg) from by have a9 := zx_nc (3 + v_83); have a8 := zx_nc v_83; omega)).symm) (Nat.lt_succ_self _)
              exact Lp_97_106 _ 0 q_81 hV_q_81 hF_q_81 hK_q_81 mN_q_81 mF_q_81 mU_q_81 z_85 z_86 z_87 z_88 z_89 z_90 z_91 z_92 z_93 z_94 z_95 z_96 z_82 z_97 z_98 z_99 z_100 z_101 z_102 rfl (show 0 ≤ 0 from by first | assumption | omega | decide) (Nat.lt_succ_self _)
          · refine wa_iconst B (-1) dX12_systems_73 (by decide) ?_
            refine wa_aload_n B dX12_systems_74 rfl 1 rfl ?_
            refine wa_getI B (C := RX12) (T := TX12) (N := 51) iq_X12_systems_X12 ha0 ka0 (by decide) rfl 15 (by decide) (by decide) (by decide +kernel) rfl (by decide) (v := (q_61.1 a0 15)) rfl dX12_systems_75 ?_
            refine wa_isub B dX12_systems_78 (fun v_197 ev_197 => ?_)
            have tv_197 : v_197.toInt = (-1) - (q_61.1 a0 15).toInt := by have b1 := zx_bd (q_61.1 a0 15); rw [ev_197]; exact zx_sub (show (-2147483648 : Int) ≤ (-1) - (q_61.1 a0 15).toInt by omega) (show (-1) - (q_61.1 a0 15).toInt < (2147483648 : Int) by omega)
            have z_198 : q_61.1 a0 2 = (q_10.1 a0 2) := (h3_q_61.1 2 (by decide)).trans ((h3_q_43.1 2 (by decide)).trans (p0_q_13))
            have y_199 : (q_61.1 a0 2).toInt = (q_10.1 a0 2).toInt := by rw [z_198]
            have y_200 : (q_61.1 a0 2).toInt = (q_10.1 a0 2).toInt := by rw [z_198]
            exact hret _ _ _ _ dX12_systems_79 ⟨hV_q_61, hF_q_61, hK_q_61, mN_q_61, mF_q_61, mU_q_61, ⟨by omega, (by have y7 := (hw_63.resolve_right (fun y => absurd y.1 (by omega))).2; exact Or.inl ⟨_, y7.2, by omega⟩)⟩⟩
        · refine wa_aload_n B dX12_systems_48 rfl 1 rfl ?_
          refine wa_iconst B 4 dX12_systems_49 (by decide) ?_
          refine wa_callVi B (x := (RX12, TX12, 51)) (As := [.int 4]) (rest := []) (k_X12_bad_c l dC dI h L hN q_13 hV_q_13 (a0 := a0) ha0 ka0 4  ) (cwV 1 B.1.2.2.2.2 gX12_systems_X12_bad rfl rfl rfl (by decide +kernel) ⟨Nat.le_of_ble_eq_true rfl, Nat.le_of_ble_eq_true rfl⟩) ha0 ka0 (by decide) rfl rfl rfl (Nat.le_of_ble_eq_true rfl) dX12_systems_50 (fun r_202 q_201 w_203 => ?_)
          obtain ⟨hV_q_201, h2_q_201, h3_q_201, hw_203⟩ := w_203
          have hF_q_201 : sx_fr h L (fun a => h.1 a = 12 ∨ h.1 a = 113 ∨ h.1 a = 226 ∨ h.1 a = 227 ∨ h.1 a = 128 ∨ h.1 a = 129) q q_201 := hF_q_13.tr (h2_q_201.mono (fun a (z : h.1 a = 12) => ((fun z => (Or.inl z)) z)))
          have hK_q_201 : sx_kf a0 [0, 14, 15, 2, 4, 5, 10, 20, 31, 49, 50, 6, 7, 8, 9, 11, 12, 13] q q_201 := hK_q_13.tr (h3_q_201.mono (by decide))
          have mN_q_201 : mv_N a0 q_201 := mv_N.eq (h3_q_201.1 8 (by decide)) (h3_q_201.2 11 (by decide)) mN_q_13
          have mF_q_201 : mv_F m18 m19 q_201 := mv_F.eq (h2_q_201.G hm18 (show ¬ (h.1 m18 = 12) from (fun z => absurd (z.symm.trans km18) (by decide))) (by rw [km18]; decide)) (h2_q_201.G hm19 (show ¬ (h.1 m19 = 12) from (fun z => absurd (z.symm.trans km19) (by decide))) (by rw [km19]; decide)) mF_q_13
          have mU_q_201 : mv_U m17 q_201 := mv_U.eq (h2_q_201.Lg hm17 (show ¬ (h.1 m17 = 12) from (fun z => absurd (z.symm.trans km17) (by decide))) (by rw [km17]; decide)) mU_q_13
          refine wa_pop B dX12_systems_53 rfl ?_
          refine wa_iconst B (-1) dX12_systems_54 (by decide) ?_
          refine wa_aload_n B dX12_systems_55 rfl 1 rfl ?_
          refine wa_getI B (C := RX12) (T := TX12) (N := 51) iq_X12_systems_X12 ha0 ka0 (by decide) rfl 15 (by decide) (by decide) (by decide +kernel) rfl (by decide) (v := (q_201.1 a0 15)) rfl dX12_systems_56 ?_
          refine wa_isub B dX12_systems_59 (fun v_204 ev_204 => ?_)
          have z_205 : q_201.1 a0 7 = q_13.1 a0 7 := h3_q_201.1 7 (by decide)
          have y_206 : (q_201.1 a0 7).toInt = (q_13.1 a0 7).toInt := by rw [z_205]
          have tv_204 : v_204.toInt = (-1) - (q_201.1 a0 15).toInt := by have b1 := zx_bd (q_201.1 a0 15); rw [ev_204]; exact zx_sub (show (-2147483648 : Int) ≤ (-1) - (q_201.1 a0 15).toInt by omega) (show (-1) - (q_201.1 a0 15).toInt < (2147483648 : Int) by omega)
          have z_207 : q_201.1 a0 2 = (q_10.1 a0 2) := (h3_q_201.1 2 (by decide)).trans (p0_q_13)
          have y_208 : (q_201.1 a0 2).toInt = (q_10.1 a0 2).toInt := by rw [z_207]
          have y_209 : (q_201.1 a0 2).toInt = (q_10.1 a0 2).toInt := by rw [z_207]
          have y_210 : (q_201.1 a0 7).toInt = (q_13.1 a0 7).toInt := by rw [z_205]
          exact hret _ _ _ _ dX12_systems_60 ⟨hV_q_201, hF_q_201, hK_q_201, mN_q_201, mF_q_201, mU_q_201, ⟨by omega, Or.inl ⟨_, rr_key_bad hC hT (by omega) (fun z => absurd z.2.2 (by omega)), by omega⟩⟩⟩
      · refine wa_aload_n B dX12_systems_30 rfl 1 rfl ?_
        refine wa_iconst B 1 dX12_systems_31 (by decide) ?_
        refine wa_callVi B (x := (RX12, TX12, 51)) (As := [.int 1]) (rest := []) (k_X12_bad_c l dC dI h L hN q_13 hV_q_13 (a0 := a0) ha0 ka0 1  ) (cwV 1 B.1.2.2.2.2 gX12_systems_X12_bad rfl rfl rfl (by decide +kernel) ⟨Nat.le_of_ble_eq_true rfl, Nat.le_of_ble_eq_true rfl⟩) ha0 ka0 (by decide) rfl rfl rfl (Nat.le_of_ble_eq_true rfl) dX12_systems_32 (fun r_212 q_211 w_213 => ?_)
        obtain ⟨hV_q_211, h2_q_211, h3_q_211, hw_213⟩ := w_213
        have hF_q_211 : sx_fr h L (fun a => h.1 a = 12 ∨ h.1 a = 113 ∨ h.1 a = 226 ∨ h.1 a = 227 ∨ h.1 a = 128 ∨ h.1 a = 129) q q_211 := hF_q_13.tr (h2_q_211.mono (fun a (z : h.1 a = 12) => ((fun z => (Or.inl z)) z)))
        have hK_q_211 : sx_kf a0 [0, 14, 15, 2, 4, 5, 10, 20, 31, 49, 50, 6, 7, 8, 9, 11, 12, 13] q q_211 := hK_q_13.tr (h3_q_211.mono (by decide))
        have mN_q_211 : mv_N a0 q_211 := mv_N.eq (h3_q_211.1 8 (by decide)) (h3_q_211.2 11 (by decide)) mN_q_13
        have mF_q_211 : mv_F m18 m19 q_211 := mv_F.eq (h2_q_211.G hm18 (show ¬ (h.1 m18 = 12) from (fun z => absurd (z.symm.trans km18) (by decide))) (by rw [km18]; decide)) (h2_q_211.G hm19 (show ¬ (h.1 m19 = 12) from (fun z => absurd (z.symm.trans km19) (by decide))) (by rw [km19]; decide)) mF_q_13
        have mU_q_211 : mv_U m17 q_211 := mv_U.eq (h2_q_211.Lg hm17 (show ¬ (h.1 m17 = 12) from (fun z => absurd (z.symm.trans km17) (by decide))) (by rw [km17]; decide)) mU_q_13
        refine wa_pop B dX12_systems_35 rfl ?_
        refine wa_iconst B (-1) dX12_systems_36 (by decide) ?_
        refine wa_aload_n B dX12_systems_37 rfl 1 rfl ?_
        refine wa_getI B (C := RX12) (T := TX12) (N := 51) iq_X12_systems_X12 ha0 ka0 (by decide) rfl 15 (by decide) (by decide) (by decide +kernel) rfl (by decide) (v := (q_211.1 a0 15)) rfl dX12_systems_38 ?_
        refine wa_isub B dX12_systems_41 (fun v_214 ev_214 => ?_)
        have z_215 : q_211.1 a0 7 = q_13.1 a0 7 := h3_q_211.1 7 (by decide)
        have y_216 : (q_211.1 a0 7).toInt = (q_13.1 a0 7).toInt := by rw [z_215]
        have tv_214 : v_214.toInt = (-1) - (q_211.1 a0 15).toInt := by have b1 := zx_bd (q_211.1 a0 15); rw [ev_214]; exact zx_sub (show (-2147483648 : Int) ≤ (-1) - (q_211.1 a0 15).toInt by omega) (show (-1) - (q_211.1 a0 15).toInt < (2147483648 : Int) by omega)
        have z_217 : q_211.1 a0 2 = (q_10.1 a0 2) := (h3_q_211.1 2 (by decide)).trans (p0_q_13)
        have y_218 : (q_211.1 a0 2).toInt = (q_10.1 a0 2).toInt := by rw [z_217]
        have y_219 : (q_211.1 a0 2).toInt = (q_10.1 a0 2).toInt := by rw [z_217]
        have y_220 : (q_211.1 a0 7).toInt = (q_13.1 a0 7).toInt := by rw [z_215]
        exact hret _ _ _ _ dX12_systems_42 ⟨hV_q_211, hF_q_211, hK_q_211, mN_q_211, mF_q_211, mU_q_211, ⟨by omega, Or.inl ⟨_, rr_key_bad hC hT (by omega) (fun z => ((hw_37.resolve_left (fun y => absurd y.1 (by omega))).2) ⟨z.1, z.2.1⟩), by omega⟩⟩⟩
  exact Lp_20_32 _ 0 q_10 hV_q_10 hF_q_10 hK_q_10 mN_q_10 mF_q_10 mU_q_10 rfl z_14 rfl rfl rfl z_16 z_17 z_18 z_19 z_20 z_21 z_22 rfl (show 0 ≤ 0 from by first | assumption | omega | decide) (show 0 ≤ 3 from by first | assumption | omega | decide) (show (q_10.1 a0 6).toInt ≤ (q_10.1 a0 4).toInt from by have y7 := hw_11.2.2.2.2.1; omega) (show 0 = 0 ∨ ¬ (q_10.1 a0 8).toInt = 0 from by first | assumption | omega | decide) (show rs_P F n9 R9 0 ((0 : Int32)).toInt.toNat (q_10.1 a0 8) (q_10.1 a0 9) (q_10.1 a0 7) (q_10.1 a0 6) (q_10.1 a0 12) (q_10.1 a0 13) (q_10.2.1 a0 11) (q_10.2.2.2.2 m16) (q_10.2.2.2.2 m17) (q_10.2.2.2.1 m18) (q_10.2.2.2.1 m19) from by rw [hR9]; exact ⟨0, hw_11.2.2.2.2.2.2, rr_0⟩) (Nat.lt_succ_self _)
