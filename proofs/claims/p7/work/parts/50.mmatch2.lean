theorem iq_X12_match_X12 : ∀ w ∈ wsX120, w ∈ wsX12_match := fun _ h => List.mem_cons_of_mem _ (List.mem_append_right _ h)
set_option maxHeartbeats 4000000 in
set_option maxRecDepth 100000 in
theorem k_X12_match (l : Launch) (dC : Nat → ClassId) (dI : Nat → Nat → Nat) (h : Sh) (L : List Nat) (hN : sx_nd L) (q : Sg) (hV : sx_V h L q) {a0 : Nat} (ha0 : a0 ∈ L) (ka0 : h.1 a0 = 12) {m3 : Nat} (em3 : q.2.2.1 a0 3 = m3) {m18 : Nat} (em18 : q.2.2.1 a0 18 = m18) {m19 : Nat} (em19 : q.2.2.1 a0 19 = m19) {m23 : Nat} (em23 : q.2.2.1 a0 23 = m23) {m24 : Nat} (em24 : q.2.2.1 a0 24 = m24) {m25 : Nat} (em25 : q.2.2.1 a0 25 = m25) {m26 : Nat} (em26 : q.2.2.1 a0 26 = m26) {m27 : Nat} (em27 : q.2.2.1 a0 27 = m27) {m28 : Nat} (em28 : q.2.2.1 a0 28 = m28) {m29 : Nat} (em29 : q.2.2.1 a0 29 = m29) {m30 : Nat} (em30 : q.2.2.1 a0 30 = m30) {m34 : Nat} (em34 : q.2.2.1 a0 34 = m34) {m35 : Nat} (em35 : q.2.2.1 a0 35 = m35) {m40 : Nat} (em40 : q.2.2.1 a0 40 = m40) {m41 : Nat} (em41 : q.2.2.1 a0 41 = m41) {m44 : Nat} (em44 : q.2.2.1 a0 44 = m44) {m42 : Nat} (em42 : q.2.2.1 a0 42 = m42) {m43 : Nat} (em43 : q.2.2.1 a0 43 = m43) {m46 : Nat} (em46 : q.2.2.1 a0 46 = m46) {m47 : Nat} (em47 : q.2.2.1 a0 47 = m47) {m48 : Nat} (em48 : q.2.2.1 a0 48 = m48) (mN : mv_N a0 q) (mS : mv_S m23 m26 m28 m29 q) (mL : mv_L m40 m41 m44 a0 q)   : CMi l dC dI h L yX12_match wsX12_match ({ frames := 6, cells := 0, slots := 0, locals := 146 } : Room) q [.ref a0] (fun r q' => sx_V h L q' ∧ sx_fr h L (fun a => h.1 a = 12 ∨ h.1 a = 113 ∨ h.1 a = 133 ∨ h.1 a = 134 ∨ h.1 a = 135 ∨ h.1 a = 138 ∨ h.1 a = 139 ∨ h.1 a = 140 ∨ h.1 a = 136 ∨ h.1 a = 137 ∨ h.1 a = 144 ∨ h.1 a = 245 ∨ h.1 a = 156 ∨ h.1 a = 157 ∨ h.1 a = 158) q q' ∧ sx_kf a0 [0, 49, 50, 4, 14, 15, 32, 33, 36, 37, 38, 39, 5, 10, 6, 7, 8, 9, 11, 12, 13] q q' ∧ mv_N a0 q' ∧ mv_S m23 m26 m28 m29 q' ∧ mv_L m40 m41 m44 a0 q') := by
  refine cm_i (cc := cX12_match) (mL := 7) (own := RX12) hN (by decide) rfl rfl (Nat.le_of_ble_eq_true rfl) (fun Z B hret => ?_)
  have hF : sx_fr h L (fun a => h.1 a = 12 ∨ h.1 a = 113 ∨ h.1 a = 133 ∨ h.1 a = 134 ∨ h.1 a = 135 ∨ h.1 a = 138 ∨ h.1 a = 139 ∨ h.1 a = 140 ∨ h.1 a = 136 ∨ h.1 a = 137 ∨ h.1 a = 144 ∨ h.1 a = 245 ∨ h.1 a = 156 ∨ h.1 a = 157 ∨ h.1 a = 158) q q := sx_fr.rf
  have hK : sx_kf a0 [0, 49, 50, 4, 14, 15, 32, 33, 36, 37, 38, 39, 5, 10, 6, 7, 8, 9, 11, 12, 13] q q := sx_kf.rf
  obtain ⟨hm3, km3, lm3⟩ : m3 ∈ L ∧ h.1 m3 = 113 ∧ h.2.1 m3 = 500 := by obtain ⟨r9, e9, z1, z2, z3⟩ := hV.refn (t := 113) (n := 500) ha0 ka0 3 rfl (by decide) rfl (by decide); rw [← em3, e9]; exact ⟨z1, z2, z3⟩
  obtain ⟨hm18, km18, lm18⟩ : m18 ∈ L ∧ h.1 m18 = 128 ∧ h.2.1 m18 = 6 := by obtain ⟨r9, e9, z1, z2, z3⟩ := hV.refn (t := 128) (n := 6) ha0 ka0 18 rfl (by decide) rfl (by decide); rw [← em18, e9]; exact ⟨z1, z2, z3⟩
  obtain ⟨hm19, km19, lm19⟩ : m19 ∈ L ∧ h.1 m19 = 129 ∧ h.2.1 m19 = 30 := by obtain ⟨r9, e9, z1, z2, z3⟩ := hV.refn (t := 129) (n := 30) ha0 ka0 19 rfl (by decide) rfl (by decide); rw [← em19, e9]; exact ⟨z1, z2, z3⟩
  obtain ⟨hm23, km23, lm23⟩ : m23 ∈ L ∧ h.1 m23 = 133 ∧ h.2.1 m23 = 9 := by obtain ⟨r9, e9, z1, z2, z3⟩ := hV.refn (t := 133) (n := 9) ha0 ka0 23 rfl (by decide) rfl (by decide); rw [← em23, e9]; exact ⟨z1, z2, z3⟩
  obtain ⟨hm24, km24, lm24⟩ : m24 ∈ L ∧ h.1 m24 = 134 ∧ h.2.1 m24 = 108 := by obtain ⟨r9, e9, z1, z2, z3⟩ := hV.refn (t := 134) (n := 108) ha0 ka0 24 rfl (by decide) rfl (by decide); rw [← em24, e9]; exact ⟨z1, z2, z3⟩
  obtain ⟨hm25, km25, lm25⟩ : m25 ∈ L ∧ h.1 m25 = 135 ∧ h.2.1 m25 = 108 := by obtain ⟨r9, e9, z1, z2, z3⟩ := hV.refn (t := 135) (n := 108) ha0 ka0 25 rfl (by decide) rfl (by decide); rw [← em25, e9]; exact ⟨z1, z2, z3⟩
  obtain ⟨hm26, km26, lm26⟩ : m26 ∈ L ∧ h.1 m26 = 136 ∧ h.2.1 m26 = 108 := by obtain ⟨r9, e9, z1, z2, z3⟩ := hV.refn (t := 136) (n := 108) ha0 ka0 26 rfl (by decide) rfl (by decide); rw [← em26, e9]; exact ⟨z1, z2, z3⟩
  obtain ⟨hm27, km27, lm27⟩ : m27 ∈ L ∧ h.1 m27 = 137 ∧ h.2.1 m27 = 9 := by obtain ⟨r9, e9, z1, z2, z3⟩ := hV.refn (t := 137) (n := 9) ha0 ka0 27 rfl (by decide) rfl (by decide); rw [← em27, e9]; exact ⟨z1, z2, z3⟩
  obtain ⟨hm28, km28, lm28⟩ : m28 ∈ L ∧ h.1 m28 = 138 ∧ h.2.1 m28 = 540 := by obtain ⟨r9, e9, z1, z2, z3⟩ := hV.refn (t := 138) (n := 540) ha0 ka0 28 rfl (by decide) rfl (by decide); rw [← em28, e9]; exact ⟨z1, z2, z3⟩
  obtain ⟨hm29, km29, lm29⟩ : m29 ∈ L ∧ h.1 m29 = 139 ∧ h.2.1 m29 = 540 := by obtain ⟨r9, e9, z1, z2, z3⟩ := hV.refn (t := 139) (n := 540) ha0 ka0 29 rfl (by decide) rfl (by decide); rw [← em29, e9]; exact ⟨z1, z2, z3⟩
  obtain ⟨hm30, km30, lm30⟩ : m30 ∈ L ∧ h.1 m30 = 140 ∧ h.2.1 m30 = 540 := by obtain ⟨r9, e9, z1, z2, z3⟩ := hV.refn (t := 140) (n := 540) ha0 ka0 30 rfl (by decide) rfl (by decide); rw [← em30, e9]; exact ⟨z1, z2, z3⟩
  obtain ⟨hm34, km34, lm34⟩ : m34 ∈ L ∧ h.1 m34 = 144 ∧ h.2.1 m34 = 4 := by obtain ⟨r9, e9, z1, z2, z3⟩ := hV.refn (t := 144) (n := 4) ha0 ka0 34 rfl (by decide) rfl (by decide); rw [← em34, e9]; exact ⟨z1, z2, z3⟩
  obtain ⟨hm35, km35, lm35⟩ : m35 ∈ L ∧ h.1 m35 = 245 ∧ h.2.1 m35 = 12 := by obtain ⟨r9, e9, z1, z2, z3⟩ := hV.refn (t := 245) (n := 12) ha0 ka0 35 rfl (by decide) rfl (by decide); rw [← em35, e9]; exact ⟨z1, z2, z3⟩
  obtain ⟨hm40, km40, lm40⟩ : m40 ∈ L ∧ h.1 m40 = 150 ∧ h.2.1 m40 = 2400 := by obtain ⟨r9, e9, z1, z2, z3⟩ := hV.refn (t := 150) (n := 2400) ha0 ka0 40 rfl (by decide) rfl (by decide); rw [← em40, e9]; exact ⟨z1, z2, z3⟩
  obtain ⟨hm41, km41, lm41⟩ : m41 ∈ L ∧ h.1 m41 = 151 ∧ h.2.1 m41 = 12 := by obtain ⟨r9, e9, z1, z2, z3⟩ := hV.refn (t := 151) (n := 12) ha0 ka0 41 rfl (by decide) rfl (by decide); rw [← em41, e9]; exact ⟨z1, z2, z3⟩
  obtain ⟨hm44, km44, lm44⟩ : m44 ∈ L ∧ h.1 m44 = 154 ∧ h.2.1 m44 = 12 := by obtain ⟨r9, e9, z1, z2, z3⟩ := hV.refn (t := 154) (n := 12) ha0 ka0 44 rfl (by decide) rfl (by decide); rw [← em44, e9]; exact ⟨z1, z2, z3⟩
  obtain ⟨hm42, km42, lm42⟩ : m42 ∈ L ∧ h.1 m42 = 152 ∧ h.2.1 m42 = 12 := by obtain ⟨r9, e9, z1, z2, z3⟩ := hV.refn (t := 152) (n := 12) ha0 ka0 42 rfl (by decide) rfl (by decide); rw [← em42, e9]; exact ⟨z1, z2, z3⟩
  obtain ⟨hm43, km43, lm43⟩ : m43 ∈ L ∧ h.1 m43 = 153 ∧ h.2.1 m43 = 12 := by obtain ⟨r9, e9, z1, z2, z3⟩ := hV.refn (t := 153) (n := 12) ha0 ka0 43 rfl (by decide) rfl (by decide); rw [← em43, e9]; exact ⟨z1, z2, z3⟩
  obtain ⟨hm46, km46, lm46⟩ : m46 ∈ L ∧ h.1 m46 = 156 ∧ h.2.1 m46 = 144 := by obtain ⟨r9, e9, z1, z2, z3⟩ := hV.refn (t := 156) (n := 144) ha0 ka0 46 rfl (by decide) rfl (by decide); rw [← em46, e9]; exact ⟨z1, z2, z3⟩
  obtain ⟨hm47, km47, lm47⟩ : m47 ∈ L ∧ h.1 m47 = 157 ∧ h.2.1 m47 = 4096 := by obtain ⟨r9, e9, z1, z2, z3⟩ := hV.refn (t := 157) (n := 4096) ha0 ka0 47 rfl (by decide) rfl (by decide); rw [← em47, e9]; exact ⟨z1, z2, z3⟩
  obtain ⟨hm48, km48, lm48⟩ : m48 ∈ L ∧ h.1 m48 = 158 ∧ h.2.1 m48 = 12 := by obtain ⟨r9, e9, z1, z2, z3⟩ := hV.refn (t := 158) (n := 12) ha0 ka0 48 rfl (by decide) rfl (by decide); rw [← em48, e9]; exact ⟨z1, z2, z3⟩
  show WA l dC dI h L ({ frames := 6, cells := 0, slots := 0, locals := 146 } : Room) 7 Z q 0 [(0, .ref a0)] []
  refine wa_aload_n B dX12_match_0 rfl 0 rfl ?_
  refine wa_iconst B 0 dX12_match_1 (by decide) ?_
  refine wa_putI B (C := RX12) (T := TX12) (N := 51) iq_X12_match_X12 ha0 ka0 (by decide) rfl 0 (by decide) (by decide) (by decide +kernel) rfl (by decide) (v := 0) (ty := .int) tyX12 tyX12_ok nmX12 rfl (by decide +kernel) rfl rfl dX12_match_2 (fun q_1 eq_1 => ?_)
  have hV_q_1 : sx_V h L q_1 := by rw [eq_1]; exact hV.pI ka0 trivial
  have hF_q_1 : sx_fr h L (fun a => h.1 a = 12 ∨ h.1 a = 113 ∨ h.1 a = 133 ∨ h.1 a = 134 ∨ h.1 a = 135 ∨ h.1 a = 138 ∨ h.1 a = 139 ∨ h.1 a = 140 ∨ h.1 a = 136 ∨ h.1 a = 137 ∨ h.1 a = 144 ∨ h.1 a = 245 ∨ h.1 a = 156 ∨ h.1 a = 157 ∨ h.1 a = 158) q q_1 := hF.tr (by rw [eq_1]; exact sx_fr.pI (show h.1 a0 = 12 ∨ h.1 a0 = 113 ∨ h.1 a0 = 133 ∨ h.1 a0 = 134 ∨ h.1 a0 = 135 ∨ h.1 a0 = 138 ∨ h.1 a0 = 139 ∨ h.1 a0 = 140 ∨ h.1 a0 = 136 ∨ h.1 a0 = 137 ∨ h.1 a0 = 144 ∨ h.1 a0 = 245 ∨ h.1 a0 = 156 ∨ h.1 a0 = 157 ∨ h.1 a0 = 158 from by omega))
  have z_2 : q_1.1 a0 0 = 0 := by rw [eq_1]; exact sg_pI_e
  have hK_q_1 : sx_kf a0 [0, 49, 50, 4, 14, 15, 32, 33, 36, 37, 38, 39, 5, 10, 6, 7, 8, 9, 11, 12, 13] q q_1 := hK.tr (by rw [eq_1]; exact sx_kf.pI (by decide))
  have mN_q_1 : mv_N a0 q_1 := mv_N.eq ((show q_1.1 a0 8 = q.1 a0 8 from by rw [eq_1]; exact sg_pI_k (by decide))) ((show q_1.2.1 a0 11 = q.2.1 a0 11 from by rw [eq_1]; rfl)) mN
  have mS_q_1 : mv_S m23 m26 m28 m29 q_1 := mv_S.eq ((show q_1.2.2.2.1 m23 = q.2.2.2.1 m23 from by rw [eq_1]; rfl)) ((show q_1.2.2.2.1 m26 = q.2.2.2.1 m26 from by rw [eq_1]; rfl)) ((show q_1.2.2.2.1 m28 = q.2.2.2.1 m28 from by rw [eq_1]; rfl)) ((show q_1.2.2.2.1 m29 = q.2.2.2.1 m29 from by rw [eq_1]; rfl)) mS
  have mL_q_1 : mv_L m40 m41 m44 a0 q_1 := mv_L.eq ((show q_1.2.2.2.1 m40 = q.2.2.2.1 m40 from by rw [eq_1]; rfl)) ((show q_1.2.2.2.1 m41 = q.2.2.2.1 m41 from by rw [eq_1]; rfl)) ((show q_1.2.2.2.1 m44 = q.2.2.2.1 m44 from by rw [eq_1]; rfl)) ((show q_1.1 a0 45 = q.1 a0 45 from by rw [eq_1]; exact sg_pI_k (by decide))) mL
  refine wa_aload_n B dX12_match_5 rfl 0 rfl ?_
  refine wa_getI B (C := RX12) (T := TX12) (N := 51) iq_X12_match_X12 ha0 ka0 (by decide) rfl 45 (by decide) (by decide) (by decide +kernel) rfl (by decide) (v := (q_1.1 a0 45)) rfl dX12_match_6 ?_
  have g_3 : (0 : Int) ≤ (q_1.1 a0 45).toInt ∧ (q_1.1 a0 45).toInt ≤ 12 := hV_q_1.int ha0 ka0 45
  refine wa_istore_n B [(1, .int (q_1.1 a0 45)), (0, .ref a0)] dX12_match_9 rfl (by decide) rfl ?_
  refine wa_iconst B 0 dX12_match_10 (by decide) ?_
  refine wa_istore_n B [(2, .int 0), (1, .int (q_1.1 a0 45)), (0, .ref a0)] dX12_match_11 rfl (by decide) rfl ?_
  have z_6 : q_1.2.2.1 a0 3 = m3 := ((show q_1.2.2.1 a0 3 = q.2.2.1 a0 3 from by rw [eq_1]; rfl)).trans (em3)
  have z_7 : q_1.2.2.1 a0 18 = m18 := ((show q_1.2.2.1 a0 18 = q.2.2.1 a0 18 from by rw [eq_1]; rfl)).trans (em18)
  have z_8 : q_1.2.2.1 a0 19 = m19 := ((show q_1.2.2.1 a0 19 = q.2.2.1 a0 19 from by rw [eq_1]; rfl)).trans (em19)
  have z_9 : q_1.2.2.1 a0 23 = m23 := ((show q_1.2.2.1 a0 23 = q.2.2.1 a0 23 from by rw [eq_1]; rfl)).trans (em23)
  have z_10 : q_1.2.2.1 a0 24 = m24 := ((show q_1.2.2.1 a0 24 = q.2.2.1 a0 24 from by rw [eq_1]; rfl)).trans (em24)
  have z_11 : q_1.2.2.1 a0 25 = m25 := ((show q_1.2.2.1 a0 25 = q.2.2.1 a0 25 from by rw [eq_1]; rfl)).trans (em25)
  have z_12 : q_1.2.2.1 a0 26 = m26 := ((show q_1.2.2.1 a0 26 = q.2.2.1 a0 26 from by rw [eq_1]; rfl)).trans (em26)
  have z_13 : q_1.2.2.1 a0 27 = m27 := ((show q_1.2.2.1 a0 27 = q.2.2.1 a0 27 from by rw [eq_1]; rfl)).trans (em27)
  have z_14 : q_1.2.2.1 a0 28 = m28 := ((show q_1.2.2.1 a0 28 = q.2.2.1 a0 28 from by rw [eq_1]; rfl)).trans (em28)
  have z_15 : q_1.2.2.1 a0 29 = m29 := ((show q_1.2.2.1 a0 29 = q.2.2.1 a0 29 from by rw [eq_1]; rfl)).trans (em29)
  have z_16 : q_1.2.2.1 a0 30 = m30 := ((show q_1.2.2.1 a0 30 = q.2.2.1 a0 30 from by rw [eq_1]; rfl)).trans (em30)
  have z_17 : q_1.2.2.1 a0 34 = m34 := ((show q_1.2.2.1 a0 34 = q.2.2.1 a0 34 from by rw [eq_1]; rfl)).trans (em34)
  have z_18 : q_1.2.2.1 a0 35 = m35 := ((show q_1.2.2.1 a0 35 = q.2.2.1 a0 35 from by rw [eq_1]; rfl)).trans (em35)
  have z_19 : q_1.2.2.1 a0 40 = m40 := ((show q_1.2.2.1 a0 40 = q.2.2.1 a0 40 from by rw [eq_1]; rfl)).trans (em40)
  have z_20 : q_1.2.2.1 a0 41 = m41 := ((show q_1.2.2.1 a0 41 = q.2.2.1 a0 41 from by rw [eq_1]; rfl)).trans (em41)
  have z_21 : q_1.2.2.1 a0 44 = m44 := ((show q_1.2.2.1 a0 44 = q.2.2.1 a0 44 from by rw [eq_1]; rfl)).trans (em44)
  have z_22 : q_1.2.2.1 a0 42 = m42 := ((show q_1.2.2.1 a0 42 = q.2.2.1 a0 42 from by rw [eq_1]; rfl)).trans (em42)
  have z_23 : q_1.2.2.1 a0 43 = m43 := ((show q_1.2.2.1 a0 43 = q.2.2.1 a0 43 from by rw [eq_1]; rfl)).trans (em43)
  have z_24 : q_1.2.2.1 a0 46 = m46 := ((show q_1.2.2.1 a0 46 = q.2.2.1 a0 46 from by rw [eq_1]; rfl)).trans (em46)
  have z_25 : q_1.2.2.1 a0 47 = m47 := ((show q_1.2.2.1 a0 47 = q.2.2.1 a0 47 from by rw [eq_1]; rfl)).trans (em47)
  have z_26 : q_1.2.2.1 a0 48 = m48 := ((show q_1.2.2.1 a0 48 = q.2.2.1 a0 48 from by rw [eq_1]; rfl)).trans (em48)
  have z_27 : q_1.2.2.2.1 m3 = q.2.2.2.1 m3 := (show q_1.2.2.2.1 m3 = q.2.2.2.1 m3 from by rw [eq_1]; rfl)
  have z_28 : q_1.2.2.2.1 m18 = q.2.2.2.1 m18 := (show q_1.2.2.2.1 m18 = q.2.2.2.1 m18 from by rw [eq_1]; rfl)
  have z_29 : q_1.2.2.2.1 m19 = q.2.2.2.1 m19 := (show q_1.2.2.2.1 m19 = q.2.2.2.1 m19 from by rw [eq_1]; rfl)
  have z_30 : q_1.2.2.2.1 m23 = q.2.2.2.1 m23 := (show q_1.2.2.2.1 m23 = q.2.2.2.1 m23 from by rw [eq_1]; rfl)
  have z_31 : q_1.2.2.2.1 m24 = q.2.2.2.1 m24 := (show q_1.2.2.2.1 m24 = q.2.2.2.1 m24 from by rw [eq_1]; rfl)
  have z_32 : q_1.2.2.2.1 m25 = q.2.2.2.1 m25 := (show q_1.2.2.2.1 m25 = q.2.2.2.1 m25 from by rw [eq_1]; rfl)
  have z_33 : q_1.2.2.2.1 m26 = q.2.2.2.1 m26 := (show q_1.2.2.2.1 m26 = q.2.2.2.1 m26 from by rw [eq_1]; rfl)
  have z_34 : q_1.2.2.2.1 m27 = q.2.2.2.1 m27 := (show q_1.2.2.2.1 m27 = q.2.2.2.1 m27 from by rw [eq_1]; rfl)
  have z_35 : q_1.2.2.2.1 m28 = q.2.2.2.1 m28 := (show q_1.2.2.2.1 m28 = q.2.2.2.1 m28 from by rw [eq_1]; rfl)
  have z_36 : q_1.2.2.2.1 m29 = q.2.2.2.1 m29 := (show q_1.2.2.2.1 m29 = q.2.2.2.1 m29 from by rw [eq_1]; rfl)
  have z_37 : q_1.2.2.2.1 m30 = q.2.2.2.1 m30 := (show q_1.2.2.2.1 m30 = q.2.2.2.1 m30 from by rw [eq_1]; rfl)
  have z_38 : q_1.2.2.2.1 m34 = q.2.2.2.1 m34 := (show q_1.2.2.2.1 m34 = q.2.2.2.1 m34 from by rw [eq_1]; rfl)
  have z_39 : q_1.2.2.2.1 m40 = q.2.2.2.1 m40 := (show q_1.2.2.2.1 m40 = q.2.2.2.1 m40 from by rw [eq_1]; rfl)
  have z_40 : q_1.2.2.2.1 m41 = q.2.2.2.1 m41 := (show q_1.2.2.2.1 m41 = q.2.2.2.1 m41 from by rw [eq_1]; rfl)
  have z_41 : q_1.2.2.2.1 m44 = q.2.2.2.1 m44 := (show q_1.2.2.2.1 m44 = q.2.2.2.1 m44 from by rw [eq_1]; rfl)
  have z_42 : q_1.2.2.2.1 m42 = q.2.2.2.1 m42 := (show q_1.2.2.2.1 m42 = q.2.2.2.1 m42 from by rw [eq_1]; rfl)
  have z_43 : q_1.2.2.2.1 m43 = q.2.2.2.1 m43 := (show q_1.2.2.2.1 m43 = q.2.2.2.1 m43 from by rw [eq_1]; rfl)
  have z_44 : q_1.2.2.2.1 m46 = q.2.2.2.1 m46 := (show q_1.2.2.2.1 m46 = q.2.2.2.1 m46 from by rw [eq_1]; rfl)
  have z_45 : q_1.2.2.2.1 m47 = q.2.2.2.1 m47 := (show q_1.2.2.2.1 m47 = q.2.2.2.1 m47 from by rw [eq_1]; rfl)
  have z_46 : q_1.2.2.2.1 m48 = q.2.2.2.1 m48 := (show q_1.2.2.2.1 m48 = q.2.2.2.1 m48 from by rw [eq_1]; rfl)
  have z_47 : q_1.2.2.2.2 m35 = q.2.2.2.2 m35 := (show q_1.2.2.2.2 m35 = q.2.2.2.2 m35 from by rw [eq_1]; rfl)
  have Lp_12_49 : ∀ (n : Nat) (v_4 : Int32) (q_5 : Sg), sx_V h L q_5 → sx_fr h L (fun a => h.1 a = 12 ∨ h.1 a = 113 ∨ h.1 a = 133 ∨ h.1 a = 134 ∨ h.1 a = 135 ∨ h.1 a = 138 ∨ h.1 a = 139 ∨ h.1 a = 140 ∨ h.1 a = 136 ∨ h.1 a = 137 ∨ h.1 a = 144 ∨ h.1 a = 245 ∨ h.1 a = 156 ∨ h.1 a = 157 ∨ h.1 a = 158) q q_5 → sx_kf a0 [0, 49, 50, 4, 14, 15, 32, 33, 36, 37, 38, 39, 5, 10, 6, 7, 8, 9, 11, 12, 13] q q_5 → mv_N a0 q_5 → mv_S m23 m26 m28 m29 q_5 → mv_L m40 m41 m44 a0 q_5 → q_5.1 a0 0 = 0 → q_5.1 a0 45 = (q_1.1 a0 45) → q_5.2.2.1 a0 3 = m3 → q_5.2.2.1 a0 18 = m18 → q_5.2.2.1 a0 19 = m19 → q_5.2.2.1 a0 23 = m23 → q_5.2.2.1 a0 24 = m24 → q_5.2.2.1 a0 25 = m25 → q_5.2.2.1 a0 26 = m26 → q_5.2.2.1 a0 27 = m27 → q_5.2.2.1 a0 28 = m28 → q_5.2.2.1 a0 29 = m29 → q_5.2.2.1 a0 30 = m30 → q_5.2.2.1 a0 34 = m34 → q_5.2.2.1 a0 35 = m35 → q_5.2.2.1 a0 40 = m40 → q_5.2.2.1 a0 41 = m41 → q_5.2.2.1 a0 44 = m44 → q_5.2.2.1 a0 42 = m42 → q_5.2.2.1 a0 43 = m43 → q_5.2.2.1 a0 46 = m46 → q_5.2.2.1 a0 47 = m47 → q_5.2.2.1 a0 48 = m48 → 0 ≤ v_4.toInt → ((q_1.1 a0 45).toInt - v_4.toInt : Int).toNat < n → WA l dC dI h L ({ frames := 6, cells := 0, slots := 0, locals := 146 } : Room) 7 Z q_5 12 [(2, .int v_4), (1, .int (q_1.1 a0 45)), (0, .ref a0)] [] := by
    intro n
    induction n with
    | zero =>
      intro v_4 q_5 hV_q_5 hF_q_5 hK_q_5 mN_q_5 mS_q_5 mL_q_5 p0_q_5 p1_q_5 p2_q_5 p3_q_5 p4_q_5 p5_q_5 p6_q_5 p7_q_5 p8_q_5 p9_q_5 p10_q_5 p11_q_5 p12_q_5 p13_q_5 p14_q_5 p15_q_5 p16_q_5 p17_q_5 p18_q_5 p19_q_5 p20_q_5 p21_q_5 p22_q_5 x_48 hn
      exact absurd hn (Nat.not_lt_zero _)
    | succ n ih_50 =>
      intro v_4 q_5 hV_q_5 hF_q_5 hK_q_5 mN_q_5 mS_q_5 mL_q_5 p0_q_5 p1_q_5 p2_q_5 p3_q_5 p4_q_5 p5_q_5 p6_q_5 p7_q_5 p8_q_5 p9_q_5 p10_q_5 p11_q_5 p12_q_5 p13_q_5 p14_q_5 p15_q_5 p16_q_5 p17_q_5 p18_q_5 p19_q_5 p20_q_5 p21_q_5 p22_q_5 x_48 hn
      refine wa_iload_n B dX12_match_12 rfl 0 rfl ?_
      refine wa_iload_n B dX12_match_13 rfl 1 rfl ?_
      refine wa_icmp_ge B 94 dX12_match_14 (by decide) (fun (t_51 : (q_1.1 a0 45).toInt ≤ v_4.toInt) => ?_) (fun (t_51 : ¬ (q_1.1 a0 45).toInt ≤ v_4.toInt) => ?_)
      · refine wa_aload_n B dX12_match_94 rfl 2 rfl ?_
        refine wa_getR B (C := RX12) (T := TX12) (N := 51) iq_X12_match_X12 ha0 ka0 (by decide) rfl 47 (by decide) (by decide) (by decide +kernel) rfl (fun _ _ _ => rfl) (v := m47) p21_q_5 dX12_match_95 ?_
        refine wa_iconst B 0 dX12_match_98 (by decide) ?_
        refine wa_iconst B 0 dX12_match_99 (by decide) ?_
        refine wa_iastore B hm47 km47 (by decide) (by decide) (show (0 : Int) ≤ _ by decide) (show (0 : Int) < (h.2.1 m47 : Int) by omega) dX12_match_100 (fun q_52 eq_52 => ?_)
        have hV_q_52 : sx_V h L q_52 := by rw [eq_52]; exact hV_q_5.up1 hm47 km47 trivial
        have hF_q_52 : sx_fr h L (fun a => h.1 a = 12 ∨ h.1 a = 113 ∨ h.1 a = 133 ∨ h.1 a = 134 ∨ h.1 a = 135 ∨ h.1 a = 138 ∨ h.1 a = 139 ∨ h.1 a = 140 ∨ h.1 a = 136 ∨ h.1 a = 137 ∨ h.1 a = 144 ∨ h.1 a = 245 ∨ h.1 a = 156 ∨ h.1 a = 157 ∨ h.1 a = 158) q q_52 := hF_q_5.tr (by rw [eq_52]; exact sx_fr.pG (show h.1 m47 = 100 ∨ (h.1 m47 = 12 ∨ h.1 m47 = 113 ∨ h.1 m47 = 133 ∨ h.1 m47 = 134 ∨ h.1 m47 = 135 ∨ h.1 m47 = 138 ∨ h.1 m47 = 139 ∨ h.1 m47 = 140 ∨ h.1 m47 = 136 ∨ h.1 m47 = 137 ∨ h.1 m47 = 144 ∨ h.1 m47 = 245 ∨ h.1 m47 = 156 ∨ h.1 m47 = 157 ∨ h.1 m47 = 158) from by omega))
        have z_53 : q_52.2.2.2.1 m47 = (upd (q_5.2.2.2.1 m47) (0 : Int32).toNatClampNeg 0) := by rw [eq_52, sg_pG_e]
        have z_54 : q_52.2.2.2.1 m47 (0 : Int32).toNatClampNeg = 0 := by rw [eq_52, sg_pG_e]; exact if_pos rfl
        have hK_q_52 : sx_kf a0 [0, 49, 50, 4, 14, 15, 32, 33, 36, 37, 38, 39, 5, 10, 6, 7, 8, 9, 11, 12, 13] q q_52 := hK_q_5.tr (sx_kf.eq (by rw [eq_52]; rfl) (by rw [eq_52]; rfl))
        have mN_q_52 : mv_N a0 q_52 := mv_N.eq ((show q_52.1 a0 8 = q_5.1 a0 8 from by rw [eq_52]; rfl)) ((show q_52.2.1 a0 11 = q_5.2.1 a0 11 from by rw [eq_52]; rfl)) mN_q_5
        have mS_q_52 : mv_S m23 m26 m28 m29 q_52 := mv_S.eq ((show q_52.2.2.2.1 m23 = q_5.2.2.2.1 m23 from by rw [eq_52]; exact sg_pG_a (sx_ka h km23 km47 (by decide)))) ((show q_52.2.2.2.1 m26 = q_5.2.2.2.1 m26 from by rw [eq_52]; exact sg_pG_a (sx_ka h km26 km47 (by decide)))) ((show q_52.2.2.2.1 m28 = q_5.2.2.2.1 m28 from by rw [eq_52]; exact sg_pG_a (sx_ka h km28 km47 (by decide)))) ((show q_52.2.2.2.1 m29 = q_5.2.2.2.1 m29 from by rw [eq_52]; exact sg_pG_a (sx_ka h km29 km47 (by decide)))) mS_q_5
        have mL_q_52 : mv_L m40 m41 m44 a0 q_52 := mv_L.eq ((show q_52.2.2.2.1 m40 = q_5.2.2.2.1 m40 from by rw [eq_52]; exact sg_pG_a (sx_ka h km40 km47 (by decide)))) ((show q_52.2.2.2.1 m41 = q_5.2.2.2.1 m41 from by rw [eq_52]; exact sg_pG_a (sx_ka h km41 km47 (by decide)))) ((show q_52.2.2.2.1 m44 = q_5.2.2.2.1 m44 from by rw [eq_52]; exact sg_pG_a (sx_ka h km44 km47 (by decide)))) ((show q_52.1 a0 45 = q_5.1 a0 45 from by rw [eq_52]; rfl)) mL_q_5
        refine wa_iconst B 1 dX12_match_101 (by decide) ?_
        refine wa_istore_n B [(2, .int 1), (1, .int (q_1.1 a0 45)), (0, .ref a0)] dX12_match_102 rfl (by decide) rfl ?_
        have z_57 : q_52.1 a0 0 = 0 := ((show q_52.1 a0 0 = q_5.1 a0 0 from by rw [eq_52]; rfl)).trans (p0_q_5)
        have z_58 : q_52.1 a0 45 = (q_1.1 a0 45) := ((show q_52.1 a0 45 = q_5.1 a0 45 from by rw [eq_52]; rfl)).trans (p1_q_5)
        have z_59 : q_52.2.2.1 a0 3 = m3 := ((show q_52.2.2.1 a0 3 = q_5.2.2.1 a0 3 from by rw [eq_52]; rfl)).trans (p2_q_5)
        have z_60 : q_52.2.2.1 a0 18 = m18 := ((show q_52.2.2.1 a0 18 = q_5.2.2.1 a0 18 from by rw [eq_52]; rfl)).trans (p3_q_5)
        have z_61 : q_52.2.2.1 a0 19 = m19 := ((show q_52.2.2.1 a0 19 = q_5.2.2.1 a0 19 from by rw [eq_52]; rfl)).trans (p4_q_5)
        have z_62 : q_52.2.2.1 a0 23 = m23 := ((show q_52.2.2.1 a0 23 = q_5.2.2.1 a0 23 from by rw [eq_52]; rfl)).trans (p5_q_5)
        have z_63 : q_52.2.2.1 a0 24 = m24 := ((show q_52.2.2.1 a0 24 = q_5.2.2.1 a0 24 from by rw [eq_52]; rfl)).trans (p6_q_5)
        have z_64 : q_52.2.2.1 a0 25 = m25 := ((show q_52.2.2.1 a0 25 = q_5.2.2.1 a0 25 from by rw [eq_52]; rfl)).trans (p7_q_5)
        have z_65 : q_52.2.2.1 a0 26 = m26 := ((show q_52.2.2.1 a0 26 = q_5.2.2.1 a0 26 from by rw [eq_52]; rfl)).trans (p8_q_5)
        have z_66 : q_52.2.2.1 a0 27 = m27 := ((show q_52.2.2.1 a0 27 = q_5.2.2.1 a0 27 from by rw [eq_52]; rfl)).trans (p9_q_5)
        have z_67 : q_52.2.2.1 a0 28 = m28 := ((show q_52.2.2.1 a0 28 = q_5.2.2.1 a0 28 from by rw [eq_52]; rfl)).trans (p10_q_5)
        have z_68 : q_52.2.2.1 a0 29 = m29 := ((show q_52.2.2.1 a0 29 = q_5.2.2.1 a0 29 from by rw [eq_52]; rfl)).trans (p11_q_5)
        have z_69 : q_52.2.2.1 a0 30 = m30 := ((show q_52.2.2.1 a0 30 = q_5.2.2.1 a0 30 from by rw [eq_52]; rfl)).trans (p12_q_5)
        have z_70 : q_52.2.2.1 a0 34 = m34 := ((show q_52.2.2.1 a0 34 = q_5.2.2.1 a0 34 from by rw [eq_52]; rfl)).trans (p13_q_5)
        have z_71 : q_52.2.2.1 a0 35 = m35 := ((show q_52.2.2.1 a0 35 = q_5.2.2.1 a0 35 from by rw [eq_52]; rfl)).trans (p14_q_5)
        have z_72 : q_52.2.2.1 a0 40 = m40 := ((show q_52.2.2.1 a0 40 = q_5.2.2.1 a0 40 from by rw [eq_52]; rfl)).trans (p15_q_5)
        have z_73 : q_52.2.2.1 a0 41 = m41 := ((show q_52.2.2.1 a0 41 = q_5.2.2.1 a0 41 from by rw [eq_52]; rfl)).trans (p16_q_5)
        have z_74 : q_52.2.2.1 a0 44 = m44 := ((show q_52.2.2.1 a0 44 = q_5.2.2.1 a0 44 from by rw [eq_52]; rfl)).trans (p17_q_5)
        have z_75 : q_52.2.2.1 a0 42 = m42 := ((show q_52.2.2.1 a0 42 = q_5.2.2.1 a0 42 from by rw [eq_52]; rfl)).trans (p18_q_5)
        have z_76 : q_52.2.2.1 a0 43 = m43 := ((show q_52.2.2.1 a0 43 = q_5.2.2.1 a0 43 from by rw [eq_52]; rfl)).trans (p19_q_5)
        have z_77 : q_52.2.2.1 a0 46 = m46 := ((show q_52.2.2.1 a0 46 = q_5.2.2.1 a0 46 from by rw [eq_52]; rfl)).trans (p20_q_5)
        have z_78 : q_52.2.2.1 a0 47 = m47 := ((show q_52.2.2.1 a0 47 = q_5.2.2.1 a0 47 from by rw [eq_52]; rfl)).trans (p21_q_5)
        have z_79 : q_52.2.2.1 a0 48 = m48 := ((show q_52.2.2.1 a0 48 = q_5.2.2.1 a0 48 from by rw [eq_52]; rfl)).trans (p22_q_5)
        have Lp_103_82 : ∀ (n : Nat) (v_55 : Int32) (q_56 : Sg), sx_V h L q_56 → sx_fr h L (fun a => h.1 a = 12 ∨ h.1 a = 113 ∨ h.1 a = 133 ∨ h.1 a = 134 ∨ h.1 a = 135 ∨ h.1 a = 138 ∨ h.1 a = 139 ∨ h.1 a = 140 ∨ h.1 a = 136 ∨ h.1 a = 137 ∨ h.1 a = 144 ∨ h.1 a = 245 ∨ h.1 a = 156 ∨ h.1 a = 157 ∨ h.1 a = 158) q q_56 → sx_kf a0 [0, 49, 50, 4, 14, 15, 32, 33, 36, 37, 38, 39, 5, 10, 6, 7, 8, 9, 11, 12, 13] q q_56 → mv_N a0 q_56 → mv_S m23 m26 m28 m29 q_56 → mv_L m40 m41 m44 a0 q_56 → q_56.1 a0 0 = 0 → q_56.1 a0 45 = (q_1.1 a0 45) → q_56.2.2.1 a0 3 = m3 → q_56.2.2.1 a0 18 = m18 → q_56.2.2.1 a0 19 = m19 → q_56.2.2.1 a0 23 = m23 → q_56.2.2.1 a0 24 = m24 → q_56.2.2.1 a0 25 = m25 → q_56.2.2.1 a0 26 = m26 → q_56.2.2.1 a0 27 = m27 → q_56.2.2.1 a0 28 = m28 → q_56.2.2.1 a0 29 = m29 → q_56.2.2.1 a0 30 = m30 → q_56.2.2.1 a0 34 = m34 → q_56.2.2.1 a0 35 = m35 → q_56.2.2.1 a0 40 = m40 → q_56.2.2.1 a0 41 = m41 → q_56.2.2.1 a0 44 = m44 → q_56.2.2.1 a0 42 = m42 → q_56.2.2.1 a0 43 = m43 → q_56.2.2.1 a0 46 = m46 → q_56.2.2.1 a0 47 = m47 → q_56.2.2.1 a0 48 = m48 → 1 ≤ v_55.toInt → v_55.toInt ≤ 4096 → (4097 - v_55.toInt : Int).toNat < n → WA l dC dI h L ({ frames := 6, cells := 0, slots := 0, locals := 146 } : Room) 7 Z q_56 103 [(2, .int v_55), (1, .int (q_1.1 a0 45)), (0, .ref a0)] [] := by
          intro n
          induction n with
          | zero =>
            intro v_55 q_56 hV_q_56 hF_q_56 hK_q_56 mN_q_56 mS_q_56 mL_q_56 p0_q_56 p1_q_56 p2_q_56 p3_q_56 p4_q_56 p5_q_56 p6_q_56 p7_q_56 p8_q_56 p9_q_56 p10_q_56 p11_q_56 p12_q_56 p13_q_56 p14_q_56 p15_q_56 p16_q_56 p17_q_56 p18_q_56 p19_q_56 p20_q_56 p21_q_56 p22_q_56 x_80 x_81 hn
            exact absurd hn (Nat.not_lt_zero _)
          | succ n ih_83 =>
            intro v_55 q_56 hV_q_56 hF_q_56 hK_q_56 mN_q_56 mS_q_56 mL_q_56 p0_q_56 p1_q_56 p2_q_56 p3_q_56 p4_q_56 p5_q_56 p6_q_56 p7_q_56 p8_q_56 p9_q_56 p10_q_56 p11_q_56 p12_q_56 p13_q_56 p14_q_56 p15_q_56 p16_q_56 p17_q_56 p18_q_56 p19_q_56 p20_q_56 p21_q_56 p22_q_56 x_80 x_81 hn
            refine wa_iload_n B dX12_match_103 rfl 0 rfl ?_
            refine wa_iconst B 1 dX12_match_104 (by decide) ?_
            refine wa_iload_n B dX12_match_105 rfl 1 rfl ?_
            refine wa_ishl B dX12_match_106 (fun v_84 ev_84 => ?_)
            have gv_84 : 1 ≤ v_84.toInt ∧ v_84.toInt ≤ 4096 := by rw [ev_84]; exact zx_shl1 (by omega) (by omega)
            refine wa_icmp_ge B 236 dX12_match_107 (by decide) (fun (t_85 : v_84.toInt ≤ v_55.toInt) => ?_) (fun (t_85 : ¬ v_84.toInt ≤ v_55.toInt) => ?_)
            · refine wa_aload_n B dX12_match_236 rfl 2 rfl ?_
              refine wa_iconst B 1 dX12_match_237 (by decide) ?_
              refine wa_putI B (C := RX12) (T := TX12) (N := 51) iq_X12_match_X12 ha0 ka0 (by decide) rfl 50 (by decide) (by decide) (by decide +kernel) rfl (by decide) (v := 1) (ty := .boolean) tyX12 tyX12_ok nmX12 rfl (by decide +kernel) rfl rfl dX12_match_238 (fun q_86 eq_86 => ?_)
              have hV_q_86 : sx_V h L q_86 := by rw [eq_86]; exact hV_q_56.pI ka0 trivial
              have hF_q_86 : sx_fr h L (fun a => h.1 a = 12 ∨ h.1 a = 113 ∨ h.1 a = 133 ∨ h.1 a = 134 ∨ h.1 a = 135 ∨ h.1 a = 138 ∨ h.1 a = 139 ∨ h.1 a = 140 ∨ h.1 a = 136 ∨ h.1 a = 137 ∨ h.1 a = 144 ∨ h.1 a = 245 ∨ h.1 a = 156 ∨ h.1 a = 157 ∨ h.1 a = 158) q q_86 := hF_q_56.tr (by rw [eq_86]; exact sx_fr.pI (show h.1 a0 = 12 ∨ h.1 a0 = 113 ∨ h.1 a0 = 133 ∨ h.1 a0 = 134 ∨ h.1 a0 = 135 ∨ h.1 a0 = 138 ∨ h.1 a0 = 139 ∨ h.1 a0 = 140 ∨ h.1 a0 = 136 ∨ h.1 a0 = 137 ∨ h.1 a0 = 144 ∨ h.1 a0 = 245 ∨ h.1 a0 = 156 ∨ h.1 a0 = 157 ∨ h.1 a0 = 158 from by omega))
              have z_87 : q_86.1 a0 50 = 1 := by rw [eq_86]; exact sg_pI_e
              have hK_q_86 : sx_kf a0 [0, 49, 50, 4, 14, 15, 32, 33, 36, 37, 38, 39, 5, 10, 6, 7, 8, 9, 11, 12, 13] q q_86 := hK_q_56.tr (by rw [eq_86]; exact sx_kf.pI (by decide))
              have mN_q_86 : mv_N a0 q_86 := mv_N.eq ((show q_86.1 a0 8 = q_56.1 a0 8 from by rw [eq_86]; exact sg_pI_k (by decide))) ((show q_86.2.1 a0 11 = q_56.2.1 a0 11 from by rw [eq_86]; rfl)) mN_q_56
              have mS_q_86 : mv_S m23 m26 m28 m29 q_86 := mv_S.eq ((show q_86.2.2.2.1 m23 = q_56.2.2.2.1 m23 from by rw [eq_86]; rfl)) ((show q_86.2.2.2.1 m26 = q_56.2.2.2.1 m26 from by rw [eq_86]; rfl)) ((show q_86.2.2.2.1 m28 = q_56.2.2.2.1 m28 from by rw [eq_86]; rfl)) ((show q_86.2.2.2.1 m29 = q_56.2.2.2.1 m29 from by rw [eq_86]; rfl)) mS_q_56
              have mL_q_86 : mv_L m40 m41 m44 a0 q_86 := mv_L.eq ((show q_86.2.2.2.1 m40 = q_56.2.2.2.1 m40 from by rw [eq_86]; rfl)) ((show q_86.2.2.2.1 m41 = q_56.2.2.2.1 m41 from by rw [eq_86]; rfl)) ((show q_86.2.2.2.1 m44 = q_56.2.2.2.1 m44 from by rw [eq_86]; rfl)) ((show q_86.1 a0 45 = q_56.1 a0 45 from by rw [eq_86]; exact sg_pI_k (by decide))) mL_q_56
              refine wa_aload_n B dX12_match_241 rfl 2 rfl ?_
              refine wa_iconst B 0 dX12_match_242 (by decide) ?_
              refine wa_putI B (C := RX12) (T := TX12) (N := 51) iq_X12_match_X12 ha0 ka0 (by decide) rfl 49 (by decide) (by decide) (by decide +kernel) rfl (by decide) (v := 0) (ty := .int) tyX12 tyX12_ok nmX12 rfl (by decide +kernel) rfl rfl dX12_match_243 (fun q_88 eq_88 => ?_)
              have hV_q_88 : sx_V h L q_88 := by rw [eq_88]; exact hV_q_86.pI ka0 trivial
              have hF_q_88 : sx_fr h L (fun a => h.1 a = 12 ∨ h.1 a = 113 ∨ h.1 a = 133 ∨ h.1 a = 134 ∨ h.1 a = 135 ∨ h.1 a = 138 ∨ h.1 a = 139 ∨ h.1 a = 140 ∨ h.1 a = 136 ∨ h.1 a = 137 ∨ h.1 a = 144 ∨ h.1 a = 245 ∨ h.1 a = 156 ∨ h.1 a = 157 ∨ h.1 a = 158) q q_88 := hF_q_86.tr (by rw [eq_88]; exact sx_fr.pI (show h.1 a0 = 12 ∨ h.1 a0 = 113 ∨ h.1 a0 = 133 ∨ h.1 a0 = 134 ∨ h.1 a0 = 135 ∨ h.1 a0 = 138 ∨ h.1 a0 = 139 ∨ h.1 a0 = 140 ∨ h.1 a0 = 136 ∨ h.1 a0 = 137 ∨ h.1 a0 = 144 ∨ h.1 a0 = 245 ∨ h.1 a0 = 156 ∨ h.1 a0 = 157 ∨ h.1 a0 = 158 from by omega))
              have z_89 : q_88.1 a0 49 = 0 := by rw [eq_88]; exact sg_pI_e
              have hK_q_88 : sx_kf a0 [0, 49, 50, 4, 14, 15, 32, 33, 36, 37, 38, 39, 5, 10, 6, 7, 8, 9, 11, 12, 13] q q_88 := hK_q_86.tr (by rw [eq_88]; exact sx_kf.pI (by decide))
              have mN_q_88 : mv_N a0 q_88 := mv_N.eq ((show q_88.1 a0 8 = q_86.1 a0 8 from by rw [eq_88]; exact sg_pI_k (by decide))) ((show q_88.2.1 a0 11 = q_86.2.1 a0 11 from by rw [eq_88]; rfl)) mN_q_86
              have mS_q_88 : mv_S m23 m26 m28 m29 q_88 := mv_S.eq ((show q_88.2.2.2.1 m23 = q_86.2.2.2.1 m23 from by rw [eq_88]; rfl)) ((show q_88.2.2.2.1 m26 = q_86.2.2.2.1 m26 from by rw [eq_88]; rfl)) ((show q_88.2.2.2.1 m28 = q_86.2.2.2.1 m28 from by rw [eq_88]; rfl)) ((show q_88.2.2.2.1 m29 = q_86.2.2.2.1 m29 from by rw [eq_88]; rfl)) mS_q_86
              have mL_q_88 : mv_L m40 m41 m44 a0 q_88 := mv_L.eq ((show q_88.2.2.2.1 m40 = q_86.2.2.2.1 m40 from by rw [eq_88]; rfl)) ((show q_88.2.2.2.1 m41 = q_86.2.2.2.1 m41 from by rw [eq_88]; rfl)) ((show q_88.2.2.2.1 m44 = q_86.2.2.2.1 m44 from by rw [eq_88]; rfl)) ((show q_88.1 a0 45 = q_86.1 a0 45 from by rw [eq_88]; exact sg_pI_k (by decide))) mL_q_86
              refine wa_iconst B 0 dX12_match_246 (by decide) ?_
              refine wa_istore_n B [(2, .int 0), (1, .int (q_1.1 a0 45)), (0, .ref a0)] dX12_match_247 rfl (by decide) rfl ?_
              refine wa_iconst B 0 dX12_match_248 (by decide) ?_
              refine wa_istore_n B [(3, .int 0), (2, .int 0), (1, .int (q_1.1 a0 45)), (0, .ref a0)] dX12_match_249 rfl (by decide) rfl ?_
              have z_92 : q_88.1 a0 0 = 0 := ((show q_88.1 a0 0 = q_86.1 a0 0 from by rw [eq_88]; exact sg_pI_k (by decide))).trans (((show q_86.1 a0 0 = q_56.1 a0 0 from by rw [eq_86]; exact sg_pI_k (by decide))).trans (p0_q_56))
              have z_93 : q_88.1 a0 45 = (q_1.1 a0 45) := ((show q_88.1 a0 45 = q_86.1 a0 45 from by rw [eq_88]; exact sg_pI_k (by decide))).trans (((show q_86.1 a0 45 = q_56.1 a0 45 from by rw [eq_86]; exact sg_pI_k (by decide))).trans (p1_q_56))
              have z_94 : q_88.1 a0 50 = 1 := ((show q_88.1 a0 50 = q_86.1 a0 50 from by rw [eq_88]; exact sg_pI_k (by decide))).trans (z_87)
              have z_95 : q_88.2.2.1 a0 3 = m3 := ((show q_88.2.2.1 a0 3 = q_86.2.2.1 a0 3 from by rw [eq_88]; rfl)).trans (((show q_86.2.2.1 a0 3 = q_56.2.2.1 a0 3 from by rw [eq_86]; rfl)).trans (p2_q_56))
              have z_96 : q_88.2.2.1 a0 18 = m18 := ((show q_88.2.2.1 a0 18 = q_86.2.2.1 a0 18 from by rw [eq_88]; rfl)).trans (((show q_86.2.2.1 a0 18 = q_56.2.2.1 a0 18 from by rw [eq_86]; rfl)).trans (p3_q_56))
              have z_97 : q_88.2.2.1 a0 19 = m19 := ((show q_88.2.2.1 a0 19 = q_86.2.2.1 a0 19 from by rw [eq_88]; rfl)).trans (((show q_86.2.2.1 a0 19 = q_56.2.2.1 a0 19 from by rw [eq_86]; rfl)).trans (p4_q_56))
              have z_98 : q_88.2.2.1 a0 23 = m23 := ((show q_88.2.2.1 a0 23 = q_86.2.2.1 a0 23 from by rw [eq_88]; rfl)).trans (((show q_86.2.2.1 a0 23 = q_56.2.2.1 a0 23 from by rw [eq_86]; rfl)).trans (p5_q_56))
              have z_99 : q_88.2.2.1 a0 24 = m24 := ((show q_88.2.2.1 a0 24 = q_86.2.2.1 a0 24 from by rw [eq_88]; rfl)).trans (((show q_86.2.2.1 a0 24 = q_56.2.2.1 a0 24 from by rw [eq_86]; rfl)).trans (p6_q_56))
              have z_100 : q_88.2.2.1 a0 25 = m25 := ((show q_88.2.2.1 a0 25 = q_86.2.2.1 a0 25 from by rw [eq_88]; rfl)).trans (((show q_86.2.2.1 a0 25 = q_56.2.2.1 a0 25 from by rw [eq_86]; rfl)).trans (p7_q_56))
              have z_101 : q_88.2.2.1 a0 26 = m26 := ((show q_88.2.2.1 a0 26 = q_86.2.2.1 a0 26 from by rw [eq_88]; rfl)).trans (((show q_86.2.2.1 a0 26 = q_56.2.2.1 a0 26 from by rw [eq_86]; rfl)).trans (p8_q_56))
              have z_102 : q_88.2.2.1 a0 27 = m27 := ((show q_88.2.2.1 a0 27 = q_86.2.2.1 a0 27 from by rw [eq_88]; rfl)).trans (((show q_86.2.2.1 a0 27 = q_56.2.2.1 a0 27 from by rw [eq_86]; rfl)).trans (p9_q_56))
              have z_103 : q_88.2.2.1 a0 28 = m28 := ((show q_88.2.2.1 a0 28 = q_86.2.2.1 a0 28 from by rw [eq_88]; rfl)).trans (((show q_86.2.2.1 a0 28 = q_56.2.2.1 a0 28 from by rw [eq_86]; rfl)).trans (p10_q_56))
              have z_104 : q_88.2.2.1 a0 29 = m29 := ((show q_88.2.2.1 a0 29 = q_86.2.2.1 a0 29 from by rw [eq_88]; rfl)).trans (((show q_86.2.2.1 a0 29 = q_56.2.2.1 a0 29 from by rw [eq_86]; rfl)).trans (p11_q_56))
              have z_105 : q_88.2.2.1 a0 30 = m30 := ((show q_88.2.2.1 a0 30 = q_86.2.2.1 a0 30 from by rw [eq_88]; rfl)).trans (((show q_86.2.2.1 a0 30 = q_56.2.2.1 a0 30 from by rw [eq_86]; rfl)).trans (p12_q_56))
              have z_106 : q_88.2.2.1 a0 34 = m34 := ((show q_88.2.2.1 a0 34 = q_86.2.2.1 a0 34 from by rw [eq_88]; rfl)).trans (((show q_86.2.2.1 a0 34 = q_56.2.2.1 a0 34 from by rw [eq_86]; rfl)).trans (p13_q_56))
              have z_107 : q_88.2.2.1 a0 35 = m35 := ((show q_88.2.2.1 a0 35 = q_86.2.2.1 a0 35 from by rw [eq_88]; rfl)).trans (((show q_86.2.2.1 a0 35 = q_56.2.2.1 a0 35 from by rw [eq_86]; rfl)).trans (p14_q_56))
              have z_108 : q_88.2.2.1 a0 40 = m40 := ((show q_88.2.2.1 a0 40 = q_86.2.2.1 a0 40 from by rw [eq_88]; rfl)).trans (((show q_86.2.2.1 a0 40 = q_56.2.2.1 a0 40 from by rw [eq_86]; rfl)).trans (p15_q_56))
              have z_109 : q_88.2.2.1 a0 41 = m41 := ((show q_88.2.2.1 a0 41 = q_86.2.2.1 a0 41 from by rw [eq_88]; rfl)).trans (((show q_86.2.2.1 a0 41 = q_56.2.2.1 a0 41 from by rw [eq_86]; rfl)).trans (p16_q_56))
              have z_110 : q_88.2.2.1 a0 44 = m44 := ((show q_88.2.2.1 a0 44 = q_86.2.2.1 a0 44 from by rw [eq_88]; rfl)).trans (((show q_86.2.2.1 a0 44 = q_56.2.2.1 a0 44 from by rw [eq_86]; rfl)).trans (p17_q_56))
              have z_111 : q_88.2.2.1 a0 42 = m42 := ((show q_88.2.2.1 a0 42 = q_86.2.2.1 a0 42 from by rw [eq_88]; rfl)).trans (((show q_86.2.2.1 a0 42 = q_56.2.2.1 a0 42 from by rw [eq_86]; rfl)).trans (p18_q_56))
              have z_112 : q_88.2.2.1 a0 43 = m43 := ((show q_88.2.2.1 a0 43 = q_86.2.2.1 a0 43 from by rw [eq_88]; rfl)).trans (((show q_86.2.2.1 a0 43 = q_56.2.2.1 a0 43 from by rw [eq_86]; rfl)).trans (p19_q_56))
              have z_113 : q_88.2.2.1 a0 46 = m46 := ((show q_88.2.2.1 a0 46 = q_86.2.2.1 a0 46 from by rw [eq_88]; rfl)).trans (((show q_86.2.2.1 a0 46 = q_56.2.2.1 a0 46 from by rw [eq_86]; rfl)).trans (p20_q_56))
              have z_114 : q_88.2.2.1 a0 47 = m47 := ((show q_88.2.2.1 a0 47 = q_86.2.2.1 a0 47 from by rw [eq_88]; rfl)).trans (((show q_86.2.2.1 a0 47 = q_56.2.2.1 a0 47 from by rw [eq_86]; rfl)).trans (p21_q_56))
              have z_115 : q_88.2.2.1 a0 48 = m48 := ((show q_88.2.2.1 a0 48 = q_86.2.2.1 a0 48 from by rw [eq_88]; rfl)).trans (((show q_86.2.2.1 a0 48 = q_56.2.2.1 a0 48 from by rw [eq_86]; rfl)).trans (p22_q_56))
              have Lp_250_117 : ∀ (n : Nat) (v_90 : Int32) (q_91 : Sg), sx_V h L q_91 → sx_fr h L (fun a => h.1 a = 12 ∨ h.1 a = 113 ∨ h.1 a = 133 ∨ h.1 a = 134 ∨ h.1 a = 135 ∨ h.1 a = 138 ∨ h.1 a = 139 ∨ h.1 a = 140 ∨ h.1 a = 136 ∨ h.1 a = 137 ∨ h.1 a = 144 ∨ h.1 a = 245 ∨ h.1 a = 156 ∨ h.1 a = 157 ∨ h.1 a = 158) q q_91 → sx_kf a0 [0, 49, 50, 4, 14, 15, 32, 33, 36, 37, 38, 39, 5, 10, 6, 7, 8, 9, 11, 12, 13] q q_91 → mv_N a0 q_91 → mv_S m23 m26 m28 m29 q_91 → mv_L m40 m41 m44 a0 q_91 → q_91.1 a0 0 = 0 → q_91.1 a0 45 = (q_1.1 a0 45) → q_91.1 a0 50 = 1 → q_91.1 a0 49 = 0 → q_91.2.2.1 a0 3 = m3 → q_91.2.2.1 a0 18 = m18 → q_91.2.2.1 a0 19 = m19 → q_91.2.2.1 a0 23 = m23 → q_91.2.2.1 a0 24 = m24 → q_91.2.2.1 a0 25 = m25 → q_91.2.2.1 a0 26 = m26 → q_91.2.2.1 a0 27 = m27 → q_91.2.2.1 a0 28 = m28 → q_91.2.2.1 a0 29 = m29 → q_91.2.2.1 a0 30 = m30 → q_91.2.2.1 a0 34 = m34 → q_91.2.2.1 a0 35 = m35 → q_91.2.2.1 a0 40 = m40 → q_91.2.2.1 a0 41 = m41 → q_91.2.2.1 a0 44 = m44 → q_91.2.2.1 a0 42 = m42 → q_91.2.2.1 a0 43 = m43 → q_91.2.2.1 a0 46 = m46 → q_91.2.2.1 a0 47 = m47 → q_91.2.2.1 a0 48 = m48 → 0 ≤ v_90.toInt → (12 - v_90.toInt : Int).toNat < n → WA l dC dI h L ({ frames := 6, cells := 0, slots := 0, locals := 146 } : Room) 7 Z q_91 250 [(3, .int v_90), (2, .int 0), (1, .int (q_1.1 a0 45)), (0, .ref a0)] [] := by
                intro n
                induction n with
                | zero =>
                  intro v_90 q_91 hV_q_91 hF_q_91 hK_q_91 mN_q_91 mS_q_91 mL_q_91 p0_q_91 p1_q_91 p2_q_91 p3_q_91 p4_q_91 p5_q_91 p6_q_91 p7_q_91 p8_q_91 p9_q_91 p10_q_91 p11_q_91 p12_q_91 p13_q_91 p14_q_91 p15_q_91 p16_q_91 p17_q_91 p18_q_91 p19_q_91 p20_q_91 p21_q_91 p22_q_91 p23_q_91 p24_q_91 x_116 hn
                  exact absurd hn (Nat.not_lt_zero _)
                | succ n ih_118 =>
                  intro v_90 q_91 hV_q_91 hF_q_91 hK_q_91 mN_q_91 mS_q_91 mL_q_91 p0_q_91 p1_q_91 p2_q_91 p3_q_91 p4_q_91 p5_q_91 p6_q_91 p7_q_91 p8_q_91 p9_q_91 p10_q_91 p11_q_91 p12_q_91 p13_q_91 p14_q_91 p15_q_91 p16_q_91 p17_q_91 p18_q_91 p19_q_91 p20_q_91 p21_q_91 p22_q_91 p23_q_91 p24_q_91 x_116 hn
                  refine wa_iload_n B dX12_match_250 rfl 0 rfl ?_
                  refine wa_bipush B 12 dX12_match_251 (by decide) ?_
                  refine wa_icmp_ge B 269 dX12_match_253 (by decide) (fun (t_119 : 12 ≤ v_90.toInt) => ?_) (fun (t_119 : ¬ 12 ≤ v_90.toInt) => ?_)
                  · refine wa_iconst B 1 dX12_match_269 (by decide) ?_
                    refine wa_iload_n B dX12_match_270 rfl 2 rfl ?_
                    refine wa_ishl B dX12_match_271 (fun v_120 ev_120 => ?_)
                    have gv_120 : 1 ≤ v_120.toInt ∧ v_120.toInt ≤ 4096 := by rw [ev_120]; exact zx_shl1 (by omega) (by omega)
                    refine wa_iconst B 1 dX12_match_272 (by decide) ?_
                    refine wa_isub B dX12_match_273 (fun v_121 ev_121 => ?_)
                    refine wa_istore_n B [(3, .int v_121), (2, .int 0), (1, .int (q_1.1 a0 45)), (0, .ref a0)] dX12_match_274 rfl (by decide) rfl ?_
                    have Lp_275_127 : ∀ (n : Nat) (v_122 : Int32) (v_123 : Int32) (q_124 : Sg), sx_V h L q_124 → sx_fr h L (fun a => h.1 a = 12 ∨ h.1 a = 113 ∨ h.1 a = 133 ∨ h.1 a = 134 ∨ h.1 a = 135 ∨ h.1 a = 138 ∨ h.1 a = 139 ∨ h.1 a = 140 ∨ h.1 a = 136 ∨ h.1 a = 137 ∨ h.1 a = 144 ∨ h.1 a = 245 ∨ h.1 a = 156 ∨ h.1 a = 157 ∨ h.1 a = 158) q q_124 → sx_kf a0 [0, 49, 50, 4, 14, 15, 32, 33, 36, 37, 38, 39, 5, 10, 6, 7, 8, 9, 11, 12, 13] q q_124 → mv_N a0 q_124 → mv_S m23 m26 m28 m29 q_124 → mv_L m40 m41 m44 a0 q_124 → q_124.1 a0 0 = 0 → q_124.1 a0 45 = (q_1.1 a0 45) → q_124.1 a0 50 = 1 → q_124.2.2.1 a0 3 = m3 → q_124.2.2.1 a0 18 = m18 → q_124.2.2.1 a0 19 = m19 → q_124.2.2.1 a0 23 = m23 → q_124.2.2.1 a0 24 = m24 → q_124.2.2.1 a0 25 = m25 → q_124.2.2.1 a0 26 = m26 → q_124.2.2.1 a0 27 = m27 → q_124.2.2.1 a0 28 = m28 → q_124.2.2.1 a0 29 = m29 → q_124.2.2.1 a0 30 = m30 → q_124.2.2.1 a0 34 = m34 → q_124.2.2.1 a0 35 = m35 → q_124.2.2.1 a0 40 = m40 → q_124.2.2.1 a0 41 = m41 → q_124.2.2.1 a0 44 = m44 → q_124.2.2.1 a0 42 = m42 → q_124.2.2.1 a0 43 = m43 → q_124.2.2.1 a0 46 = m46 → q_124.2.2.1 a0 47 = m47 → q_124.2.2.1 a0 48 = m48 → 0 ≤ v_122.toInt → v_122.toInt ≤ 4095 → (v_122.toInt : Int).toNat < n → WA l dC dI h L ({ frames := 6, cells := 0, slots := 0, locals := 146 } : Room) 7 Z q_124 275 [(3, .int v_122), (2, .int v_123), (1, .int (q_1.1 a0 45)), (0, .ref a0)] [] := by
                      intro n
                      induction n with
                      | zero =>
                        intro v_122 v_123 q_124 hV_q_124 hF_q_124 hK_q_124 mN_q_124 mS_q_124 mL_q_124 p0_q_124 p1_q_124 p2_q_124 p3_q_124 p4_q_124 p5_q_124 p6_q_124 p7_q_124 p8_q_124 p9_q_124 p10_q_124 p11_q_124 p12_q_124 p13_q_124 p14_q_124 p15_q_124 p16_q_124 p17_q_124 p18_q_124 p19_q_124 p20_q_124 p21_q_124 p22_q_124 p23_q_124 x_125 x_126 hn
                        exact absurd hn (Nat.not_lt_zero _)
                      | succ n ih_128 =>
                        intro v_122 v_123 q_124 hV_q_124 hF_q_124 hK_q_124 mN_q_124 mS_q_124 mL_q_124 p0_q_124 p1_q_124 p2_q_124 p3_q_124 p4_q_124 p5_q_124 p6_q_124 p7_q_124 p8_q_124 p9_q_124 p10_q_124 p11_q_124 p12_q_124 p13_q_124 p14_q_124 p15_q_124 p16_q_124 p17_q_124 p18_q_124 p19_q_124 p20_q_124 p21_q_124 p22_q_124 p23_q_124 x_125 x_126 hn
                        refine wa_iload_n B dX12_match_275 rfl 0 rfl ?_
                        refine wa_if_eq B 469 dX12_match_276 (by decide) (fun (t_129 : v_122.toInt = 0) => ?_) (fun (t_129 : ¬ v_122.toInt = 0) => ?_)
                        · refine wa_iload_n B dX12_match_469 rfl 1 rfl ?_
                          exact hret _ _ _ _ dX12_match_470 ⟨hV_q_124, hF_q_124, hK_q_124, mN_q_124, mS_q_124, mL_q_124⟩
                        · refine wa_iload_n B dX12_match_279 rfl 0 rfl ?_
                          refine wa_callSi B (As := [.int v_122]) (rest := []) (k_X12_lowest l dC dI h L hN q_124 hV_q_124 v_122  (by first | assumption | omega | decide) (by first | assumption | omega | decide)) (va_cwS 1 B.1.2.2.2.2 gX12_match_X12_lowest rfl rfl rfl (by decide +kernel) ⟨Nat.le_of_ble_eq_true rfl, Nat.le_of_ble_eq_true rfl⟩) rfl rfl (Nat.le_of_ble_eq_true rfl) dX12_match_280 (fun r_131 q_130 w_132 => ?_)
                          obtain ⟨ew_132, hw_132⟩ := w_132
                          subst ew_132
                          refine wa_istore B [(4, .int r_131), (3, .int v_122), (2, .int v_123), (1, .int (q_1.1 a0 45)), (0, .ref a0)] dX12_match_283 (by decide) rfl ?_
                          refine wa_iload_n B dX12_match_285 rfl 1 rfl ?_
                          refine wa_iconst B 1 dX12_match_286 (by decide) ?_
                          refine wa_iload B dX12_match_287 0 rfl ?_
                          refine wa_ishl B dX12_match_289 (fun v_133 ev_133 => ?_)
                          have gv_133 : 1 ≤ v_133.toInt ∧ v_133.toInt ≤ 2048 := by rw [ev_133]; exact zx_shl0 (by omega) (by omega)
                          refine wa_iconst B (-1) dX12_match_290 (by decide) ?_
                          refine wa_ixor B dX12_match_291 (fun v_134 ev_134 => ?_)
                          refine wa_iand B dX12_match_292 (fun v_135 ev_135 => ?_)
                          have gv_135 : 0 ≤ v_135.toInt ∧ v_135.toInt ≤ v_122.toInt := by rw [ev_135]; exact zx_andle (by omega)
                          have g_136 : v_135.toInt < v_122.toInt := by rw [ev_135, ev_134, ev_133]; exact zx_clr (by omega) (by omega) (by omega) (by omega)
                          refine wa_istore_n B [(3, .int v_135), (4, .int r_131), (2, .int v_123), (1, .int (q_1.1 a0 45)), (0, .ref a0)] dX12_match_293 rfl (by decide) rfl ?_
                          refine wa_iload B dX12_match_294 1 rfl ?_
                          refine wa_iconst B 1 dX12_match_296 (by decide) ?_
                          refine wa_iadd B dX12_match_297 (fun v_137 ev_137 => ?_)
                          refine wa_istore B [(5, .int v_137), (3, .int v_135), (4, .int r_131), (2, .int v_123), (1, .int (q_1.1 a0 45)), (0, .ref a0)] dX12_match_298 (by decide) rfl ?_
                          have Lp_300_142 : ∀ (n : Nat) (v_138 : Int32) (v_139 : Int32) (q_140 : Sg), sx_V h L q_140 → sx_fr h L (fun a => h.1 a = 12 ∨ h.1 a = 113 ∨ h.1 a = 133 ∨ h.1 a = 134 ∨ h.1 a = 135 ∨ h.1 a = 138 ∨ h.1 a = 139 ∨ h.1 a = 140 ∨ h.1 a = 136 ∨ h.1 a = 137 ∨ h.1 a = 144 ∨ h.1 a = 245 ∨ h.1 a = 156 ∨ h.1 a = 157 ∨ h.1 a = 158) q q_140 → sx_kf a0 [0, 49, 50, 4, 14, 15, 32, 33, 36, 37, 38, 39, 5, 10, 6, 7, 8, 9, 11, 12, 13] q q_140 → mv_N a0 q_140 → mv_S m23 m26 m28 m29 q_140 → mv_L m40 m41 m44 a0 q_140 → q_140.1 a0 0 = 0 → q_140.1 a0 45 = (q_1.1 a0 45) → q_140.1 a0 50 = 1 → q_140.2.2.1 a0 3 = m3 → q_140.2.2.1 a0 18 = m18 → q_140.2.2.1 a0 19 = m19 → q_140.2.2.1 a0 23 = m23 → q_140.2.2.1 a0 24 = m24 → q_140.2.2.1 a0 25 = m25 → q_140.2.2.1 a0 26 = m26 → q_140.2.2.1 a0 27 = m27 → q_140.2.2.1 a0 28 = m28 → q_140.2.2.1 a0 29 = m29 → q_140.2.2.1 a0 30 = m30 → q_140.2.2.1 a0 34 = m34 → q_140.2.2.1 a0 35 = m35 → q_140.2.2.1 a0 40 = m40 → q_140.2.2.1 a0 41 = m41 → q_140.2.2.1 a0 44 = m44 → q_140.2.2.1 a0 42 = m42 → q_140.2.2.1 a0 43 = m43 → q_140.2.2.1 a0 46 = m46 → q_140.2.2.1 a0 47 = m47 → q_140.2.2.1 a0 48 = m48 → 0 ≤ v_138.toInt → ((q_1.1 a0 45).toInt - v_138.toInt : Int).toNat < n → WA l dC dI h L ({ frames := 6, cells := 0, slots := 0, locals := 146 } : Room) 7 Z q_140 300 [(5, .int v_138), (3, .int v_135), (4, .int r_131), (2, .int v_139), (1, .int (q_1.1 a0 45)), (0, .ref a0)] [] := by
                            intro n
                            induction n with
                            | zero =>
                              intro v_138 v_139 q_140 hV_q_140 hF_q_140 hK_q_140 mN_q_140 mS_q_140 mL_q_140 p0_q_140 p1_q_140 p2_q_140 p3_q_140 p4_q_140 p5_q_140 p6_q_140 p7_q_140 p8_q_140 p9_q_140 p10_q_140 p11_q_140 p12_q_140 p13_q_140 p14_q_140 p15_q_140 p16_q_140 p17_q_140 p18_q_140 p19_q_140 p20_q_140 p21_q_140 p22_q_140 p23_q_140 x_141 hn
                              exact absurd hn (Nat.not_lt_zero _)
                            | succ n ih_143 =>
                              intro v_138 v_139 q_140 hV_q_140 hF_q_140 hK_q_140 mN_q_140 mS_q_140 mL_q_140 p0_q_140 p1_q_140 p2_q_140 p3_q_140 p4_q_140 p5_q_140 p6_q_140 p7_q_140 p8_q_140 p9_q_140 p10_q_140 p11_q_140 p12_q_140 p13_q_140 p14_q_140 p15_q_140 p16_q_140 p17_q_140 p18_q_140 p19_q_140 p20_q_140 p21_q_140 p22_q_140 p23_q_140 x_141 hn
                              refine wa_iload B dX12_match_300 0 rfl ?_
                              refine wa_iload_n B dX12_match_302 rfl 4 rfl ?_
                              refine wa_icmp_ge B 441 dX12_match_303 (by decide) (fun (t_144 : (q_1.1 a0 45).toInt ≤ v_138.toInt) => ?_) (fun (t_144 : ¬ (q_1.1 a0 45).toInt ≤ v_138.toInt) => ?_)
                              · refine wa_aload_n B dX12_match_441 rfl 5 rfl ?_
                                refine wa_getR B (C := RX12) (T := TX12) (N := 51) iq_X12_match_X12 ha0 ka0 (by decide) rfl 48 (by decide) (by decide) (by decide +kernel) rfl (fun _ _ _ => rfl) (v := m48) p23_q_140 dX12_match_442 ?_
                                refine wa_iload B dX12_match_445 2 rfl ?_
                                refine wa_iaload B hm48 km48 (by decide) (by decide) (show 0 ≤ r_131.toInt by omega) (show r_131.toInt < (h.2.1 m48 : Int) by omega) (v := (q_140.2.2.2.1 m48 (r_131 : Int32).toNatClampNeg)) rfl dX12_match_447 ?_
                                refine wa_iconst B (-1) dX12_match_448 (by decide) ?_
                                refine wa_icmp_eq B 466 dX12_match_449 (by decide) (fun (t_145 : ((q_140.2.2.2.1 m48 (r_131 : Int32).toNatClampNeg)).toInt = (-1)) => ?_) (fun (t_145 : ¬ ((q_140.2.2.2.1 m48 (r_131 : Int32).toNatClampNeg)).toInt = (-1)) => ?_)
                                · refine wa_goto B 275 dX12_match_466 (by decide) ?_
                                  refine WA.sub [1, 3, 4, 5] rfl ?_
                                  exact ih_128 v_135 v_139 q_140 hV_q_140 hF_q_140 hK_q_140 mN_q_140 mS_q_140 mL_q_140 p0_q_140 p1_q_140 p2_q_140 p3_q_140 p4_q_140 p5_q_140 p6_q_140 p7_q_140 p8_q_140 p9_q_140 p10_q_140 p11_q_140 p12_q_140 p13_q_140 p14_q_140 p15_q_140 p16_q_140 p17_q_140 p18_q_140 p19_q_140 p20_q_140 p21_q_140 p22_q_140 p23_q_140 (show 0 ≤ v_135.toInt from by first | assumption | omega | decide) (show v_135.toInt ≤ 4095 from by first | assumption | omega | decide) (show (v_135.toInt : Int).toNat < _ from by omega)
                                · refine wa_iload_n B dX12_match_452 rfl 1 rfl ?_
                                  refine wa_iconst B 1 dX12_match_453 (by decide) ?_
                                  refine wa_aload_n B dX12_match_454 rfl 5 rfl ?_
                                  refine wa_getR B (C := RX12) (T := TX12) (N := 51) iq_X12_match_X12 ha0 ka0 (by decide) rfl 48 (by decide) (by decide) (by decide +kernel) rfl (fun _ _ _ => rfl) (v := m48) p23_q_140 dX12_match_455 ?_
                                  refine wa_iload B dX12_match_458 2 rfl ?_
                                  refine wa_iaload B hm48 km48 (by decide) (by decide) (show 0 ≤ r_131.toInt by omega) (show r_131.toInt < (h.2.1 m48 : Int) by omega) (v := (q_140.2.2.2.1 m48 (r_131 : Int32).toNatClampNeg)) rfl dX12_match_460 ?_
                                  refine wa_ishl B dX12_match_461 (fun v_146 ev_146 => ?_)
                                  refine wa_iconst B (-1) dX12_match_462 (by decide) ?_
                                  refine wa_ixor B dX12_match_463 (fun v_147 ev_147 => ?_)
                                  refine wa_iand B dX12_match_464 (fun v_148 ev_148 => ?_)
                                  have gv_148 : 0 ≤ v_148.toInt ∧ v_148.toInt ≤ v_135.toInt := by rw [ev_148]; exact zx_andle (by omega)
                                  refine wa_istore_n B [(3, .int v_148), (5, .int v_138), (4, .int r_131), (2, .int v_139), (1, .int (q_1.1 a0 45)), (0, .ref a0)] dX12_match_465 rfl (by decide) rfl ?_
                                  refine wa_goto B 275 dX12_match_466 (by decide) ?_
                                  refine WA.sub [0, 3, 4, 5] rfl ?_
                                  exact ih_128 v_148 v_139 q_140 hV_q_140 hF_q_140 hK_q_140 mN_q_140 mS_q_140 mL_q_140 p0_q_140 p1_q_140 p2_q_140 p3_q_140 p4_q_140 p5_q_140 p6_q_140 p7_q_140 p8_q_140 p9_q_140 p10_q_140 p11_q_140 p12_q_140 p13_q_140 p14_q_140 p15_q_140 p16_q_140 p17_q_140 p18_q_140 p19_q_140 p20_q_140 p21_q_140 p22_q_140 p23_q_140 (show 0 ≤ v_148.toInt from by first | assumption | omega | decide) (show v_148.toInt ≤ 4095 from by first | assumption | omega | decide) (show (v_148.toInt : Int).toNat < _ from by omega)
                              · refine wa_aload_n B dX12_match_306 rfl 5 rfl ?_
                                refine wa_getR B (C := RX12) (T := TX12) (N := 51) iq_X12_match_X12 ha0 ka0 (by decide) rfl 48 (by decide) (by decide) (by decide +kernel) rfl (fun _ _ _ => rfl) (v := m48) p23_q_140 dX12_match_307 ?_
                                refine wa_iload B dX12_match_310 2 rfl ?_
                                refine wa_iaload B hm48 km48 (by decide) (by decide) (show 0 ≤ r_131.toInt by omega) (show r_131.toInt < (h.2.1 m48 : Int) by omega) (v := (q_140.2.2.2.1 m48 (r_131 : Int32).toNatClampNeg)) rfl dX12_match_312 ?_
                                refine wa_iconst B (-1) dX12_match_313 (by decide) ?_
                                refine wa_icmp_ne B 441 dX12_match_314 (by decide) (fun (t_149 : ¬ ((q_140.2.2.2.1 m48 (r_131 : Int32).toNatClampNeg)).toInt = (-1)) => ?_) (fun (t_149 : ((q_140.2.2.2.1 m48 (r_131 : Int32).toNatClampNeg)).toInt = (-1)) => ?_)
                                · refine wa_aload_n B dX12_match_441 rfl 5 rfl ?_
                                  refine wa_getR B (C := RX12) (T := TX12) (N := 51) iq_X12_match_X12 ha0 ka0 (by decide) rfl 48 (by decide) (by decide) (by decide +kernel) rfl (fun _ _ _ => rfl) (v := m48) p23_q_140 dX12_match_442 ?_
                                  refine wa_iload B dX12_match_445 2 rfl ?_
                                  refine wa_iaload B hm48 km48 (by decide) (by decide) (show 0 ≤ r_131.toInt by omega) (show r_131.toInt < (h.2.1 m48 : Int) by omega) (v := (q_140.2.2.2.1 m48 (r_131 : Int32).toNatClampNeg)) rfl dX12_match_447 ?_
                                  refine wa_iconst B (-1) dX12_match_448 (by decide) ?_
                                  refine wa_icmp_eq B 466 dX12_match_449 (by decide) (fun (t_150 : ((q_140.2.2.2.1 m48 (r_131 : Int32).toNatClampNeg)).toInt = (-1)) => ?_) (fun (t_150 : ¬ ((q_140.2.2.2.1 m48 (r_131 : Int32).toNatClampNeg)).toInt = (-1)) => ?_)
                                  · refine wa_goto B 275 dX12_match_466 (by decide) ?_
                                    refine WA.sub [1, 3, 4, 5] rfl ?_
                                    exact ih_128 v_135 v_139 q_140 hV_q_140 hF_q_140 hK_q_140 mN_q_140 mS_q_140 mL_q_140 p0_q_140 p1_q_140 p2_q_140 p3_q_140 p4_q_140 p5_q_140 p6_q_140 p7_q_140 p8_q_140 p9_q_140 p10_q_140 p11_q_140 p12_q_140 p13_q_140 p14_q_140 p15_q_140 p16_q_140 p17_q_140 p18_q_140 p19_q_140 p20_q_140 p21_q_140 p22_q_140 p23_q_140 (show 0 ≤ v_135.toInt from by first | assumption | omega | decide) (show v_135.toInt ≤ 4095 from by first | assumption | omega | decide) (show (v_135.toInt : Int).toNat < _ from by omega)
                                  · refine wa_iload_n B dX12_match_452 rfl 1 rfl ?_
                                    refine wa_iconst B 1 dX12_match_453 (by decide) ?_
                                    refine wa_aload_n B dX12_match_454 rfl 5 rfl ?_
                                    refine wa_getR B (C := RX12) (T := TX12) (N := 51) iq_X12_match_X12 ha0 ka0 (by decide) rfl 48 (by decide) (by decide) (by decide +kernel) rfl (fun _ _ _ => rfl) (v := m48) p23_q_140 dX12_match_455 ?_
                                    refine wa_iload B dX12_match_458 2 rfl ?_
                                    refine wa_iaload B hm48 km48 (by decide) (by decide) (show 0 ≤ r_131.toInt by omega) (show r_131.toInt < (h.2.1 m48 : Int) by omega) (v := (q_140.2.2.2.1 m48 (r_131 : Int32).toNatClampNeg)) rfl dX12_match_460 ?_
                                    refine wa_ishl B dX12_match_461 (fun v_151 ev_151 => ?_)
                                    refine wa_iconst B (-1) dX12_match_462 (by decide) ?_
                                    refine wa_ixor B dX12_match_463 (fun v_152 ev_152 => ?_)
                                    refine wa_iand B dX12_match_464 (fun v_153 ev_153 => ?_)
                                    have gv_153 : 0 ≤ v_153.toInt ∧ v_153.toInt ≤ v_135.toInt := by rw [ev_153]; exact zx_andle (by omega)
                                    refine wa_istore_n B [(3, .int v_153), (5, .int v_138), (4, .int r_131), (2, .int v_139), (1, .int (q_1.1 a0 45)), (0, .ref a0)] dX12_match_465 rfl (by decide) rfl ?_
                                    refine wa_goto B 275 dX12_match_466 (by decide) ?_
                                    refine WA.sub [0, 3, 4, 5] rfl ?_
                                    exact ih_128 v_153 v_139 q_140 hV_q_140 hF_q_140 hK_q_140 mN_q_140 mS_q_140 mL_q_140 p0_q_140 p1_q_140 p2_q_140 p3_q_140 p4_q_140 p5_q_140 p6_q_140 p7_q_140 p8_q_140 p9_q_140 p10_q_140 p11_q_140 p12_q_140 p13_q_140 p14_q_140 p15_q_140 p16_q_140 p17_q_140 p18_q_140 p19_q_140 p20_q_140 p21_q_140 p22_q_140 p23_q_140 (show 0 ≤ v_153.toInt from by first | assumption | omega | decide) (show v_153.toInt ≤ 4095 from by first | assumption | omega | decide) (show (v_153.toInt : Int).toNat < _ from by omega)
                                · refine wa_iload_n B dX12_match_317 rfl 1 rfl ?_
                                  refine wa_iload B dX12_match_318 0 rfl ?_
                                  refine wa_ishr B dX12_match_320 (fun v_154 ev_154 => ?_)
                                  refine wa_iconst B 1 dX12_match_321 (by decide) ?_
                                  refine wa_iand B dX12_match_322 (fun v_155 ev_155 => ?_)
                                  have Jn_435_158 : ∀  (v_156 : Int32) (q_157 : Sg), sx_V h L q_157 → sx_fr h L (fun a => h.1 a = 12 ∨ h.1 a = 113 ∨ h.1 a = 133 ∨ h.1 a = 134 ∨ h.1 a = 135 ∨ h.1 a = 138 ∨ h.1 a = 139 ∨ h.1 a = 140 ∨ h.1 a = 136 ∨ h.1 a = 137 ∨ h.1 a = 144 ∨ h.1 a = 245 ∨ h.1 a = 156 ∨ h.1 a = 157 ∨ h.1 a = 158) q q_157 → sx_kf a0 [0, 49, 50, 4, 14, 15, 32, 33, 36, 37, 38, 39, 5, 10, 6, 7, 8, 9, 11, 12, 13] q q_157 → mv_N a0 q_157 → mv_S m23 m26 m28 m29 q_157 → mv_L m40 m41 m44 a0 q_157 → q_157.1 a0 0 = 0 → q_157.1 a0 45 = (q_1.1 a0 45) → q_157.1 a0 50 = 1 → q_157.2.2.1 a0 3 = m3 → q_157.2.2.1 a0 18 = m18 → q_157.2.2.1 a0 19 = m19 → q_157.2.2.1 a0 23 = m23 → q_157.2.2.1 a0 24 = m24 → q_157.2.2.1 a0 25 = m25 → q_157.2.2.1 a0 26 = m26 → q_157.2.2.1 a0 27 = m27 → q_157.2.2.1 a0 28 = m28 → q_157.2.2.1 a0 29 = m29 → q_157.2.2.1 a0 30 = m30 → q_157.2.2.1 a0 34 = m34 → q_157.2.2.1 a0 35 = m35 → q_157.2.2.1 a0 40 = m40 → q_157.2.2.1 a0 41 = m41 → q_157.2.2.1 a0 44 = m44 → q_157.2.2.1 a0 42 = m42 → q_157.2.2.1 a0 43 = m43 → q_157.2.2.1 a0 46 = m46 → q_157.2.2.1 a0 47 = m47 → q_157.2.2.1 a0 48 = m48 → WA l dC dI h L ({ frames := 6, cells := 0, slots := 0, locals := 146 } : Room) 7 Z q_157 435 [(5, .int v_138), (3, .int v_135), (4, .int r_131), (2, .int v_156), (1, .int (q_1.1 a0 45)), (0, .ref a0)] [] := by
                                    intro v_156 q_157 hV_q_157 hF_q_157 hK_q_157 mN_q_157 mS_q_157 mL_q_157 p0_q_157 p1_q_157 p2_q_157 p3_q_157 p4_q_157 p5_q_157 p6_q_157 p7_q_157 p8_q_157 p9_q_157 p10_q_157 p11_q_157 p12_q_157 p13_q_157 p14_q_157 p15_q_157 p16_q_157 p17_q_157 p18_q_157 p19_q_157 p20_q_157 p21_q_157 p22_q_157 p23_q_157
                                    obtain ⟨v_159, ev_159⟩ : ∃ z : Int32, z = v_138 + 1 := ⟨_, rfl⟩
                                    refine wa_iinc B [(5, .int v_159), (3, .int v_135), (4, .int r_131), (2, .int v_156), (1, .int (q_1.1 a0 45)), (0, .ref a0)] v_159 dX12_match_435 0 rfl (by rw [ev_159]; rfl) (by decide) rfl ?_
                                    refine wa_goto B 300 dX12_match_438 (by decide) ?_
                                    have tv_159 : v_159.toInt = v_138.toInt + 1 := by have b0 := zx_bd v_138; rw [ev_159]; exact zx_add (show (-2147483648 : Int) ≤ v_138.toInt + 1 by omega) (show v_138.toInt + 1 < (2147483648 : Int) by omega)
                                    exact ih_143 v_159 v_156 q_157 hV_q_157 hF_q_157 hK_q_157 mN_q_157 mS_q_157 mL_q_157 p0_q_157 p1_q_157 p2_q_157 p3_q_157 p4_q_157 p5_q_157 p6_q_157 p7_q_157 p8_q_157 p9_q_157 p10_q_157 p11_q_157 p12_q_157 p13_q_157 p14_q_157 p15_q_157 p16_q_157 p17_q_157 p18_q_157 p19_q_157 p20_q_157 p21_q_157 p22_q_157 p23_q_157 (show 0 ≤ v_159.toInt from by first | assumption | omega | decide) (show ((q_1.1 a0 45).toInt - v_159.toInt : Int).toNat < _ from by omega)
                                  refine wa_if_eq B 435 dX12_match_323 (by decide) (fun (t_160 : v_155.toInt = 0) => ?_) (fun (t_160 : ¬ v_155.toInt = 0) => ?_)
                                  · exact Jn_435_158 v_139 q_140 hV_q_140 hF_q_140 hK_q_140 mN_q_140 mS_q_140 mL_q_140 p0_q_140 p1_q_140 p2_q_140 p3_q_140 p4_q_140 p5_q_140 p6_q_140 p7_q_140 p8_q_140 p9_q_140 p10_q_140 p11_q_140 p12_q_140 p13_q_140 p14_q_140 p15_q_140 p16_q_140 p17_q_140 p18_q_140 p19_q_140 p20_q_140 p21_q_140 p22_q_140 p23_q_140
                                  · refine wa_aload_n B dX12_match_326 rfl 5 rfl ?_
                                    refine wa_getR B (C := RX12) (T := TX12) (N := 51) iq_X12_match_X12 ha0 ka0 (by decide) rfl 46 (by decide) (by decide) (by decide +kernel) rfl (fun _ _ _ => rfl) (v := m46) p21_q_140 dX12_match_327 ?_
                                    refine wa_bipush B 12 dX12_match_330 (by decide) ?_
                                    refine wa_iload B dX12_match_332 2 rfl ?_
                                    refine wa_imul B dX12_match_334 (fun v_161 ev_161 => ?_)
                                    refine wa_iload B dX12_match_335 0 rfl ?_
                                    refine wa_iadd B dX12_match_337 (fun v_162 ev_162 => ?_)
                                    have tv_161 : v_161.toInt = 12 * r_131.toInt := by have b1 := zx_bd r_131; rw [ev_161]; exact zx_mul (show (-2147483648 : Int) ≤ 12 * r_131.toInt by omega) (show 12 * r_131.toInt < (2147483648 : Int) by omega)
                                    have tv_162 : v_162.toInt = v_161.toInt + v_138.toInt := by have b0 := zx_bd v_161; have b1 := zx_bd v_138; rw [ev_162]; exact zx_add (show (-2147483648 : Int) ≤ v_161.toInt + v_138.toInt by omega) (show v_161.toInt + v_138.toInt < (2147483648 : Int) by omega)
                                    refine wa_iaload B hm46 km46 (by decide) (by decide) (show 0 ≤ v_162.toInt by omega) (show v_162.toInt < (h.2.1 m46 : Int) by omega) (v := (q_140.2.2.2.1 m46 (v_162 : Int32).toNatClampNeg)) rfl dX12_match_338 ?_
                                    refine wa_if_eq B 435 dX12_match_339 (by decide) (fun (t_163 : ((q_140.2.2.2.1 m46 (v_162 : Int32).toNatClampNeg)).toInt = 0) => ?_) (fun (t_163 : ¬ ((q_140.2.2.2.1 m46 (v_162 : Int32).toNatClampNeg)).toInt = 0) => ?_)
                                    · exact Jn_435_158 v_139 q_140 hV_q_140 hF_q_140 hK_q_140 mN_q_140 mS_q_140 mL_q_140 p0_q_140 p1_q_140 p2_q_140 p3_q_140 p4_q_140 p5_q_140 p6_q_140 p7_q_140 p8_q_140 p9_q_140 p10_q_140 p11_q_140 p12_q_140 p13_q_140 p14_q_140 p15_q_140 p16_q_140 p17_q_140 p18_q_140 p19_q_140 p20_q_140 p21_q_140 p22_q_140 p23_q_140
                                    · refine wa_aload_n B dX12_match_342 rfl 5 rfl ?_
                                      refine wa_getR B (C := RX12) (T := TX12) (N := 51) iq_X12_match_X12 ha0 ka0 (by decide) rfl 46 (by decide) (by decide) (by decide +kernel) rfl (fun _ _ _ => rfl) (v := m46) p21_q_140 dX12_match_343 ?_
                                      refine wa_bipush B 12 dX12_match_346 (by decide) ?_
                                      refine wa_iload B dX12_match_348 2 rfl ?_
                                      refine wa_imul B dX12_match_350 (fun v_164 ev_164 => ?_)
                                      refine wa_iload B dX12_match_351 0 rfl ?_
                                      refine wa_iadd B dX12_match_353 (fun v_165 ev_165 => ?_)
                                      have tv_164 : v_164.toInt = 12 * r_131.toInt := by have b1 := zx_bd r_131; rw [ev_164]; exact zx_mul (show (-2147483648 : Int) ≤ 12 * r_131.toInt by omega) (show 12 * r_131.toInt < (2147483648 : Int) by omega)
                                      have tv_165 : v_165.toInt = v_164.toInt + v_138.toInt := by have b0 := zx_bd v_164; have b1 := zx_bd v_138; rw [ev_165]; exact zx_add (show (-2147483648 : Int) ≤ v_164.toInt + v_138.toInt by omega) (show v_164.toInt + v_138.toInt < (2147483648 : Int) by omega)
                                      refine wa_iaload B hm46 km46 (by decide) (by decide) (show 0 ≤ v_165.toInt by omega) (show v_165.toInt < (h.2.1 m46 : Int) by omega) (v := (q_140.2.2.2.1 m46 (v_165 : Int32).toNatClampNeg)) rfl dX12_match_354 ?_
                                      refine wa_aload_n B dX12_match_355 rfl 5 rfl ?_
                                      refine wa_getR B (C := RX12) (T := TX12) (N := 51) iq_X12_match_X12 ha0 ka0 (by decide) rfl 47 (by decide) (by decide) (by decide +kernel) rfl (fun _ _ _ => rfl) (v := m47) p22_q_140 dX12_match_356 ?_
                                      refine wa_iload_n B dX12_match_359 rfl 1 rfl ?_
                                      refine wa_iconst B 1 dX12_match_360 (by decide) ?_
                                      refine wa_iload B dX12_match_361 0 rfl ?_
                                      refine wa_ishl B dX12_match_363 (fun v_166 ev_166 => ?_)
                                      have gv_166 : 1 ≤ v_166.toInt ∧ v_166.toInt ≤ 2048 := by rw [ev_166]; exact zx_shl0 (by omega) (by omega)
                                      refine wa_iconst B (-1) dX12_match_364 (by decide) ?_
                                      refine wa_ixor B dX12_match_365 (fun v_167 ev_167 => ?_)
                                      refine wa_iand B dX12_match_366 (fun v_168 ev_168 => ?_)
                                      have gv_168 : 0 ≤ v_168.toInt ∧ v_168.toInt ≤ v_135.toInt := by rw [ev_168]; exact zx_andle (by omega)
                                      refine wa_iaload B hm47 km47 (by decide) (by decide) (show 0 ≤ v_168.toInt by omega) (show v_168.toInt < (h.2.1 m47 : Int) by omega) (v := (q_140.2.2.2.1 m47 (v_168 : Int32).toNatClampNeg)) rfl dX12_match_367 ?_
                                      refine wa_iadd B dX12_match_368 (fun v_169 ev_169 => ?_)
                                      refine wa_aload_n B dX12_match_369 rfl 5 rfl ?_
                                      refine wa_getR B (C := RX12) (T := TX12) (N := 51) iq_X12_match_X12 ha0 ka0 (by decide) rfl 47 (by decide) (by decide) (by decide +kernel) rfl (fun _ _ _ => rfl) (v := m47) p22_q_140 dX12_match_370 ?_
                                      refine wa_iload_n B dX12_match_373 rfl 1 rfl ?_
                                      refine wa_iconst B 1 dX12_match_374 (by decide) ?_
                                      refine wa_iload B dX12_match_375 2 rfl ?_
                                      refine wa_ishl B dX12_match_377 (fun v_170 ev_170 => ?_)
                                      have gv_170 : 1 ≤ v_170.toInt ∧ v_170.toInt ≤ 2048 := by rw [ev_170]; exact zx_shl0 (by omega) (by omega)
                                      refine wa_ior B dX12_match_378 (fun v_171 ev_171 => ?_)
                                      have g_172 : 0 ≤ v_171.toInt ∧ v_171.toInt ≤ 4095 := by rw [ev_171]; exact zx_or (by omega) (by omega) (by omega) (by omega)
                                      refine wa_iaload B hm47 km47 (by decide) (by decide) (show 0 ≤ v_171.toInt by omega) (show v_171.toInt < (h.2.1 m47 : Int) by omega) (v := (q_140.2.2.2.1 m47 (v_171 : Int32).toNatClampNeg)) rfl dX12_match_379 ?_
                                      refine wa_icmp_eq B 386 dX12_match_380 (by decide) (fun (t_173 : v_169.toInt = ((q_140.2.2.2.1 m47 (v_171 : Int32).toNatClampNeg)).toInt) => ?_) (fun (t_173 : ¬ v_169.toInt = ((q_140.2.2.2.1 m47 (v_171 : Int32).toNatClampNeg)).toInt) => ?_)
                                      · refine wa_aload_n B dX12_match_386 rfl 5 rfl ?_
                                        refine wa_getR B (C := RX12) (T := TX12) (N := 51) iq_X12_match_X12 ha0 ka0 (by decide) rfl 48 (by decide) (by decide) (by decide +kernel) rfl (fun _ _ _ => rfl) (v := m48) p23_q_140 dX12_match_387 ?_
                                        refine wa_iload B dX12_match_390 2 rfl ?_
                                        refine wa_iload B dX12_match_392 0 rfl ?_
                                        refine wa_iastore B hm48 km48 (by decide) (by decide) (show 0 ≤ r_131.toInt by omega) (show r_131.toInt < (h.2.1 m48 : Int) by omega) dX12_match_394 (fun q_174 eq_174 => ?_)
                                        have hV_q_174 : sx_V h L q_174 := by rw [eq_174]; exact hV_q_140.up1 hm48 km48 trivial
                                        have hF_q_174 : sx_fr h L (fun a => h.1 a = 12 ∨ h.1 a = 113 ∨ h.1 a = 133 ∨ h.1 a = 134 ∨ h.1 a = 135 ∨ h.1 a = 138 ∨ h.1 a = 139 ∨ h.1 a = 140 ∨ h.1 a = 136 ∨ h.1 a = 137 ∨ h.1 a = 144 ∨ h.1 a = 245 ∨ h.1 a = 156 ∨ h.1 a = 157 ∨ h.1 a = 158) q q_174 := hF_q_140.tr (by rw [eq_174]; exact sx_fr.pG (show h.1 m48 = 100 ∨ (h.1 m48 = 12 ∨ h.1 m48 = 113 ∨ h.1 m48 = 133 ∨ h.1 m48 = 134 ∨ h.1 m48 = 135 ∨ h.1 m48 = 138 ∨ h.1 m48 = 139 ∨ h.1 m48 = 140 ∨ h.1 m48 = 136 ∨ h.1 m48 = 137 ∨ h.1 m48 = 144 ∨ h.1 m48 = 245 ∨ h.1 m48 = 156 ∨ h.1 m48 = 157 ∨ h.1 m48 = 158) from by omega))
                                        have z_175 : q_174.2.2.2.1 m48 = (upd (q_140.2.2.2.1 m48) (r_131 : Int32).toNatClampNeg v_138) := by rw [eq_174, sg_pG_e]
                                        have z_176 : q_174.2.2.2.1 m48 (r_131 : Int32).toNatClampNeg = v_138 := by rw [eq_174, sg_pG_e]; exact if_pos rfl
                                        have hK_q_174 : sx_kf a0 [0, 49, 50, 4, 14, 15, 32, 33, 36, 37, 38, 39, 5, 10, 6, 7, 8, 9, 11, 12, 13] q q_174 := hK_q_140.tr (sx_kf.eq (by rw [eq_174]; rfl) (by rw [eq_174]; rfl))
                                        have mN_q_174 : mv_N a0 q_174 := mv_N.eq ((show q_174.1 a0 8 = q_140.1 a0 8 from by rw [eq_174]; rfl)) ((show q_174.2.1 a0 11 = q_140.2.1 a0 11 from by rw [eq_174]; rfl)) mN_q_140
                                        have mS_q_174 : mv_S m23 m26 m28 m29 q_174 := mv_S.eq ((show q_174.2.2.2.1 m23 = q_140.2.2.2.1 m23 from by rw [eq_174]; exact sg_pG_a (sx_ka h km23 km48 (by decide)))) ((show q_174.2.2.2.1 m26 = q_140.2.2.2.1 m26 from by rw [eq_174]; exact sg_pG_a (sx_ka h km26 km48 (by decide)))) ((show q_174.2.2.2.1 m28 = q_140.2.2.2.1 m28 from by rw [eq_174]; exact sg_pG_a (sx_ka h km28 km48 (by decide)))) ((show q_174.2.2.2.1 m29 = q_140.2.2.2.1 m29 from by rw [eq_174]; exact sg_pG_a (sx_ka h km29 km48 (by decide)))) mS_q_140
                                        have mL_q_174 : mv_L m40 m41 m44 a0 q_174 := mv_L.eq ((show q_174.2.2.2.1 m40 = q_140.2.2.2.1 m40 from by rw [eq_174]; exact sg_pG_a (sx_ka h km40 km48 (by decide)))) ((show q_174.2.2.2.1 m41 = q_140.2.2.2.1 m41 from by rw [eq_174]; exact sg_pG_a (sx_ka h km41 km48 (by decide)))) ((show q_174.2.2.2.1 m44 = q_140.2.2.2.1 m44 from by rw [eq_174]; exact sg_pG_a (sx_ka h km44 km48 (by decide)))) ((show q_174.1 a0 45 = q_140.1 a0 45 from by rw [eq_174]; rfl)) mL_q_140
                                        refine wa_aload_n B dX12_match_395 rfl 5 rfl ?_
                                        have z_177 : q_174.2.2.1 a0 48 = m48 := ((show q_174.2.2.1 a0 48 = q_140.2.2.1 a0 48 from by rw [eq_174]; rfl)).trans (p23_q_140)
                                        refine wa_getR B (C := RX12) (T := TX12) (N := 51) iq_X12_match_X12 ha0 ka0 (by decide) rfl 48 (by decide) (by decide) (by decide +kernel) rfl (fun _ _ _ => rfl) (v := m48) z_177 dX12_match_396 ?_
                                        refine wa_iload B dX12_match_399 0 rfl ?_
                                        refine wa_iload B dX12_match_401 2 rfl ?_
                                        refine wa_iastore B hm48 km48 (by decide) (by decide) (show 0 ≤ v_138.toInt by omega) (show v_138.toInt < (h.2.1 m48 : Int) by omega) dX12_match_403 (fun q_178 eq_178 => ?_)
                                        have hV_q_178 : sx_V h L q_178 := by rw [eq_178]; exact hV_q_174.up1 hm48 km48 trivial
                                        have hF_q_178 : sx_fr h L (fun a => h.1 a = 12 ∨ h.1 a = 113 ∨ h.1 a = 133 ∨ h.1 a = 134 ∨ h.1 a = 135 ∨ h.1 a = 138 ∨ h.1 a = 139 ∨ h.1 a = 140 ∨ h.1 a = 136 ∨ h.1 a = 137 ∨ h.1 a = 144 ∨ h.1 a = 245 ∨ h.1 a = 156 ∨ h.1 a = 157 ∨ h.1 a = 158) q q_178 := hF_q_174.tr (by rw [eq_178]; exact sx_fr.pG (show h.1 m48 = 100 ∨ (h.1 m48 = 12 ∨ h.1 m48 = 113 ∨ h.1 m48 = 133 ∨ h.1 m48 = 134 ∨ h.1 m48 = 135 ∨ h.1 m48 = 138 ∨ h.1 m48 = 139 ∨ h.1 m48 = 140 ∨ h.1 m48 = 136 ∨ h.1 m48 = 137 ∨ h.1 m48 = 144 ∨ h.1 m48 = 245 ∨ h.1 m48 = 156 ∨ h.1 m48 = 157 ∨ h.1 m48 = 158) from by omega))
                                        have z_179 : q_178.2.2.2.1 m48 = (upd (upd (q_140.2.2.2.1 m48) (r_131 : Int32).toNatClampNeg v_138) (v_138 : Int32).toNatClampNeg r_131) := by rw [eq_178, sg_pG_e, z_175]
                                        have z_180 : q_178.2.2.2.1 m48 (v_138 : Int32).toNatClampNeg = r_131 := by rw [eq_178, sg_pG_e]; exact if_pos rfl
                                        have hK_q_178 : sx_kf a0 [0, 49, 50, 4, 14, 15, 32, 33, 36, 37, 38, 39, 5, 10, 6, 7, 8, 9, 11, 12, 13] q q_178 := hK_q_174.tr (sx_kf.eq (by rw [eq_178]; rfl) (by rw [eq_178]; rfl))
                                        have mN_q_178 : mv_N a0 q_178 := mv_N.eq ((show q_178.1 a0 8 = q_174.1 a0 8 from by rw [eq_178]; rfl)) ((show q_178.2.1 a0 11 = q_174.2.1 a0 11 from by rw [eq_178]; rfl)) mN_q_174
                                        have mS_q_178 : mv_S m23 m26 m28 m29 q_178 := mv_S.eq ((show q_178.2.2.2.1 m23 = q_174.2.2.2.1 m23 from by rw [eq_178]; exact sg_pG_a (sx_ka h km23 km48 (by decide)))) ((show q_178.2.2.2.1 m26 = q_174.2.2.2.1 m26 from by rw [eq_178]; exact sg_pG_a (sx_ka h km26 km48 (by decide)))) ((show q_178.2.2.2.1 m28 = q_174.2.2.2.1 m28 from by rw [eq_178]; exact sg_pG_a (sx_ka h km28 km48 (by decide)))) ((show q_178.2.2.2.1 m29 = q_174.2.2.2.1 m29 from by rw [eq_178]; exact sg_pG_a (sx_ka h km29 km48 (by decide)))) mS_q_174
                                        have mL_q_178 : mv_L m40 m41 m44 a0 q_178 := mv_L.eq ((show q_178.2.2.2.1 m40 = q_174.2.2.2.1 m40 from by rw [eq_178]; exact sg_pG_a (sx_ka h km40 km48 (by decide)))) ((show q_178.2.2.2.1 m41 = q_174.2.2.2.1 m41 from by rw [eq_178]; exact sg_pG_a (sx_ka h km41 km48 (by decide)))) ((show q_178.2.2.2.1 m44 = q_174.2.2.2.1 m44 from by rw [eq_178]; exact sg_pG_a (sx_ka h km44 km48 (by decide)))) ((show q_178.1 a0 45 = q_174.1 a0 45 from by rw [eq_178]; rfl)) mL_q_174
                                        obtain ⟨v_181, ev_181⟩ : ∃ z : Int32, z = v_139 + 1 := ⟨_, rfl⟩
                                        refine wa_iinc B [(2, .int v_181), (5, .int v_138), (3, .int v_135), (4, .int r_131), (1, .int (q_1.1 a0 45)), (0, .ref a0)] v_181 dX12_match_404 3 rfl (by rw [ev_181]; rfl) (by decide) rfl ?_
                                        refine wa_aload_n B dX12_match_407 rfl 5 rfl ?_
                                        have z_182 : q_178.2.2.1 a0 46 = m46 := ((show q_178.2.2.1 a0 46 = q_174.2.2.1 a0 46 from by rw [eq_178]; rfl)).trans (((show q_174.2.2.1 a0 46 = q_140.2.2.1 a0 46 from by rw [eq_174]; rfl)).trans (p21_q_140))
                                        refine wa_getR B (C := RX12) (T := TX12) (N := 51) iq_X12_match_X12 ha0 ka0 (by decide) rfl 46 (by decide) (by decide) (by decide +kernel) rfl (fun _ _ _ => rfl) (v := m46) z_182 dX12_match_408 ?_
                                        refine wa_bipush B 12 dX12_match_411 (by decide) ?_
                                        refine wa_iload B dX12_match_413 3 rfl ?_
                                        refine wa_imul B dX12_match_415 (fun v_183 ev_183 => ?_)
                                        refine wa_iload B dX12_match_416 1 rfl ?_
                                        refine wa_iadd B dX12_match_418 (fun v_184 ev_184 => ?_)
                                        have tv_183 : v_183.toInt = 12 * r_131.toInt := by have b1 := zx_bd r_131; rw [ev_183]; exact zx_mul (show (-2147483648 : Int) ≤ 12 * r_131.toInt by omega) (show 12 * r_131.toInt < (2147483648 : Int) by omega)
                                        have tv_184 : v_184.toInt = v_183.toInt + v_138.toInt := by have b0 := zx_bd v_183; have b1 := zx_bd v_138; rw [ev_184]; exact zx_add (show (-2147483648 : Int) ≤ v_183.toInt + v_138.toInt by omega) (show v_183.toInt + v_138.toInt < (2147483648 : Int) by omega)
                                        have z_185 : q_178.2.2.2.1 m46 = q_140.2.2.2.1 m46 := ((show q_178.2.2.2.1 m46 = q_174.2.2.2.1 m46 from by rw [eq_178]; exact sg_pG_a (sx_ka h km46 km48 (by decide)))).trans ((show q_174.2.2.2.1 m46 = q_140.2.2.2.1 m46 from by rw [eq_174]; exact sg_pG_a (sx_ka h km46 km48 (by decide))))
                                        have z_186 : q_178.2.2.2.1 m46 (v_184 : Int32).toNatClampNeg = (q_140.2.2.2.1 m46 (v_184 : Int32).toNatClampNeg) := congrFun z_185 _
                                        refine wa_iaload B hm46 km46 (by decide) (by decide) (show 0 ≤ v_184.toInt by omega) (show v_184.toInt < (h.2.1 m46 : Int) by omega) (v := (q_140.2.2.2.1 m46 (v_184 : Int32).toNatClampNeg)) z_186 dX12_match_419 ?_
                                        refine wa_bipush B 101 dX12_match_420 (by decide) ?_
                                        refine wa_icmp_ne B 435 dX12_match_422 (by decide) (fun (t_187 : ¬ ((q_140.2.2.2.1 m46 (v_184 : Int32).toNatClampNeg)).toInt = 101) => ?_) (fun (t_187 : ((q_140.2.2.2.1 m46 (v_184 : Int32).toNatClampNeg)).toInt = 101) => ?_)
                                        · have z_188 : q_178.1 a0 0 = 0 := ((show q_178.1 a0 0 = q_174.1 a0 0 from by rw [eq_178]; rfl)).trans (((show q_174.1 a0 0 = q_140.1 a0 0 from by rw [eq_174]; rfl)).trans (p0_q_140))
                                          have z_189 : q_178.1 a0 45 = (q_1.1 a0 45) := ((show q_178.1 a0 45 = q_174.1 a0 45 from by rw [eq_178]; rfl)).trans (((show q_174.1 a0 45 = q_140.1 a0 45 from by rw [eq_174]; rfl)).trans (p1_q_140))
                                          have z_190 : q_178.1 a0 50 = 1 := ((show q_178.1 a0 50 = q_174.1 a0 50 from by rw [eq_178]; rfl)).trans (((show q_174.1 a0 50 = q_140.1 a0 50 from by rw [eq_174]; rfl)).trans (p2_q_140))
                                          have z_191 : q_178.2.2.1 a0 3 = m3 := ((show q_178.2.2.1 a0 3 = q_174.2.2.1 a0 3 from by rw [eq_178]; rfl)).trans (((show q_174.2.2.1 a0 3 = q_140.2.2.1 a0 3 from by rw [eq_174]; rfl)).trans (p3_q_140))
                                          have z_192 : q_178.2.2.1 a0 18 = m18 := ((show q_178.2.2.1 a0 18 = q_174.2.2.1 a0 18 from by rw [eq_178]; rfl)).trans (((show q_174.2.2.1 a0 18 = q_140.2.2.1 a0 18 from by rw [eq_174]; rfl)).trans (p4_q_140))
                                          have z_193 : q_178.2.2.1 a0 19 = m19 := ((show q_178.2.2.1 a0 19 = q_174.2.2.1 a0 19 from by rw [eq_178]; rfl)).trans (((show q_174.2.2.1 a0 19 = q_140.2.2.1 a0 19 from by rw [eq_174]; rfl)).trans (p5_q_140))
                                          have z_194 : q_178.2.2.1 a0 23 = m23 := ((show q_178.2.2.1 a0 23 = q_174.2.2.1 a0 23 from by rw [eq_178]; rfl)).trans (((show q_174.2.2.1 a0 23 = q_140.2.2.1 a0 23 from by rw [eq_174]; rfl)).trans (p6_q_140))
                                          have z_195 : q_178.2.2.1 a0 24 = m24 := ((show q_178.2.2.1 a0 24 = q_174.2.2.1 a0 24 from by rw [eq_178]; rfl)).trans (((show q_174.2.2.1 a0 24 = q_140.2.2.1 a0 24 from by rw [eq_174]; rfl)).trans (p7_q_140))
                                          have z_196 : q_178.2.2.1 a0 25 = m25 := ((show q_178.2.2.1 a0 25 = q_174.2.2.1 a0 25 from by rw [eq_178]; rfl)).trans (((show q_174.2.2.1 a0 25 = q_140.2.2.1 a0 25 from by rw [eq_174]; rfl)).trans (p8_q_140))
                                          have z_197 : q_178.2.2.1 a0 26 = m26 := ((show q_178.2.2.1 a0 26 = q_174.2.2.1 a0 26 from by rw [eq_178]; rfl)).trans (((show q_174.2.2.1 a0 26 = q_140.2.2.1 a0 26 from by rw [eq_174]; rfl)).trans (p9_q_140))
                                          have z_198 : q_178.2.2.1 a0 27 = m27 := ((show q_178.2.2.1 a0 27 = q_174.2.2.1 a0 27 from by rw [eq_178]; rfl)).trans (((show q_174.2.2.1 a0 27 = q_140.2.2.1 a0 27 from by rw [eq_174]; rfl)).trans (p10_q_140))
                                          have z_199 : q_178.2.2.1 a0 28 = m28 := ((show q_178.2.2.1 a0 28 = q_174.2.2.1 a0 28 from by rw [eq_178]; rfl)).trans (((show q_174.2.2.1 a0 28 = q_140.2.2.1 a0 28 from by rw [eq_174]; rfl)).trans (p11_q_140))
                                          have z_200 : q_178.2.2.1 a0 29 = m29 := ((show q_178.2.2.1 a0 29 = q_174.2.2.1 a0 29 from by rw [eq_178]; rfl)).trans (((show q_174.2.2.1 a0 29 = q_140.2.2.1 a0 29 from by rw [eq_174]; rfl)).trans (p12_q_140))
                                          have z_201 : q_178.2.2.1 a0 30 = m30 := ((show q_178.2.2.1 a0 30 = q_174.2.2.1 a0 30 from by rw [eq_178]; rfl)).trans (((show q_174.2.2.1 a0 30 = q_140.2.2.1 a0 30 from by rw [eq_174]; rfl)).trans (p13_q_140))
                                          have z_202 : q_178.2.2.1 a0 34 = m34 := ((show q_178.2.2.1 a0 34 = q_174.2.2.1 a0 34 from by rw [eq_178]; rfl)).trans (((show q_174.2.2.1 a0 34 = q_140.2.2.1 a0 34 from by rw [eq_174]; rfl)).trans (p14_q_140))
                                          have z_203 : q_178.2.2.1 a0 35 = m35 := ((show q_178.2.2.1 a0 35 = q_174.2.2.1 a0 35 from by rw [eq_178]; rfl)).trans (((show q_174.2.2.1 a0 35 = q_140.2.2.1 a0 35 from by rw [eq_174]; rfl)).trans (p15_q_140))
                                          have z_204 : q_178.2.2.1 a0 40 = m40 := ((show q_178.2.2.1 a0 40 = q_174.2.2.1 a0 40 from by rw [eq_178]; rfl)).trans (((show q_174.2.2.1 a0 40 = q_140.2.2.1 a0 40 from by rw [eq_174]; rfl)).trans (p16_q_140))
                                          have z_205 : q_178.2.2.1 a0 41 = m41 := ((show q_178.2.2.1 a0 41 = q_174.2.2.1 a0 41 from by rw [eq_178]; rfl)).trans (((show q_174.2.2.1 a0 41 = q_140.2.2.1 a0 41 from by rw [eq_174]; rfl)).trans (p17_q_140))
                                          have z_206 : q_178.2.2.1 a0 44 = m44 := ((show q_178.2.2.1 a0 44 = q_174.2.2.1 a0 44 from by rw [eq_178]; rfl)).trans (((show q_174.2.2.1 a0 44 = q_140.2.2.1 a0 44 from by rw [eq_174]; rfl)).trans (p18_q_140))
                                          have z_207 : q_178.2.2.1 a0 42 = m42 := ((show q_178.2.2.1 a0 42 = q_174.2.2.1 a0 42 from by rw [eq_178]; rfl)).trans (((show q_174.2.2.1 a0 42 = q_140.2.2.1 a0 42 from by rw [eq_174]; rfl)).trans (p19_q_140))
                                          have z_208 : q_178.2.2.1 a0 43 = m43 := ((show q_178.2.2.1 a0 43 = q_174.2.2.1 a0 43 from by rw [eq_178]; rfl)).trans (((show q_174.2.2.1 a0 43 = q_140.2.2.1 a0 43 from by rw [eq_174]; rfl)).trans (p20_q_140))
                                          have z_209 : q_178.2.2.1 a0 47 = m47 := ((show q_178.2.2.1 a0 47 = q_174.2.2.1 a0 47 from by rw [eq_178]; rfl)).trans (((show q_174.2.2.1 a0 47 = q_140.2.2.1 a0 47 from by rw [eq_174]; rfl)).trans (p22_q_140))
                                          have z_210 : q_178.2.2.1 a0 48 = m48 := ((show q_178.2.2.1 a0 48 = q_174.2.2.1 a0 48 from by rw [eq_178]; rfl)).trans (z_177)
                                          refine WA.sub [1, 2, 3, 0, 4, 5] rfl ?_
                                          exact Jn_435_158 v_181 q_178 hV_q_178 hF_q_178 hK_q_178 mN_q_178 mS_q_178 mL_q_178 z_188 z_189 z_190 z_191 z_192 z_193 z_194 z_195 z_196 z_197 z_198 z_199 z_200 z_201 z_202 z_203 z_204 z_205 z_206 z_207 z_208 z_182 z_209 z_210
                                        · refine wa_aload_n B dX12_match_425 rfl 5 rfl ?_
                                          refine wa_dup B dX12_match_426 rfl ?_
                                          refine wa_getI B (C := RX12) (T := TX12) (N := 51) iq_X12_match_X12 ha0 ka0 (by decide) rfl 49 (by decide) (by decide) (by decide +kernel) rfl (by decide) (v := (q_178.1 a0 49)) rfl dX12_match_427 ?_
                                          refine wa_iconst B 1 dX12_match_430 (by decide) ?_
                                          refine wa_iadd B dX12_match_431 (fun v_211 ev_211 => ?_)
                                          refine wa_putI B (C := RX12) (T := TX12) (N := 51) iq_X12_match_X12 ha0 ka0 (by decide) rfl 49 (by decide) (by decide) (by decide +kernel) rfl (by decide) (v := v_211) (ty := .int) tyX12 tyX12_ok nmX12 rfl (by decide +kernel) rfl rfl dX12_match_432 (fun q_212 eq_212 => ?_)
                                          have hV_q_212 : sx_V h L q_212 := by rw [eq_212]; exact hV_q_178.pI ka0 trivial
                                          have hF_q_212 : sx_fr h L (fun a => h.1 a = 12 ∨ h.1 a = 113 ∨ h.1 a = 133 ∨ h.1 a = 134 ∨ h.1 a = 135 ∨ h.1 a = 138 ∨ h.1 a = 139 ∨ h.1 a = 140 ∨ h.1 a = 136 ∨ h.1 a = 137 ∨ h.1 a = 144 ∨ h.1 a = 245 ∨ h.1 a = 156 ∨ h.1 a = 157 ∨ h.1 a = 158) q q_212 := hF_q_178.tr (by rw [eq_212]; exact sx_fr.pI (show h.1 a0 = 12 ∨ h.1 a0 = 113 ∨ h.1 a0 = 133 ∨ h.1 a0 = 134 ∨ h.1 a0 = 135 ∨ h.1 a0 = 138 ∨ h.1 a0 = 139 ∨ h.1 a0 = 140 ∨ h.1 a0 = 136 ∨ h.1 a0 = 137 ∨ h.1 a0 = 144 ∨ h.1 a0 = 245 ∨ h.1 a0 = 156 ∨ h.1 a0 = 157 ∨ h.1 a0 = 158 from by omega))
                                          have z_213 : q_212.1 a0 49 = v_211 := by rw [eq_212]; exact sg_pI_e
                                          have hK_q_212 : sx_kf a0 [0, 49, 50, 4, 14, 15, 32, 33, 36, 37, 38, 39, 5, 10, 6, 7, 8, 9, 11, 12, 13] q q_212 := hK_q_178.tr (by rw [eq_212]; exact sx_kf.pI (by decide))
                                          have mN_q_212 : mv_N a0 q_212 := mv_N.eq ((show q_212.1 a0 8 = q_178.1 a0 8 from by rw [eq_212]; exact sg_pI_k (by decide))) ((show q_212.2.1 a0 11 = q_178.2.1 a0 11 from by rw [eq_212]; rfl)) mN_q_178
                                          have mS_q_212 : mv_S m23 m26 m28 m29 q_212 := mv_S.eq ((show q_212.2.2.2.1 m23 = q_178.2.2.2.1 m23 from by rw [eq_212]; rfl)) ((show q_212.2.2.2.1 m26 = q_178.2.2.2.1 m26 from by rw [eq_212]; rfl)) ((show q_212.2.2.2.1 m28 = q_178.2.2.2.1 m28 from by rw [eq_212]; rfl)) ((show q_212.2.2.2.1 m29 = q_178.2.2.2.1 m29 from by rw [eq_212]; rfl)) mS_q_178
                                          have mL_q_212 : mv_L m40 m41 m44 a0 q_212 := mv_L.eq ((show q_212.2.2.2.1 m40 = q_178.2.2.2.1 m40 from by rw [eq_212]; rfl)) ((show q_212.2.2.2.1 m41 = q_178.2.2.2.1 m41 from by rw [eq_212]; rfl)) ((show q_212.2.2.2.1 m44 = q_178.2.2.2.1 m44 from by rw [eq_212]; rfl)) ((show q_212.1 a0 45 = q_178.1 a0 45 from by rw [eq_212]; exact sg_pI_k (by decide))) mL_q_178
                                          have z_214 : q_212.1 a0 0 = 0 := ((show q_212.1 a0 0 = q_178.1 a0 0 from by rw [eq_212]; exact sg_pI_k (by decide))).trans (((show q_178.1 a0 0 = q_174.1 a0 0 from by rw [eq_178]; rfl)).trans (((show q_174.1 a0 0 = q_140.1 a0 0 from by rw [eq_174]; rfl)).trans (p0_q_140)))
                                          have z_215 : q_212.1 a0 45 = (q_1.1 a0 45) := ((show q_212.1 a0 45 = q_178.1 a0 45 from by rw [eq_212]; exact sg_pI_k (by decide))).trans (((show q_178.1 a0 45 = q_174.1 a0 45 from by rw [eq_178]; rfl)).trans (((show q_174.1 a0 45 = q_140.1 a0 45 from by rw [eq_174]; rfl)).trans (p1_q_140)))
                                          have z_216 : q_212.1 a0 50 = 1 := ((show q_212.1 a0 50 = q_178.1 a0 50 from by rw [eq_212]; exact sg_pI_k (by decide))).trans (((show q_178.1 a0 50 = q_174.1 a0 50 from by rw [eq_178]; rfl)).trans (((show q_174.1 a0 50 = q_140.1 a0 50 from by rw [eq_174]; rfl)).trans (p2_q_140)))
                                          have z_217 : q_212.2.2.1 a0 3 = m3 := ((show q_212.2.2.1 a0 3 = q_178.2.2.1 a0 3 from by rw [eq_212]; rfl)).trans (((show q_178.2.2.1 a0 3 = q_174.2.2.1 a0 3 from by rw [eq_178]; rfl)).trans (((show q_174.2.2.1 a0 3 = q_140.2.2.1 a0 3 from by rw [eq_174]; rfl)).trans (p3_q_140)))
                                          have z_218 : q_212.2.2.1 a0 18 = m18 := ((show q_212.2.2.1 a0 18 = q_178.2.2.1 a0 18 from by rw [eq_212]; rfl)).trans (((show q_178.2.2.1 a0 18 = q_174.2.2.1 a0 18 from by rw [eq_178]; rfl)).trans (((show q_174.2.2.1 a0 18 = q_140.2.2.1 a0 18 from by rw [eq_174]; rfl)).trans (p4_q_140)))
                                          have z_219 : q_212.2.2.1 a0 19 = m19 := ((show q_212.2.2.1 a0 19 = q_178.2.2.1 a0 19 from by rw [eq_212]; rfl)).trans (((show q_178.2.2.1 a0 19 = q_174.2.2.1 a0 19 from by rw [eq_178]; rfl)).trans (((show q_174.2.2.1 a0 19 = q_140.2.2.1 a0 19 from by rw [eq_174]; rfl)).trans (p5_q_140)))
                                          have z_220 : q_212.2.2.1 a0 23 = m23 := ((show q_212.2.2.1 a0 23 = q_178.2.2.1 a0 23 from by rw [eq_212]; rfl)).trans (((show q_178.2.2.1 a0 23 = q_174.2.2.1 a0 23 from by rw [eq_178]; rfl)).trans (((show q_174.2.2.1 a0 23 = q_140.2.2.1 a0 23 from by rw [eq_174]; rfl)).trans (p6_q_140)))
                                          have z_221 : q_212.2.2.1 a0 24 = m24 := ((show q_212.2.2.1 a0 24 = q_178.2.2.1 a0 24 from by rw [eq_212]; rfl)).trans (((show q_178.2.2.1 a0 24 = q_174.2.2.1 a0 24 from by rw [eq_178]; rfl)).trans (((show q_174.2.2.1 a0 24 = q_140.2.2.1 a0 24 from by rw [eq_174]; rfl)).trans (p7_q_140)))
                                          have z_222 : q_212.2.2.1 a0 25 = m25 := ((show q_212.2.2.1 a0 25 = q_178.2.2.1 a0 25 from by rw [eq_212]; rfl)).trans (((show q_178.2.2.1 a0 25 = q_174.2.2.1 a0 25 from by rw [eq_178]; rfl)).trans (((show q_174.2.2.1 a0 25 = q_140.2.2.1 a0 25 from by rw [eq_174]; rfl)).trans (p8_q_140)))
                                          have z_223 : q_212.2.2.1 a0 26 = m26 := ((show q_212.2.2.1 a0 26 = q_178.2.2.1 a0 26 from by rw [eq_212]; rfl)).trans (((show q_178.2.2.1 a0 26 = q_174.2.2.1 a0 26 from by rw [eq_178]; rfl)).trans (((show q_174.2.2.1 a0 26 = q_140.2.2.1 a0 26 from by rw [eq_174]; rfl)).trans (p9_q_140)))
                                          have z_224 : q_212.2.2.1 a0 27 = m27 := ((show q_212.2.2.1 a0 27 = q_178.2.2.1 a0 27 from by rw [eq_212]; rfl)).trans (((show q_178.2.2.1 a0 27 = q_174.2.2.1 a0 27 from by rw [eq_178]; rfl)).trans (((show q_174.2.2.1 a0 27 = q_140.2.2.1 a0 27 from by rw [eq_174]; rfl)).trans (p10_q_140)))
                                          have z_225 : q_212.2.2.1 a0 28 = m28 := ((show q_212.2.2.1 a0 28 = q_178.2.2.1 a0 28 from by rw [eq_212]; rfl)).trans (((show q_178.2.2.1 a0 28 = q_174.2.2.1 a0 28 from by rw [eq_178]; rfl)).trans (((show q_174.2.2.1 a0 28 = q_140.2.2.1 a0 28 from by rw [eq_174]; rfl)).trans (p11_q_140)))
                                          have z_226 : q_212.2.2.1 a0 29 = m29 := ((show q_212.2.2.1 a0 29 = q_178.2.2.1 a0 29 from by rw [eq_212]; rfl)).trans (((show q_178.2.2.1 a0 29 = q_174.2.2.1 a0 29 from by rw [eq_178]; rfl)).trans (((show q_174.2.2.1 a0 29 = q_140.2.2.1 a0 29 from by rw [eq_174]; rfl)).trans (p12_q_140)))
                                          have z_227 : q_212.2.2.1 a0 30 = m30 := ((show q_212.2.2.1 a0 30 = q_178.2.2.1 a0 30 from by rw [eq_212]; rfl)).trans (((show q_178.2.2.1 a0 30 = q_174.2.2.1 a0 30 from by rw [eq_178]; rfl)).trans (((show q_174.2.2.1 a0 30 = q_140.2.2.1 a0 30 from by rw [eq_174]; rfl)).trans (p13_q_140)))
                                          have z_228 : q_212.2.2.1 a0 34 = m34 := ((show q_212.2.2.1 a0 34 = q_178.2.2.1 a0 34 from by rw [eq_212]; rfl)).trans (((show q_178.2.2.1 a0 34 = q_174.2.2.1 a0 34 from by rw [eq_178]; rfl)).trans (((show q_174.2.2.1 a0 34 = q_140.2.2.1 a0 34 from by rw [eq_174]; rfl)).trans (p14_q_140)))
                                          have z_229 : q_212.2.2.1 a0 35 = m35 := ((show q_212.2.2.1 a0 35 = q_178.2.2.1 a0 35 from by rw [eq_212]; rfl)).trans (((show q_178.2.2.1 a0 35 = q_174.2.2.1 a0 35 from by rw [eq_178]; rfl)).trans (((show q_174.2.2.1 a0 35 = q_140.2.2.1 a0 35 from by rw [eq_174]; rfl)).trans (p15_q_140)))
                                          have z_230 : q_212.2.2.1 a0 40 = m40 := ((show q_212.2.2.1 a0 40 = q_178.2.2.1 a0 40 from by rw [eq_212]; rfl)).trans (((show q_178.2.2.1 a0 40 = q_174.2.2.1 a0 40 from by rw [eq_178]; rfl)).trans (((show q_174.2.2.1 a0 40 = q_140.2.2.1 a0 40 from by rw [eq_174]; rfl)).trans (p16_q_140)))
                                          have z_231 : q_212.2.2.1 a0 41 = m41 := ((show q_212.2.2.1 a0 41 = q_178.2.2.1 a0 41 from by rw [eq_212]; rfl)).trans (((show q_178.2.2.1 a0 41 = q_174.2.2.1 a0 41 from by rw [eq_178]; rfl)).trans (((show q_174.2.2.1 a0 41 = q_140.2.2.1 a0 41 from by rw [eq_174]; rfl)).trans (p17_q_140)))
                                          have z_232 : q_212.2.2.1 a0 44 = m44 := ((show q_212.2.2.1 a0 44 = q_178.2.2.1 a0 44 from by rw [eq_212]; rfl)).trans (((show q_178.2.2.1 a0 44 = q_174.2.2.1 a0 44 from by rw [eq_178]; rfl)).trans (((show q_174.2.2.1 a0 44 = q_140.2.2.1 a0 44 from by rw [eq_174]; rfl)).trans (p18_q_140)))
                                          have z_233 : q_212.2.2.1 a0 42 = m42 := ((show q_212.2.2.1 a0 42 = q_178.2.2.1 a0 42 from by rw [eq_212]; rfl)).trans (((show q_178.2.2.1 a0 42 = q_174.2.2.1 a0 42 from by rw [eq_178]; rfl)).trans (((show q_174.2.2.1 a0 42 = q_140.2.2.1 a0 42 from by rw [eq_174]; rfl)).trans (p19_q_140)))
                                          have z_234 : q_212.2.2.1 a0 43 = m43 := ((show q_212.2.2.1 a0 43 = q_178.2.2.1 a0 43 from by rw [eq_212]; rfl)).trans (((show q_178.2.2.1 a0 43 = q_174.2.2.1 a0 43 from by rw [eq_178]; rfl)).trans (((show q_174.2.2.1 a0 43 = q_140.2.2.1 a0 43 from by rw [eq_174]; rfl)).trans (p20_q_140)))
                                          have z_235 : q_212.2.2.1 a0 46 = m46 := ((show q_212.2.2.1 a0 46 = q_178.2.2.1 a0 46 from by rw [eq_212]; rfl)).trans (z_182)
                                          have z_236 : q_212.2.2.1 a0 47 = m47 := ((show q_212.2.2.1 a0 47 = q_178.2.2.1 a0 47 from by rw [eq_212]; rfl)).trans (((show q_178.2.2.1 a0 47 = q_174.2.2.1 a0 47 from by rw [eq_178]; rfl)).trans (((show q_174.2.2.1 a0 47 = q_140.2.2.1 a0 47 from by rw [eq_174]; rfl)).trans (p22_q_140)))
                                          have z_237 : q_212.2.2.1 a0 48 = m48 := ((show q_212.2.2.1 a0 48 = q_178.2.2.1 a0 48 from by rw [eq_212]; rfl)).trans (((show q_178.2.2.1 a0 48 = q_174.2.2.1 a0 48 from by rw [eq_178]; rfl)).trans (z_177))
                                          refine WA.sub [1, 2, 3, 0, 4, 5] rfl ?_
                                          exact Jn_435_158 v_181 q_212 hV_q_212 hF_q_212 hK_q_212 mN_q_212 mS_q_212 mL_q_212 z_214 z_215 z_216 z_217 z_218 z_219 z_220 z_221 z_222 z_223 z_224 z_225 z_226 z_227 z_228 z_229 z_230 z_231 z_232 z_233 z_234 z_235 z_236 z_237
                                      · refine wa_goto B 435 dX12_match_383 (by decide) ?_
                                        exact Jn_435_158 v_139 q_140 hV_q_140 hF_q_140 hK_q_140 mN_q_140 mS_q_140 mL_q_140 p0_q_140 p1_q_140 p2_q_140 p3_q_140 p4_q_140 p5_q_140 p6_q_140 p7_q_140 p8_q_140 p9_q_140 p10_q_140 p11_q_140 p12_q_140 p13_q_140 p14_q_140 p15_q_140 p16_q_140 p17_q_140 p18_q_140 p19_q_140 p20_q_140 p21_q_140 p22_q_140 p23_q_140
                          have tv_137 : v_137.toInt = r_131.toInt + 1 := by have b0 := zx_bd r_131; rw [ev_137]; exact zx_add (show (-2147483648 : Int) ≤ r_131.toInt + 1 by omega) (show r_131.toInt + 1 < (2147483648 : Int) by omega)
                          exact Lp_300_142 _ v_137 v_123 q_124 hV_q_124 hF_q_124 hK_q_124 mN_q_124 mS_q_124 mL_q_124 p0_q_124 p1_q_124 p2_q_124 p3_q_124 p4_q_124 p5_q_124 p6_q_124 p7_q_124 p8_q_124 p9_q_124 p10_q_124 p11_q_124 p12_q_124 p13_q_124 p14_q_124 p15_q_124 p16_q_124 p17_q_124 p18_q_124 p19_q_124 p20_q_124 p21_q_124 p22_q_124 p23_q_124 (show 0 ≤ v_137.toInt from by first | assumption | omega | decide) (Nat.lt_succ_self _)
                    have tv_121 : v_121.toInt = v_120.toInt - 1 := by have b0 := zx_bd v_120; rw [ev_121]; exact zx_sub (show (-2147483648 : Int) ≤ v_120.toInt - 1 by omega) (show v_120.toInt - 1 < (2147483648 : Int) by omega)
                    exact Lp_275_127 _ v_121 0 q_91 hV_q_91 hF_q_91 hK_q_91 mN_q_91 mS_q_91 mL_q_91 p0_q_91 p1_q_91 p2_q_91 p4_q_91 p5_q_91 p6_q_91 p7_q_91 p8_q_91 p9_q_91 p10_q_91 p11_q_91 p12_q_91 p13_q_91 p14_q_91 p15_q_91 p16_q_91 p17_q_91 p18_q_91 p19_q_91 p20_q_91 p21_q_91 p22_q_91 p23_q_91 p24_q_91 (show 0 ≤ v_121.toInt from by first | assumption | omega | decide) (show v_121.toInt ≤ 4095 from by first | assumption | omega | decide) (Nat.lt_succ_self _)
                  · refine wa_aload_n B dX12_match_256 rfl 3 rfl ?_
                    refine wa_getR B (C := RX12) (T := TX12) (N := 51) iq_X12_match_X12 ha0 ka0 (by decide) rfl 48 (by decide) (by decide) (by decide +kernel) rfl (fun _ _ _ => rfl) (v := m48) p24_q_91 dX12_match_257 ?_
                    refine wa_iload_n B dX12_match_260 rfl 0 rfl ?_
                    refine wa_iconst B (-1) dX12_match_261 (by decide) ?_
                    refine wa_iastore B hm48 km48 (by decide) (by decide) (show 0 ≤ v_90.toInt by omega) (show v_90.toInt < (h.2.1 m48 : Int) by omega) dX12_match_262 (fun q_238 eq_238 => ?_)
                    have hV_q_238 : sx_V h L q_238 := by rw [eq_238]; exact hV_q_91.up1 hm48 km48 trivial
                    have hF_q_238 : sx_fr h L (fun a => h.1 a = 12 ∨ h.1 a = 113 ∨ h.1 a = 133 ∨ h.1 a = 134 ∨ h.1 a = 135 ∨ h.1 a = 138 ∨ h.1 a = 139 ∨ h.1 a = 140 ∨ h.1 a = 136 ∨ h.1 a = 137 ∨ h.1 a = 144 ∨ h.1 a = 245 ∨ h.1 a = 156 ∨ h.1 a = 157 ∨ h.1 a = 158) q q_238 := hF_q_91.tr (by rw [eq_238]; exact sx_fr.pG (show h.1 m48 = 100 ∨ (h.1 m48 = 12 ∨ h.1 m48 = 113 ∨ h.1 m48 = 133 ∨ h.1 m48 = 134 ∨ h.1 m48 = 135 ∨ h.1 m48 = 138 ∨ h.1 m48 = 139 ∨ h.1 m48 = 140 ∨ h.1 m48 = 136 ∨ h.1 m48 = 137 ∨ h.1 m48 = 144 ∨ h.1 m48 = 245 ∨ h.1 m48 = 156 ∨ h.1 m48 = 157 ∨ h.1 m48 = 158) from by omega))
                    have z_239 : q_238.2.2.2.1 m48 = (upd (q_91.2.2.2.1 m48) (v_90 : Int32).toNatClampNeg (-1)) := by rw [eq_238, sg_pG_e]
                    have z_240 : q_238.2.2.2.1 m48 (v_90 : Int32).toNatClampNeg = (-1) := by rw [eq_238, sg_pG_e]; exact if_pos rfl
                    have hK_q_238 : sx_kf a0 [0, 49, 50, 4, 14, 15, 32, 33, 36, 37, 38, 39, 5, 10, 6, 7, 8, 9, 11, 12, 13] q q_238 := hK_q_91.tr (sx_kf.eq (by rw [eq_238]; rfl) (by rw [eq_238]; rfl))
                    have mN_q_238 : mv_N a0 q_238 := mv_N.eq ((show q_238.1 a0 8 = q_91.1 a0 8 from by rw [eq_238]; rfl)) ((show q_238.2.1 a0 11 = q_91.2.1 a0 11 from by rw [eq_238]; rfl)) mN_q_91
                    have mS_q_238 : mv_S m23 m26 m28 m29 q_238 := mv_S.eq ((show q_238.2.2.2.1 m23 = q_91.2.2.2.1 m23 from by rw [eq_238]; exact sg_pG_a (sx_ka h km23 km48 (by decide)))) ((show q_238.2.2.2.1 m26 = q_91.2.2.2.1 m26 from by rw [eq_238]; exact sg_pG_a (sx_ka h km26 km48 (by decide)))) ((show q_238.2.2.2.1 m28 = q_91.2.2.2.1 m28 from by rw [eq_238]; exact sg_pG_a (sx_ka h km28 km48 (by decide)))) ((show q_238.2.2.2.1 m29 = q_91.2.2.2.1 m29 from by rw [eq_238]; exact sg_pG_a (sx_ka h km29 km48 (by decide)))) mS_q_91
                    have mL_q_238 : mv_L m40 m41 m44 a0 q_238 := mv_L.eq ((show q_238.2.2.2.1 m40 = q_91.2.2.2.1 m40 from by rw [eq_238]; exact sg_pG_a (sx_ka h km40 km48 (by decide)))) ((show q_238.2.2.2.1 m41 = q_91.2.2.2.1 m41 from by rw [eq_238]; exact sg_pG_a (sx_ka h km41 km48 (by decide)))) ((show q_238.2.2.2.1 m44 = q_91.2.2.2.1 m44 from by rw [eq_238]; exact sg_pG_a (sx_ka h km44 km48 (by decide)))) ((show q_238.1 a0 45 = q_91.1 a0 45 from by rw [eq_238]; rfl)) mL_q_91
                    obtain ⟨v_241, ev_241⟩ : ∃ z : Int32, z = v_90 + 1 := ⟨_, rfl⟩
                    refine wa_iinc B [(3, .int v_241), (2, .int 0), (1, .int (q_1.1 a0 45)), (0, .ref a0)] v_241 dX12_match_263 0 rfl (by rw [ev_241]; rfl) (by decide) rfl ?_
                    refine wa_goto B 250 dX12_match_266 (by decide) ?_
                    have tv_241 : v_241.toInt = v_90.toInt + 1 := by have b0 := zx_bd v_90; rw [ev_241]; exact zx_add (show (-2147483648 : Int) ≤ v_90.toInt + 1 by omega) (show v_90.toInt + 1 < (2147483648 : Int) by omega)
                    have z_242 : q_238.1 a0 0 = 0 := ((show q_238.1 a0 0 = q_91.1 a0 0 from by rw [eq_238]; rfl)).trans (p0_q_91)
                    have z_243 : q_238.1 a0 45 = (q_1.1 a0 45) := ((show q_238.1 a0 45 = q_91.1 a0 45 from by rw [eq_238]; rfl)).trans (p1_q_91)
                    have z_244 : q_238.1 a0 50 = 1 := ((show q_238.1 a0 50 = q_91.1 a0 50 from by rw [eq_238]; rfl)).trans (p2_q_91)
                    have z_245 : q_238.1 a0 49 = 0 := ((show q_238.1 a0 49 = q_91.1 a0 49 from by rw [eq_238]; rfl)).trans (p3_q_91)
                    have z_246 : q_238.2.2.1 a0 3 = m3 := ((show q_238.2.2.1 a0 3 = q_91.2.2.1 a0 3 from by rw [eq_238]; rfl)).trans (p4_q_91)
                    have z_247 : q_238.2.2.1 a0 18 = m18 := ((show q_238.2.2.1 a0 18 = q_91.2.2.1 a0 18 from by rw [eq_238]; rfl)).trans (p5_q_91)
                    have z_248 : q_238.2.2.1 a0 19 = m19 := ((show q_238.2.2.1 a0 19 = q_91.2.2.1 a0 19 from by rw [eq_238]; rfl)).trans (p6_q_91)
                    have z_249 : q_238.2.2.1 a0 23 = m23 := ((show q_238.2.2.1 a0 23 = q_91.2.2.1 a0 23 from by rw [eq_238]; rfl)).trans (p7_q_91)
                    have z_250 : q_238.2.2.1 a0 24 = m24 := ((show q_238.2.2.1 a0 24 = q_91.2.2.1 a0 24 from by rw [eq_238]; rfl)).trans (p8_q_91)
                    have z_251 : q_238.2.2.1 a0 25 = m25 := ((show q_238.2.2.1 a0 25 = q_91.2.2.1 a0 25 from by rw [eq_238]; rfl)).trans (p9_q_91)
                    have z_252 : q_238.2.2.1 a0 26 = m26 := ((show q_238.2.2.1 a0 26 = q_91.2.2.1 a0 26 from by rw [eq_238]; rfl)).trans (p10_q_91)
                    have z_253 : q_238.2.2.1 a0 27 = m27 := ((show q_238.2.2.1 a0 27 = q_91.2.2.1 a0 27 from by rw [eq_238]; rfl)).trans (p11_q_91)
                    have z_254 : q_238.2.2.1 a0 28 = m28 := ((show q_238.2.2.1 a0 28 = q_91.2.2.1 a0 28 from by rw [eq_238]; rfl)).trans (p12_q_91)
                    have z_255 : q_238.2.2.1 a0 29 = m29 := ((show q_238.2.2.1 a0 29 = q_91.2.2.1 a0 29 from by rw [eq_238]; rfl)).trans (p13_q_91)
                    have z_256 : q_238.2.2.1 a0 30 = m30 := ((show q_238.2.2.1 a0 30 = q_91.2.2.1 a0 30 from by rw [eq_238]; rfl)).trans (p14_q_91)
                    have z_257 : q_238.2.2.1 a0 34 = m34 := ((show q_238.2.2.1 a0 34 = q_91.2.2.1 a0 34 from by rw [eq_238]; rfl)).trans (p15_q_91)
                    have z_258 : q_238.2.2.1 a0 35 = m35 := ((show q_238.2.2.1 a0 35 = q_91.2.2.1 a0 35 from by rw [eq_238]; rfl)).trans (p16_q_91)
                    have z_259 : q_238.2.2.1 a0 40 = m40 := ((show q_238.2.2.1 a0 40 = q_91.2.2.1 a0 40 from by rw [eq_238]; rfl)).trans (p17_q_91)
                    have z_260 : q_238.2.2.1 a0 41 = m41 := ((show q_238.2.2.1 a0 41 = q_91.2.2.1 a0 41 from by rw [eq_238]; rfl)).trans (p18_q_91)
                    have z_261 : q_238.2.2.1 a0 44 = m44 := ((show q_238.2.2.1 a0 44 = q_91.2.2.1 a0 44 from by rw [eq_238]; rfl)).trans (p19_q_91)
                    have z_262 : q_238.2.2.1 a0 42 = m42 := ((show q_238.2.2.1 a0 42 = q_91.2.2.1 a0 42 from by rw [eq_238]; rfl)).trans (p20_q_91)
                    have z_263 : q_238.2.2.1 a0 43 = m43 := ((show q_238.2.2.1 a0 43 = q_91.2.2.1 a0 43 from by rw [eq_238]; rfl)).trans (p21_q_91)
                    have z_264 : q_238.2.2.1 a0 46 = m46 := ((show q_238.2.2.1 a0 46 = q_91.2.2.1 a0 46 from by rw [eq_238]; rfl)).trans (p22_q_91)
                    have z_265 : q_238.2.2.1 a0 47 = m47 := ((show q_238.2.2.1 a0 47 = q_91.2.2.1 a0 47 from by rw [eq_238]; rfl)).trans (p23_q_91)
                    have z_266 : q_238.2.2.1 a0 48 = m48 := ((show q_238.2.2.1 a0 48 = q_91.2.2.1 a0 48 from by rw [eq_238]; rfl)).trans (p24_q_91)
                    exact ih_118 v_241 q_238 hV_q_238 hF_q_238 hK_q_238 mN_q_238 mS_q_238 mL_q_238 z_242 z_243 z_244 z_245 z_246 z_247 z_248 z_249 z_250 z_251 z_252 z_253 z_254 z_255 z_256 z_257 z_258 z_259 z_260 z_261 z_262 z_263 z_264 z_265 z_266 (show 0 ≤ v_241.toInt from by first | assumption | omega | decide) (show (12 - v_241.toInt : Int).toNat < _ from by omega)
              exact Lp_250_117 _ 0 q_88 hV_q_88 hF_q_88 hK_q_88 mN_q_88 mS_q_88 mL_q_88 z_92 z_93 z_94 z_89 z_95 z_96 z_97 z_98 z_99 z_100 z_101 z_102 z_103 z_104 z_105 z_106 z_107 z_108 z_109 z_110 z_111 z_112 z_113 z_114 z_115 (show 0 ≤ 0 from by first | assumption | omega | decide) (Nat.lt_succ_self _)
            · refine wa_iload_n B dX12_match_110 rfl 0 rfl ?_
              refine wa_callSi B (As := [.int v_55]) (rest := []) (k_X12_lowest l dC dI h L hN q_56 hV_q_56 v_55  (by first | assumption | omega | decide) (by first | assumption | omega | decide)) (va_cwS 1 B.1.2.2.2.2 gX12_match_X12_lowest rfl rfl rfl (by decide +kernel) ⟨Nat.le_of_ble_eq_true rfl, Nat.le_of_ble_eq_true rfl⟩) rfl rfl (Nat.le_of_ble_eq_true rfl) dX12_match_111 (fun r_268 q_267 w_269 => ?_)
              obtain ⟨ew_269, hw_269⟩ := w_269
              subst ew_269
              refine wa_istore_n B [(3, .int r_268), (2, .int v_55), (1, .int (q_1.1 a0 45)), (0, .ref a0)] dX12_match_114 rfl (by decide) rfl ?_
              refine wa_iload_n B dX12_match_115 rfl 1 rfl ?_
              refine wa_iconst B 1 dX12_match_116 (by decide) ?_
              refine wa_iload_n B dX12_match_117 rfl 0 rfl ?_
              refine wa_ishl B dX12_match_118 (fun v_270 ev_270 => ?_)
              have gv_270 : 1 ≤ v_270.toInt ∧ v_270.toInt ≤ 2048 := by rw [ev_270]; exact zx_shl0 (by omega) (by omega)
              refine wa_iconst B (-1) dX12_match_119 (by decide) ?_
              refine wa_ixor B dX12_match_120 (fun v_271 ev_271 => ?_)
              refine wa_iand B dX12_match_121 (fun v_272 ev_272 => ?_)
              have gv_272 : 0 ≤ v_272.toInt ∧ v_272.toInt ≤ v_55.toInt := by rw [ev_272]; exact zx_andle (by omega)
              refine wa_istore B [(4, .int v_272), (3, .int r_268), (2, .int v_55), (1, .int (q_1.1 a0 45)), (0, .ref a0)] dX12_match_122 (by decide) rfl ?_
              refine wa_aload_n B dX12_match_124 rfl 4 rfl ?_
              refine wa_getR B (C := RX12) (T := TX12) (N := 51) iq_X12_match_X12 ha0 ka0 (by decide) rfl 47 (by decide) (by decide) (by decide +kernel) rfl (fun _ _ _ => rfl) (v := m47) p21_q_56 dX12_match_125 ?_
              refine wa_iload_n B dX12_match_128 rfl 2 rfl ?_
              refine wa_aload_n B dX12_match_129 rfl 4 rfl ?_
              refine wa_getR B (C := RX12) (T := TX12) (N := 51) iq_X12_match_X12 ha0 ka0 (by decide) rfl 47 (by decide) (by decide) (by decide +kernel) rfl (fun _ _ _ => rfl) (v := m47) p21_q_56 dX12_match_130 ?_
              refine wa_iload B dX12_match_133 0 rfl ?_
              refine wa_iaload B hm47 km47 (by decide) (by decide) (show 0 ≤ v_272.toInt by omega) (show v_272.toInt < (h.2.1 m47 : Int) by omega) (v := (q_56.2.2.2.1 m47 (v_272 : Int32).toNatClampNeg)) rfl dX12_match_135 ?_
              refine wa_iastore B hm47 km47 (by decide) (by decide) (show 0 ≤ v_55.toInt by omega) (show v_55.toInt < (h.2.1 m47 : Int) by omega) dX12_match_136 (fun q_273 eq_273 => ?_)
              have hV_q_273 : sx_V h L q_273 := by rw [eq_273]; exact hV_q_56.up1 hm47 km47 trivial
              have hF_q_273 : sx_fr h L (fun a => h.1 a = 12 ∨ h.1 a = 113 ∨ h.1 a = 133 ∨ h.1 a = 134 ∨ h.1 a = 135 ∨ h.1 a = 138 ∨ h.1 a = 139 ∨ h.1 a = 140 ∨ h.1 a = 136 ∨ h.1 a = 137 ∨ h.1 a = 144 ∨ h.1 a = 245 ∨ h.1 a = 156 ∨ h.1 a = 157 ∨ h.1 a = 158) q q_273 := hF_q_56.tr (by rw [eq_273]; exact sx_fr.pG (show h.1 m47 = 100 ∨ (h.1 m47 = 12 ∨ h.1 m47 = 113 ∨ h.1 m47 = 133 ∨ h.1 m47 = 134 ∨ h.1 m47 = 135 ∨ h.1 m47 = 138 ∨ h.1 m47 = 139 ∨ h.1 m47 = 140 ∨ h.1 m47 = 136 ∨ h.1 m47 = 137 ∨ h.1 m47 = 144 ∨ h.1 m47 = 245 ∨ h.1 m47 = 156 ∨ h.1 m47 = 157 ∨ h.1 m47 = 158) from by omega))
              have z_274 : q_273.2.2.2.1 m47 = (upd (q_56.2.2.2.1 m47) (v_55 : Int32).toNatClampNeg ((q_56.2.2.2.1 m47 (v_272 : Int32).toNatClampNeg))) := by rw [eq_273, sg_pG_e]
              have z_275 : q_273.2.2.2.1 m47 (v_55 : Int32).toNatClampNeg = (q_56.2.2.2.1 m47 (v_272 : Int32).toNatClampNeg) := by rw [eq_273, sg_pG_e]; exact if_pos rfl
              have hK_q_273 : sx_kf a0 [0, 49, 50, 4, 14, 15, 32, 33, 36, 37, 38, 39, 5, 10, 6, 7, 8, 9, 11, 12, 13] q q_273 := hK_q_56.tr (sx_kf.eq (by rw [eq_273]; rfl) (by rw [eq_273]; rfl))
              have mN_q_273 : mv_N a0 q_273 := mv_N.eq ((show q_273.1 a0 8 = q_56.1 a0 8 from by rw [eq_273]; rfl)) ((show q_273.2.1 a0 11 = q_56.2.1 a0 11 from by rw [eq_273]; rfl)) mN_q_56
              have mS_q_273 : mv_S m23 m26 m28 m29 q_273 := mv_S.eq ((show q_273.2.2.2.1 m23 = q_56.2.2.2.1 m23 from by rw [eq_273]; exact sg_pG_a (sx_ka h km23 km47 (by decide)))) ((show q_273.2.2.2.1 m26 = q_56.2.2.2.1 m26 from by rw [eq_273]; exact sg_pG_a (sx_ka h km26 km47 (by decide)))) ((show q_273.2.2.2.1 m28 = q_56.2.2.2.1 m28 from by rw [eq_273]; exact sg_pG_a (sx_ka h km28 km47 (by decide)))) ((show q_273.2.2.2.1 m29 = q_56.2.2.2.1 m29 from by rw [eq_273]; exact sg_pG_a (sx_ka h km29 km47 (by decide)))) mS_q_56
              have mL_q_273 : mv_L m40 m41 m44 a0 q_273 := mv_L.eq ((show q_273.2.2.2.1 m40 = q_56.2.2.2.1 m40 from by rw [eq_273]; exact sg_pG_a (sx_ka h km40 km47 (by decide)))) ((show q_273.2.2.2.1 m41 = q_56.2.2.2.1 m41 from by rw [eq_273]; exact sg_pG_a (sx_ka h km41 km47 (by decide)))) ((show q_273.2.2.2.1 m44 = q_56.2.2.2.1 m44 from by rw [eq_273]; exact sg_pG_a (sx_ka h km44 km47 (by decide)))) ((show q_273.1 a0 45 = q_56.1 a0 45 from by rw [eq_273]; rfl)) mL_q_56
              refine wa_iload_n B dX12_match_137 rfl 1 rfl ?_
              refine wa_iconst B 1 dX12_match_138 (by decide) ?_
              refine wa_iadd B dX12_match_139 (fun v_276 ev_276 => ?_)
              refine wa_istore B [(5, .int v_276), (4, .int v_272), (3, .int r_268), (2, .int v_55), (1, .int (q_1.1 a0 45)), (0, .ref a0)] dX12_match_140 (by decide) rfl ?_
              have z_279 : q_273.1 a0 0 = 0 := ((show q_273.1 a0 0 = q_56.1 a0 0 from by rw [eq_273]; rfl)).trans (p0_q_56)
              have z_280 : q_273.1 a0 45 = (q_1.1 a0 45) := ((show q_273.1 a0 45 = q_56.1 a0 45 from by rw [eq_273]; rfl)).trans (p1_q_56)
              have z_281 : q_273.2.2.1 a0 3 = m3 := ((show q_273.2.2.1 a0 3 = q_56.2.2.1 a0 3 from by rw [eq_273]; rfl)).trans (p2_q_56)
              have z_282 : q_273.2.2.1 a0 18 = m18 := ((show q_273.2.2.1 a0 18 = q_56.2.2.1 a0 18 from by rw [eq_273]; rfl)).trans (p3_q_56)
              have z_283 : q_273.2.2.1 a0 19 = m19 := ((show q_273.2.2.1 a0 19 = q_56.2.2.1 a0 19 from by rw [eq_273]; rfl)).trans (p4_q_56)
              have z_284 : q_273.2.2.1 a0 23 = m23 := ((show q_273.2.2.1 a0 23 = q_56.2.2.1 a0 23 from by rw [eq_273]; rfl)).trans (p5_q_56)
              have z_285 : q_273.2.2.1 a0 24 = m24 := ((show q_273.2.2.1 a0 24 = q_56.2.2.1 a0 24 from by rw [eq_273]; rfl)).trans (p6_q_56)
              have z_286 : q_273.2.2.1 a0 25 = m25 := ((show q_273.2.2.1 a0 25 = q_56.2.2.1 a0 25 from by rw [eq_273]; rfl)).trans (p7_q_56)
              have z_287 : q_273.2.2.1 a0 26 = m26 := ((show q_273.2.2.1 a0 26 = q_56.2.2.1 a0 26 from by rw [eq_273]; rfl)).trans (p8_q_56)
              have z_288 : q_273.2.2.1 a0 27 = m27 := ((show q_273.2.2.1 a0 27 = q_56.2.2.1 a0 27 from by rw [eq_273]; rfl)).trans (p9_q_56)
              have z_289 : q_273.2.2.1 a0 28 = m28 := ((show q_273.2.2.1 a0 28 = q_56.2.2.1 a0 28 from by rw [eq_273]; rfl)).trans (p10_q_56)
              have z_290 : q_273.2.2.1 a0 29 = m29 := ((show q_273.2.2.1 a0 29 = q_56.2.2.1 a0 29 from by rw [eq_273]; rfl)).trans (p11_q_56)
              have z_291 : q_273.2.2.1 a0 30 = m30 := ((show q_273.2.2.1 a0 30 = q_56.2.2.1 a0 30 from by rw [eq_273]; rfl)).trans (p12_q_56)
              have z_292 : q_273.2.2.1 a0 34 = m34 := ((show q_273.2.2.1 a0 34 = q_56.2.2.1 a0 34 from by rw [eq_273]; rfl)).trans (p13_q_56)
              have z_293 : q_273.2.2.1 a0 35 = m35 := ((show q_273.2.2.1 a0 35 = q_56.2.2.1 a0 35 from by rw [eq_273]; rfl)).trans (p14_q_56)
              have z_294 : q_273.2.2.1 a0 40 = m40 := ((show q_273.2.2.1 a0 40 = q_56.2.2.1 a0 40 from by rw [eq_273]; rfl)).trans (p15_q_56)
              have z_295 : q_273.2.2.1 a0 41 = m41 := ((show q_273.2.2.1 a0 41 = q_56.2.2.1 a0 41 from by rw [eq_273]; rfl)).trans (p16_q_56)
              have z_296 : q_273.2.2.1 a0 44 = m44 := ((show q_273.2.2.1 a0 44 = q_56.2.2.1 a0 44 from by rw [eq_273]; rfl)).trans (p17_q_56)
              have z_297 : q_273.2.2.1 a0 42 = m42 := ((show q_273.2.2.1 a0 42 = q_56.2.2.1 a0 42 from by rw [eq_273]; rfl)).trans (p18_q_56)
              have z_298 : q_273.2.2.1 a0 43 = m43 := ((show q_273.2.2.1 a0 43 = q_56.2.2.1 a0 43 from by rw [eq_273]; rfl)).trans (p19_q_56)
              have z_299 : q_273.2.2.1 a0 46 = m46 := ((show q_273.2.2.1 a0 46 = q_56.2.2.1 a0 46 from by rw [eq_273]; rfl)).trans (p20_q_56)
              have z_300 : q_273.2.2.1 a0 47 = m47 := ((show q_273.2.2.1 a0 47 = q_56.2.2.1 a0 47 from by rw [eq_273]; rfl)).trans (p21_q_56)
              have z_301 : q_273.2.2.1 a0 48 = m48 := ((show q_273.2.2.1 a0 48 = q_56.2.2.1 a0 48 from by rw [eq_273]; rfl)).trans (p22_q_56)
              have Lp_142_303 : ∀ (n : Nat) (v_277 : Int32) (q_278 : Sg), sx_V h L q_278 → sx_fr h L (fun a => h.1 a = 12 ∨ h.1 a = 113 ∨ h.1 a = 133 ∨ h.1 a = 134 ∨ h.1 a = 135 ∨ h.1 a = 138 ∨ h.1 a = 139 ∨ h.1 a = 140 ∨ h.1 a = 136 ∨ h.1 a = 137 ∨ h.1 a = 144 ∨ h.1 a = 245 ∨ h.1 a = 156 ∨ h.1 a = 157 ∨ h.1 a = 158) q q_278 → sx_kf a0 [0, 49, 50, 4, 14, 15, 32, 33, 36, 37, 38, 39, 5, 10, 6, 7, 8, 9, 11, 12, 13] q q_278 → mv_N a0 q_278 → mv_S m23 m26 m28 m29 q_278 → mv_L m40 m41 m44 a0 q_278 → q_278.1 a0 0 = 0 → q_278.1 a0 45 = (q_1.1 a0 45) → q_278.2.2.1 a0 3 = m3 → q_278.2.2.1 a0 18 = m18 → q_278.2.2.1 a0 19 = m19 → q_278.2.2.1 a0 23 = m23 → q_278.2.2.1 a0 24 = m24 → q_278.2.2.1 a0 25 = m25 → q_278.2.2.1 a0 26 = m26 → q_278.2.2.1 a0 27 = m27 → q_278.2.2.1 a0 28 = m28 → q_278.2.2.1 a0 29 = m29 → q_278.2.2.1 a0 30 = m30 → q_278.2.2.1 a0 34 = m34 → q_278.2.2.1 a0 35 = m35 → q_278.2.2.1 a0 40 = m40 → q_278.2.2.1 a0 41 = m41 → q_278.2.2.1 a0 44 = m44 → q_278.2.2.1 a0 42 = m42 → q_278.2.2.1 a0 43 = m43 → q_278.2.2.1 a0 46 = m46 → q_278.2.2.1 a0 47 = m47 → q_278.2.2.1 a0 48 = m48 → 0 ≤ v_277.toInt → ((q_1.1 a0 45).toInt - v_277.toInt : Int).toNat < n → WA l dC dI h L ({ frames := 6, cells := 0, slots := 0, locals := 146 } : Room) 7 Z q_278 142 [(5, .int v_277), (4, .int v_272), (3, .int r_268), (2, .int v_55), (1, .int (q_1.1 a0 45)), (0, .ref a0)] [] := by
                intro n
                induction n with
                | zero =>
                  intro v_277 q_278 hV_q_278 hF_q_278 hK_q_278 mN_q_278 mS_q_278 mL_q_278 p0_q_278 p1_q_278 p2_q_278 p3_q_278 p4_q_278 p5_q_278 p6_q_278 p7_q_278 p8_q_278 p9_q_278 p10_q_278 p11_q_278 p12_q_278 p13_q_278 p14_q_278 p15_q_278 p16_q_278 p17_q_278 p18_q_278 p19_q_278 p20_q_278 p21_q_278 p22_q_278 x_302 hn
                  exact absurd hn (Nat.not_lt_zero _)
                | succ n ih_304 =>
                  intro v_277 q_278 hV_q_278 hF_q_278 hK_q_278 mN_q_278 mS_q_278 mL_q_278 p0_q_278 p1_q_278 p2_q_278 p3_q_278 p4_q_278 p5_q_278 p6_q_278 p7_q_278 p8_q_278 p9_q_278 p10_q_278 p11_q_278 p12_q_278 p13_q_278 p14_q_278 p15_q_278 p16_q_278 p17_q_278 p18_q_278 p19_q_278 p20_q_278 p21_q_278 p22_q_278 x_302 hn
                  refine wa_iload B dX12_match_142 0 rfl ?_
                  refine wa_iload_n B dX12_match_144 rfl 4 rfl ?_
                  refine wa_icmp_ge B 230 dX12_match_145 (by decide) (fun (t_305 : (q_1.1 a0 45).toInt ≤ v_277.toInt) => ?_) (fun (t_305 : ¬ (q_1.1 a0 45).toInt ≤ v_277.toInt) => ?_)
                  · obtain ⟨v_306, ev_306⟩ : ∃ z : Int32, z = v_55 + 1 := ⟨_, rfl⟩
                    refine wa_iinc B [(2, .int v_306), (5, .int v_277), (4, .int v_272), (3, .int r_268), (1, .int (q_1.1 a0 45)), (0, .ref a0)] v_306 dX12_match_230 3 rfl (by rw [ev_306]; rfl) (by decide) rfl ?_
                    refine wa_goto B 103 dX12_match_233 (by decide) ?_
                    have tv_306 : v_306.toInt = v_55.toInt + 1 := by have b0 := zx_bd v_55; rw [ev_306]; exact zx_add (show (-2147483648 : Int) ≤ v_55.toInt + 1 by omega) (show v_55.toInt + 1 < (2147483648 : Int) by omega)
                    refine WA.sub [0, 4, 5] rfl ?_
                    exact ih_83 v_306 q_278 hV_q_278 hF_q_278 hK_q_278 mN_q_278 mS_q_278 mL_q_278 p0_q_278 p1_q_278 p2_q_278 p3_q_278 p4_q_278 p5_q_278 p6_q_278 p7_q_278 p8_q_278 p9_q_278 p10_q_278 p11_q_278 p12_q_278 p13_q_278 p14_q_278 p15_q_278 p16_q_278 p17_q_278 p18_q_278 p19_q_278 p20_q_278 p21_q_278 p22_q_278 (show 1 ≤ v_306.toInt from by first | assumption | omega | decide) (show v_306.toInt ≤ 4096 from by first | assumption | omega | decide) (show (4097 - v_306.toInt : Int).toNat < _ from by omega)
                  · refine wa_iload B dX12_match_148 1 rfl ?_
                    refine wa_iload B dX12_match_150 0 rfl ?_
                    refine wa_ishr B dX12_match_152 (fun v_307 ev_307 => ?_)
                    refine wa_iconst B 1 dX12_match_153 (by decide) ?_
                    refine wa_iand B dX12_match_154 (fun v_308 ev_308 => ?_)
                    have Jn_224_310 : ∀  (q_309 : Sg), sx_V h L q_309 → sx_fr h L (fun a => h.1 a = 12 ∨ h.1 a = 113 ∨ h.1 a = 133 ∨ h.1 a = 134 ∨ h.1 a = 135 ∨ h.1 a = 138 ∨ h.1 a = 139 ∨ h.1 a = 140 ∨ h.1 a = 136 ∨ h.1 a = 137 ∨ h.1 a = 144 ∨ h.1 a = 245 ∨ h.1 a = 156 ∨ h.1 a = 157 ∨ h.1 a = 158) q q_309 → sx_kf a0 [0, 49, 50, 4, 14, 15, 32, 33, 36, 37, 38, 39, 5, 10, 6, 7, 8, 9, 11, 12, 13] q q_309 → mv_N a0 q_309 → mv_S m23 m26 m28 m29 q_309 → mv_L m40 m41 m44 a0 q_309 → q_309.1 a0 0 = 0 → q_309.1 a0 45 = (q_1.1 a0 45) → q_309.2.2.1 a0 3 = m3 → q_309.2.2.1 a0 18 = m18 → q_309.2.2.1 a0 19 = m19 → q_309.2.2.1 a0 23 = m23 → q_309.2.2.1 a0 24 = m24 → q_309.2.2.1 a0 25 = m25 → q_309.2.2.1 a0 26 = m26 → q_309.2.2.1 a0 27 = m27 → q_309.2.2.1 a0 28 = m28 → q_309.2.2.1 a0 29 = m29 → q_309.2.2.1 a0 30 = m30 → q_309.2.2.1 a0 34 = m34 → q_309.2.2.1 a0 35 = m35 → q_309.2.2.1 a0 40 = m40 → q_309.2.2.1 a0 41 = m41 → q_309.2.2.1 a0 44 = m44 → q_309.2.2.1 a0 42 = m42 → q_309.2.2.1 a0 43 = m43 → q_309.2.2.1 a0 46 = m46 → q_309.2.2.1 a0 47 = m47 → q_309.2.2.1 a0 48 = m48 → WA l dC dI h L ({ frames := 6, cells := 0, slots := 0, locals := 146 } : Room) 7 Z q_309 224 [(5, .int v_277), (4, .int v_272), (3, .int r_268), (2, .int v_55), (1, .int (q_1.1 a0 45)), (0, .ref a0)] [] := by
                      intro q_309 hV_q_309 hF_q_309 hK_q_309 mN_q_309 mS_q_309 mL_q_309 p0_q_309 p1_q_309 p2_q_309 p3_q_309 p4_q_309 p5_q_309 p6_q_309 p7_q_309 p8_q_309 p9_q_309 p10_q_309 p11_q_309 p12_q_309 p13_q_309 p14_q_309 p15_q_309 p16_q_309 p17_q_309 p18_q_309 p19_q_309 p20_q_309 p21_q_309 p22_q_309
                      obtain ⟨v_311, ev_311⟩ : ∃ z : Int32, z = v_277 + 1 := ⟨_, rfl⟩
                      refine wa_iinc B [(5, .int v_311), (4, .int v_272), (3, .int r_268), (2, .int v_55), (1, .int (q_1.1 a0 45)), (0, .ref a0)] v_311 dX12_match_224 0 rfl (by rw [ev_311]; rfl) (by decide) rfl ?_
                      refine wa_goto B 142 dX12_match_227 (by decide) ?_
                      have tv_311 : v_311.toInt = v_277.toInt + 1 := by have b0 := zx_bd v_277; rw [ev_311]; exact zx_add (show (-2147483648 : Int) ≤ v_277.toInt + 1 by omega) (show v_277.toInt + 1 < (2147483648 : Int) by omega)
                      exact ih_304 v_311 q_309 hV_q_309 hF_q_309 hK_q_309 mN_q_309 mS_q_309 mL_q_309 p0_q_309 p1_q_309 p2_q_309 p3_q_309 p4_q_309 p5_q_309 p6_q_309 p7_q_309 p8_q_309 p9_q_309 p10_q_309 p11_q_309 p12_q_309 p13_q_309 p14_q_309 p15_q_309 p16_q_309 p17_q_309 p18_q_309 p19_q_309 p20_q_309 p21_q_309 p22_q_309 (show 0 ≤ v_311.toInt from by first | assumption | omega | decide) (show ((q_1.1 a0 45).toInt - v_311.toInt : Int).toNat < _ from by omega)
                    refine wa_if_eq B 224 dX12_match_155 (by decide) (fun (t_312 : v_308.toInt = 0) => ?_) (fun (t_312 : ¬ v_308.toInt = 0) => ?_)
                    · exact Jn_224_310 q_278 hV_q_278 hF_q_278 hK_q_278 mN_q_278 mS_q_278 mL_q_278 p0_q_278 p1_q_278 p2_q_278 p3_q_278 p4_q_278 p5_q_278 p6_q_278 p7_q_278 p8_q_278 p9_q_278 p10_q_278 p11_q_278 p12_q_278 p13_q_278 p14_q_278 p15_q_278 p16_q_278 p17_q_278 p18_q_278 p19_q_278 p20_q_278 p21_q_278 p22_q_278
                    · refine wa_aload_n B dX12_match_158 rfl 5 rfl ?_
                      refine wa_getR B (C := RX12) (T := TX12) (N := 51) iq_X12_match_X12 ha0 ka0 (by decide) rfl 46 (by decide) (by decide) (by decide +kernel) rfl (fun _ _ _ => rfl) (v := m46) p20_q_278 dX12_match_159 ?_
                      refine wa_bipush B 12 dX12_match_162 (by decide) ?_
                      refine wa_iload_n B dX12_match_164 rfl 2 rfl ?_
                      refine wa_imul B dX12_match_165 (fun v_313 ev_313 => ?_)
                      refine wa_iload B dX12_match_166 0 rfl ?_
                      refine wa_iadd B dX12_match_168 (fun v_314 ev_314 => ?_)
                      have tv_313 : v_313.toInt = 12 * r_268.toInt := by have b1 := zx_bd r_268; rw [ev_313]; exact zx_mul (show (-2147483648 : Int) ≤ 12 * r_268.toInt by omega) (show 12 * r_268.toInt < (2147483648 : Int) by omega)
                      have tv_314 : v_314.toInt = v_313.toInt + v_277.toInt := by have b0 := zx_bd v_313; have b1 := zx_bd v_277; rw [ev_314]; exact zx_add (show (-2147483648 : Int) ≤ v_313.toInt + v_277.toInt by omega) (show v_313.toInt + v_277.toInt < (2147483648 : Int) by omega)
                      refine wa_iaload B hm46 km46 (by decide) (by decide) (show 0 ≤ v_314.toInt by omega) (show v_314.toInt < (h.2.1 m46 : Int) by omega) (v := (q_278.2.2.2.1 m46 (v_314 : Int32).toNatClampNeg)) rfl dX12_match_169 ?_
                      refine wa_if_ne B 176 dX12_match_170 (by decide) (fun (t_315 : ¬ ((q_278.2.2.2.1 m46 (v_314 : Int32).toNatClampNeg)).toInt = 0) => ?_) (fun (t_315 : ((q_278.2.2.2.1 m46 (v_314 : Int32).toNatClampNeg)).toInt = 0) => ?_)
                      · refine wa_aload_n B dX12_match_176 rfl 5 rfl ?_
                        refine wa_getR B (C := RX12) (T := TX12) (N := 51) iq_X12_match_X12 ha0 ka0 (by decide) rfl 46 (by decide) (by decide) (by decide +kernel) rfl (fun _ _ _ => rfl) (v := m46) p20_q_278 dX12_match_177 ?_
                        refine wa_bipush B 12 dX12_match_180 (by decide) ?_
                        refine wa_iload_n B dX12_match_182 rfl 2 rfl ?_
                        refine wa_imul B dX12_match_183 (fun v_316 ev_316 => ?_)
                        refine wa_iload B dX12_match_184 0 rfl ?_
                        refine wa_iadd B dX12_match_186 (fun v_317 ev_317 => ?_)
                        have tv_316 : v_316.toInt = 12 * r_268.toInt := by have b1 := zx_bd r_268; rw [ev_316]; exact zx_mul (show (-2147483648 : Int) ≤ 12 * r_268.toInt by omega) (show 12 * r_268.toInt < (2147483648 : Int) by omega)
                        have tv_317 : v_317.toInt = v_316.toInt + v_277.toInt := by have b0 := zx_bd v_316; have b1 := zx_bd v_277; rw [ev_317]; exact zx_add (show (-2147483648 : Int) ≤ v_316.toInt + v_277.toInt by omega) (show v_316.toInt + v_277.toInt < (2147483648 : Int) by omega)
                        refine wa_iaload B hm46 km46 (by decide) (by decide) (show 0 ≤ v_317.toInt by omega) (show v_317.toInt < (h.2.1 m46 : Int) by omega) (v := (q_278.2.2.2.1 m46 (v_317 : Int32).toNatClampNeg)) rfl dX12_match_187 ?_
                        refine wa_aload_n B dX12_match_188 rfl 5 rfl ?_
                        refine wa_getR B (C := RX12) (T := TX12) (N := 51) iq_X12_match_X12 ha0 ka0 (by decide) rfl 47 (by decide) (by decide) (by decide +kernel) rfl (fun _ _ _ => rfl) (v := m47) p21_q_278 dX12_match_189 ?_
                        refine wa_iload B dX12_match_192 1 rfl ?_
                        refine wa_iconst B 1 dX12_match_194 (by decide) ?_
                        refine wa_iload B dX12_match_195 0 rfl ?_
                        refine wa_ishl B dX12_match_197 (fun v_318 ev_318 => ?_)
                        have gv_318 : 1 ≤ v_318.toInt ∧ v_318.toInt ≤ 2048 := by rw [ev_318]; exact zx_shl0 (by omega) (by omega)
                        refine wa_iconst B (-1) dX12_match_198 (by decide) ?_
                        refine wa_ixor B dX12_match_199 (fun v_319 ev_319 => ?_)
                        refine wa_iand B dX12_match_200 (fun v_320 ev_320 => ?_)
                        have gv_320 : 0 ≤ v_320.toInt ∧ v_320.toInt ≤ v_272.toInt := by rw [ev_320]; exact zx_andle (by omega)
                        refine wa_iaload B hm47 km47 (by decide) (by decide) (show 0 ≤ v_320.toInt by omega) (show v_320.toInt < (h.2.1 m47 : Int) by omega) (v := (q_278.2.2.2.1 m47 (v_320 : Int32).toNatClampNeg)) rfl dX12_match_201 ?_
                        refine wa_iadd B dX12_match_202 (fun v_321 ev_321 => ?_)
                        refine wa_istore B [(6, .int v_321), (5, .int v_277), (4, .int v_272), (3, .int r_268), (2, .int v_55), (1, .int (q_1.1 a0 45)), (0, .ref a0)] dX12_match_203 (by decide) rfl ?_
                        refine wa_iload B dX12_match_205 0 rfl ?_
                        refine wa_aload_n B dX12_match_207 rfl 6 rfl ?_
                        refine wa_getR B (C := RX12) (T := TX12) (N := 51) iq_X12_match_X12 ha0 ka0 (by decide) rfl 47 (by decide) (by decide) (by decide +kernel) rfl (fun _ _ _ => rfl) (v := m47) p21_q_278 dX12_match_208 ?_
                        refine wa_iload_n B dX12_match_211 rfl 4 rfl ?_
                        refine wa_iaload B hm47 km47 (by decide) (by decide) (show 0 ≤ v_55.toInt by omega) (show v_55.toInt < (h.2.1 m47 : Int) by omega) (v := (q_278.2.2.2.1 m47 (v_55 : Int32).toNatClampNeg)) rfl dX12_match_212 ?_
                        refine wa_icmp_le B 224 dX12_match_213 (by decide) (fun (t_322 : v_321.toInt ≤ ((q_278.2.2.2.1 m47 (v_55 : Int32).toNatClampNeg)).toInt) => ?_) (fun (t_322 : ¬ v_321.toInt ≤ ((q_278.2.2.2.1 m47 (v_55 : Int32).toNatClampNeg)).toInt) => ?_)
                        · refine WA.sub [1, 2, 3, 4, 5, 6] rfl ?_
                          exact Jn_224_310 q_278 hV_q_278 hF_q_278 hK_q_278 mN_q_278 mS_q_278 mL_q_278 p0_q_278 p1_q_278 p2_q_278 p3_q_278 p4_q_278 p5_q_278 p6_q_278 p7_q_278 p8_q_278 p9_q_278 p10_q_278 p11_q_278 p12_q_278 p13_q_278 p14_q_278 p15_q_278 p16_q_278 p17_q_278 p18_q_278 p19_q_278 p20_q_278 p21_q_278 p22_q_278
                        · refine wa_aload_n B dX12_match_216 rfl 6 rfl ?_
                          refine wa_getR B (C := RX12) (T := TX12) (N := 51) iq_X12_match_X12 ha0 ka0 (by decide) rfl 47 (by decide) (by decide) (by decide +kernel) rfl (fun _ _ _ => rfl) (v := m47) p21_q_278 dX12_match_217 ?_
                          refine wa_iload_n B dX12_match_220 rfl 4 rfl ?_
                          refine wa_iload B dX12_match_221 0 rfl ?_
                          refine wa_iastore B hm47 km47 (by decide) (by decide) (show 0 ≤ v_55.toInt by omega) (show v_55.toInt < (h.2.1 m47 : Int) by omega) dX12_match_223 (fun q_323 eq_323 => ?_)
                          have hV_q_323 : sx_V h L q_323 := by rw [eq_323]; exact hV_q_278.up1 hm47 km47 trivial
                          have hF_q_323 : sx_fr h L (fun a => h.1 a = 12 ∨ h.1 a = 113 ∨ h.1 a = 133 ∨ h.1 a = 134 ∨ h.1 a = 135 ∨ h.1 a = 138 ∨ h.1 a = 139 ∨ h.1 a = 140 ∨ h.1 a = 136 ∨ h.1 a = 137 ∨ h.1 a = 144 ∨ h.1 a = 245 ∨ h.1 a = 156 ∨ h.1 a = 157 ∨ h.1 a = 158) q q_323 := hF_q_278.tr (by rw [eq_323]; exact sx_fr.pG (show h.1 m47 = 100 ∨ (h.1 m47 = 12 ∨ h.1 m47 = 113 ∨ h.1 m47 = 133 ∨ h.1 m47 = 134 ∨ h.1 m47 = 135 ∨ h.1 m47 = 138 ∨ h.1 m47 = 139 ∨ h.1 m47 = 140 ∨ h.1 m47 = 136 ∨ h.1 m47 = 137 ∨ h.1 m47 = 144 ∨ h.1 m47 = 245 ∨ h.1 m47 = 156 ∨ h.1 m47 = 157 ∨ h.1 m47 = 158) from by omega))
                          have z_324 : q_323.2.2.2.1 m47 = (upd (q_278.2.2.2.1 m47) (v_55 : Int32).toNatClampNeg v_321) := by rw [eq_323, sg_pG_e]
                          have z_325 : q_323.2.2.2.1 m47 (v_55 : Int32).toNatClampNeg = v_321 := by rw [eq_323, sg_pG_e]; exact if_pos rfl
                          have hK_q_323 : sx_kf a0 [0, 49, 50, 4, 14, 15, 32, 33, 36, 37, 38, 39, 5, 10, 6, 7, 8, 9, 11, 12, 13] q q_323 := hK_q_278.tr (sx_kf.eq (by rw [eq_323]; rfl) (by rw [eq_323]; rfl))
                          have mN_q_323 : mv_N a0 q_323 := mv_N.eq ((show q_323.1 a0 8 = q_278.1 a0 8 from by rw [eq_323]; rfl)) ((show q_323.2.1 a0 11 = q_278.2.1 a0 11 from by rw [eq_323]; rfl)) mN_q_278
                          have mS_q_323 : mv_S m23 m26 m28 m29 q_323 := mv_S.eq ((show q_323.2.2.2.1 m23 = q_278.2.2.2.1 m23 from by rw [eq_323]; exact sg_pG_a (sx_ka h km23 km47 (by decide)))) ((show q_323.2.2.2.1 m26 = q_278.2.2.2.1 m26 from by rw [eq_323]; exact sg_pG_a (sx_ka h km26 km47 (by decide)))) ((show q_323.2.2.2.1 m28 = q_278.2.2.2.1 m28 from by rw [eq_323]; exact sg_pG_a (sx_ka h km28 km47 (by decide)))) ((show q_323.2.2.2.1 m29 = q_278.2.2.2.1 m29 from by rw [eq_323]; exact sg_pG_a (sx_ka h km29 km47 (by decide)))) mS_q_278
                          have mL_q_323 : mv_L m40 m41 m44 a0 q_323 := mv_L.eq ((show q_323.2.2.2.1 m40 = q_278.2.2.2.1 m40 from by rw [eq_323]; exact sg_pG_a (sx_ka h km40 km47 (by decide)))) ((show q_323.2.2.2.1 m41 = q_278.2.2.2.1 m41 from by rw [eq_323]; exact sg_pG_a (sx_ka h km41 km47 (by decide)))) ((show q_323.2.2.2.1 m44 = q_278.2.2.2.1 m44 from by rw [eq_323]; exact sg_pG_a (sx_ka h km44 km47 (by decide)))) ((show q_323.1 a0 45 = q_278.1 a0 45 from by rw [eq_323]; rfl)) mL_q_278
                          have z_326 : q_323.1 a0 0 = 0 := ((show q_323.1 a0 0 = q_278.1 a0 0 from by rw [eq_323]; rfl)).trans (p0_q_278)
                          have z_327 : q_323.1 a0 45 = (q_1.1 a0 45) := ((show q_323.1 a0 45 = q_278.1 a0 45 from by rw [eq_323]; rfl)).trans (p1_q_278)
                          have z_328 : q_323.2.2.1 a0 3 = m3 := ((show q_323.2.2.1 a0 3 = q_278.2.2.1 a0 3 from by rw [eq_323]; rfl)).trans (p2_q_278)
                          have z_329 : q_323.2.2.1 a0 18 = m18 := ((show q_323.2.2.1 a0 18 = q_278.2.2.1 a0 18 from by rw [eq_323]; rfl)).trans (p3_q_278)
                          have z_330 : q_323.2.2.1 a0 19 = m19 := ((show q_323.2.2.1 a0 19 = q_278.2.2.1 a0 19 from by rw [eq_323]; rfl)).trans (p4_q_278)
                          have z_331 : q_323.2.2.1 a0 23 = m23 := ((show q_323.2.2.1 a0 23 = q_278.2.2.1 a0 23 from by rw [eq_323]; rfl)).trans (p5_q_278)
                          have z_332 : q_323.2.2.1 a0 24 = m24 := ((show q_323.2.2.1 a0 24 = q_278.2.2.1 a0 24 from by rw [eq_323]; rfl)).trans (p6_q_278)
                          have z_333 : q_323.2.2.1 a0 25 = m25 := ((show q_323.2.2.1 a0 25 = q_278.2.2.1 a0 25 from by rw [eq_323]; rfl)).trans (p7_q_278)
                          have z_334 : q_323.2.2.1 a0 26 = m26 := ((show q_323.2.2.1 a0 26 = q_278.2.2.1 a0 26 from by rw [eq_323]; rfl)).trans (p8_q_278)
                          have z_335 : q_323.2.2.1 a0 27 = m27 := ((show q_323.2.2.1 a0 27 = q_278.2.2.1 a0 27 from by rw [eq_323]; rfl)).trans (p9_q_278)
                          have z_336 : q_323.2.2.1 a0 28 = m28 := ((show q_323.2.2.1 a0 28 = q_278.2.2.1 a0 28 from by rw [eq_323]; rfl)).trans (p10_q_278)
                          have z_337 : q_323.2.2.1 a0 29 = m29 := ((show q_323.2.2.1 a0 29 = q_278.2.2.1 a0 29 from by rw [eq_323]; rfl)).trans (p11_q_278)
                          have z_338 : q_323.2.2.1 a0 30 = m30 := ((show q_323.2.2.1 a0 30 = q_278.2.2.1 a0 30 from by rw [eq_323]; rfl)).trans (p12_q_278)
                          have z_339 : q_323.2.2.1 a0 34 = m34 := ((show q_323.2.2.1 a0 34 = q_278.2.2.1 a0 34 from by rw [eq_323]; rfl)).trans (p13_q_278)
                          have z_340 : q_323.2.2.1 a0 35 = m35 := ((show q_323.2.2.1 a0 35 = q_278.2.2.1 a0 35 from by rw [eq_323]; rfl)).trans (p14_q_278)
                          have z_341 : q_323.2.2.1 a0 40 = m40 := ((show q_323.2.2.1 a0 40 = q_278.2.2.1 a0 40 from by rw [eq_323]; rfl)).trans (p15_q_278)
                          have z_342 : q_323.2.2.1 a0 41 = m41 := ((show q_323.2.2.1 a0 41 = q_278.2.2.1 a0 41 from by rw [eq_323]; rfl)).trans (p16_q_278)
                          have z_343 : q_323.2.2.1 a0 44 = m44 := ((show q_323.2.2.1 a0 44 = q_278.2.2.1 a0 44 from by rw [eq_323]; rfl)).trans (p17_q_278)
                          have z_344 : q_323.2.2.1 a0 42 = m42 := ((show q_323.2.2.1 a0 42 = q_278.2.2.1 a0 42 from by rw [eq_323]; rfl)).trans (p18_q_278)
                          have z_345 : q_323.2.2.1 a0 43 = m43 := ((show q_323.2.2.1 a0 43 = q_278.2.2.1 a0 43 from by rw [eq_323]; rfl)).trans (p19_q_278)
                          have z_346 : q_323.2.2.1 a0 46 = m46 := ((show q_323.2.2.1 a0 46 = q_278.2.2.1 a0 46 from by rw [eq_323]; rfl)).trans (p20_q_278)
                          have z_347 : q_323.2.2.1 a0 47 = m47 := ((show q_323.2.2.1 a0 47 = q_278.2.2.1 a0 47 from by rw [eq_323]; rfl)).trans (p21_q_278)
                          have z_348 : q_323.2.2.1 a0 48 = m48 := ((show q_323.2.2.1 a0 48 = q_278.2.2.1 a0 48 from by rw [eq_323]; rfl)).trans (p22_q_278)
                          refine WA.sub [1, 2, 3, 4, 5, 6] rfl ?_
                          exact Jn_224_310 q_323 hV_q_323 hF_q_323 hK_q_323 mN_q_323 mS_q_323 mL_q_323 z_326 z_327 z_328 z_329 z_330 z_331 z_332 z_333 z_334 z_335 z_336 z_337 z_338 z_339 z_340 z_341 z_342 z_343 z_344 z_345 z_346 z_347 z_348
                      · refine wa_goto B 224 dX12_match_173 (by decide) ?_
                        exact Jn_224_310 q_278 hV_q_278 hF_q_278 hK_q_278 mN_q_278 mS_q_278 mL_q_278 p0_q_278 p1_q_278 p2_q_278 p3_q_278 p4_q_278 p5_q_278 p6_q_278 p7_q_278 p8_q_278 p9_q_278 p10_q_278 p11_q_278 p12_q_278 p13_q_278 p14_q_278 p15_q_278 p16_q_278 p17_q_278 p18_q_278 p19_q_278 p20_q_278 p21_q_278 p22_q_278
              have tv_276 : v_276.toInt = r_268.toInt + 1 := by have b0 := zx_bd r_268; rw [ev_276]; exact zx_add (show (-2147483648 : Int) ≤ r_268.toInt + 1 by omega) (show r_268.toInt + 1 < (2147483648 : Int) by omega)
              exact Lp_142_303 _ v_276 q_273 hV_q_273 hF_q_273 hK_q_273 mN_q_273 mS_q_273 mL_q_273 z_279 z_280 z_281 z_282 z_283 z_284 z_285 z_286 z_287 z_288 z_289 z_290 z_291 z_292 z_293 z_294 z_295 z_296 z_297 z_298 z_299 z_300 z_301 (show 0 ≤ v_276.toInt from by first | assumption | omega | decide) (Nat.lt_succ_self _)
        exact Lp_103_82 _ 1 q_52 hV_q_52 hF_q_52 hK_q_52 mN_q_52 mS_q_52 mL_q_52 z_57 z_58 z_59 z_60 z_61 z_62 z_63 z_64 z_65 z_66 z_67 z_68 z_69 z_70 z_71 z_72 z_73 z_74 z_75 z_76 z_77 z_78 z_79 (show 1 ≤ 1 from by first | assumption | omega | decide) (show 1 ≤ 4096 from by first | assumption | omega | decide) (Nat.lt_succ_self _)
      · refine wa_iload_n B dX12_match_17 rfl 0 rfl ?_
        refine wa_iconst B 1 dX12_match_18 (by decide) ?_
        refine wa_iadd B dX12_match_19 (fun v_349 ev_349 => ?_)
        refine wa_istore_n B [(3, .int v_349), (2, .int v_4), (1, .int (q_1.1 a0 45)), (0, .ref a0)] dX12_match_20 rfl (by decide) rfl ?_
        have Lp_21_354 : ∀ (n : Nat) (v_350 : Int32) (q_351 : Sg), sx_V h L q_351 → sx_fr h L (fun a => h.1 a = 12 ∨ h.1 a = 113 ∨ h.1 a = 133 ∨ h.1 a = 134 ∨ h.1 a = 135 ∨ h.1 a = 138 ∨ h.1 a = 139 ∨ h.1 a = 140 ∨ h.1 a = 136 ∨ h.1 a = 137 ∨ h.1 a = 144 ∨ h.1 a = 245 ∨ h.1 a = 156 ∨ h.1 a = 157 ∨ h.1 a = 158) q q_351 → sx_kf a0 [0, 49, 50, 4, 14, 15, 32, 33, 36, 37, 38, 39, 5, 10, 6, 7, 8, 9, 11, 12, 13] q q_351 → mv_N a0 q_351 → mv_S m23 m26 m28 m29 q_351 → mv_L m40 m41 m44 a0 q_351 → q_351.1 a0 0 = 0 → q_351.1 a0 45 = (q_1.1 a0 45) → q_351.2.2.1 a0 3 = m3 → q_351.2.2.1 a0 18 = m18 → q_351.2.2.1 a0 19 = m19 → q_351.2.2.1 a0 23 = m23 → q_351.2.2.1 a0 24 = m24 → q_351.2.2.1 a0 25 = m25 → q_351.2.2.1 a0 26 = m26 → q_351.2.2.1 a0 27 = m27 → q_351.2.2.1 a0 28 = m28 → q_351.2.2.1 a0 29 = m29 → q_351.2.2.1 a0 30 = m30 → q_351.2.2.1 a0 34 = m34 → q_351.2.2.1 a0 35 = m35 → q_351.2.2.1 a0 40 = m40 → q_351.2.2.1 a0 41 = m41 → q_351.2.2.1 a0 44 = m44 → q_351.2.2.1 a0 42 = m42 → q_351.2.2.1 a0 43 = m43 → q_351.2.2.1 a0 46 = m46 → q_351.2.2.1 a0 47 = m47 → q_351.2.2.1 a0 48 = m48 → 0 ≤ v_350.toInt → v_4.toInt < (q_1.1 a0 45).toInt → ((q_1.1 a0 45).toInt - v_350.toInt : Int).toNat < n → WA l dC dI h L ({ frames := 6, cells := 0, slots := 0, locals := 146 } : Room) 7 Z q_351 21 [(3, .int v_350), (2, .int v_4), (1, .int (q_1.1 a0 45)), (0, .ref a0)] [] := by
          intro n
          induction n with
          | zero =>
            intro v_350 q_351 hV_q_351 hF_q_351 hK_q_351 mN_q_351 mS_q_351 mL_q_351 p0_q_351 p1_q_351 p2_q_351 p3_q_351 p4_q_351 p5_q_351 p6_q_351 p7_q_351 p8_q_351 p9_q_351 p10_q_351 p11_q_351 p12_q_351 p13_q_351 p14_q_351 p15_q_351 p16_q_351 p17_q_351 p18_q_351 p19_q_351 p20_q_351 p21_q_351 p22_q_351 x_352 x_353 hn
            exact absurd hn (Nat.not_lt_zero _)
          | succ n ih_355 =>
            intro v_350 q_351 hV_q_351 hF_q_351 hK_q_351 mN_q_351 mS_q_351 mL_q_351 p0_q_351 p1_q_351 p2_q_351 p3_q_351 p4_q_351 p5_q_351 p6_q_351 p7_q_351 p8_q_351 p9_q_351 p10_q_351 p11_q_351 p12_q_351 p13_q_351 p14_q_351 p15_q_351 p16_q_351 p17_q_351 p18_q_351 p19_q_351 p20_q_351 p21_q_351 p22_q_351 x_352 x_353 hn
            refine wa_iload_n B dX12_match_21 rfl 0 rfl ?_
            refine wa_iload_n B dX12_match_22 rfl 2 rfl ?_
            refine wa_icmp_ge B 88 dX12_match_23 (by decide) (fun (t_356 : (q_1.1 a0 45).toInt ≤ v_350.toInt) => ?_) (fun (t_356 : ¬ (q_1.1 a0 45).toInt ≤ v_350.toInt) => ?_)
            · obtain ⟨v_357, ev_357⟩ : ∃ z : Int32, z = v_4 + 1 := ⟨_, rfl⟩
              refine wa_iinc B [(2, .int v_357), (3, .int v_350), (1, .int (q_1.1 a0 45)), (0, .ref a0)] v_357 dX12_match_88 1 rfl (by rw [ev_357]; rfl) (by decide) rfl ?_
              refine wa_goto B 12 dX12_match_91 (by decide) ?_
              have tv_357 : v_357.toInt = v_4.toInt + 1 := by have b0 := zx_bd v_4; rw [ev_357]; exact zx_add (show (-2147483648 : Int) ≤ v_4.toInt + 1 by omega) (show v_4.toInt + 1 < (2147483648 : Int) by omega)
              refine WA.sub [0, 2, 3] rfl ?_
              exact ih_50 v_357 q_351 hV_q_351 hF_q_351 hK_q_351 mN_q_351 mS_q_351 mL_q_351 p0_q_351 p1_q_351 p2_q_351 p3_q_351 p4_q_351 p5_q_351 p6_q_351 p7_q_351 p8_q_351 p9_q_351 p10_q_351 p11_q_351 p12_q_351 p13_q_351 p14_q_351 p15_q_351 p16_q_351 p17_q_351 p18_q_351 p19_q_351 p20_q_351 p21_q_351 p22_q_351 (show 0 ≤ v_357.toInt from by first | assumption | omega | decide) (show ((q_1.1 a0 45).toInt - v_357.toInt : Int).toNat < _ from by omega)
            · refine wa_aload_n B dX12_match_26 rfl 3 rfl ?_
              refine wa_iload_n B dX12_match_27 rfl 1 rfl ?_
              refine wa_iload_n B dX12_match_28 rfl 0 rfl ?_
              have y_358 : (q_351.1 a0 45).toInt = (q_1.1 a0 45).toInt := by rw [p1_q_351]
              refine wa_callVi B (x := (RX12, TX12, 51)) (As := [.int v_4, .int v_350]) (rest := []) (k_X12_joined l dC dI h L hN q_351 hV_q_351 (a0 := a0) ha0 ka0 v_4 v_350 (m3 := m3) p2_q_351 (m18 := m18) p3_q_351 (m19 := m19) p4_q_351 (m23 := m23) p5_q_351 (m24 := m24) p6_q_351 (m25 := m25) p7_q_351 (m26 := m26) p8_q_351 (m27 := m27) p9_q_351 (m28 := m28) p10_q_351 (m29 := m29) p11_q_351 (m30 := m30) p12_q_351 (m34 := m34) p13_q_351 (m35 := m35) p14_q_351 (m40 := m40) p15_q_351 (m41 := m41) p16_q_351 (m44 := m44) p17_q_351 (m42 := m42) p18_q_351 (m43 := m43) p19_q_351 mN_q_351 mS_q_351 mL_q_351 (by first | assumption | omega | decide) (by first | assumption | omega | decide) (by first | assumption | omega | decide) (by first | assumption | omega | decide) (by first | assumption | omega | decide) (by first | assumption | omega | decide)) (cwV 2 B.1.2.2.2.2 gX12_match_X12_joined rfl rfl rfl (by decide +kernel) ⟨Nat.le_of_ble_eq_true rfl, Nat.le_of_ble_eq_true rfl⟩) ha0 ka0 (by decide) rfl rfl rfl (Nat.le_of_ble_eq_true rfl) dX12_match_29 (fun r_360 q_359 w_361 => ?_)
              obtain ⟨hV_q_359, h2_q_359, h3_q_359, mN_q_359, mS_q_359, mL_q_359⟩ := w_361
              have hF_q_359 : sx_fr h L (fun a => h.1 a = 12 ∨ h.1 a = 113 ∨ h.1 a = 133 ∨ h.1 a = 134 ∨ h.1 a = 135 ∨ h.1 a = 138 ∨ h.1 a = 139 ∨ h.1 a = 140 ∨ h.1 a = 136 ∨ h.1 a = 137 ∨ h.1 a = 144 ∨ h.1 a = 245 ∨ h.1 a = 156 ∨ h.1 a = 157 ∨ h.1 a = 158) q q_359 := hF_q_351.tr (h2_q_359.mono (fun a (z : h.1 a = 12 ∨ h.1 a = 113 ∨ h.1 a = 133 ∨ h.1 a = 134 ∨ h.1 a = 135 ∨ h.1 a = 138 ∨ h.1 a = 139 ∨ h.1 a = 140 ∨ h.1 a = 136 ∨ h.1 a = 137 ∨ h.1 a = 144 ∨ h.1 a = 245) => (show h.1 a = 12 ∨ h.1 a = 113 ∨ h.1 a = 133 ∨ h.1 a = 134 ∨ h.1 a = 135 ∨ h.1 a = 138 ∨ h.1 a = 139 ∨ h.1 a = 140 ∨ h.1 a = 136 ∨ h.1 a = 137 ∨ h.1 a = 144 ∨ h.1 a = 245 ∨ h.1 a = 156 ∨ h.1 a = 157 ∨ h.1 a = 158 from by omega)))
              have hK_q_359 : sx_kf a0 [0, 49, 50, 4, 14, 15, 32, 33, 36, 37, 38, 39, 5, 10, 6, 7, 8, 9, 11, 12, 13] q q_359 := hK_q_351.tr (h3_q_359.mono (by decide))
              refine wa_istore B [(4, .int r_360), (3, .int v_350), (2, .int v_4), (1, .int (q_1.1 a0 45)), (0, .ref a0)] dX12_match_32 (by decide) rfl ?_
              refine wa_aload_n B dX12_match_34 rfl 4 rfl ?_
              refine wa_iload_n B dX12_match_35 rfl 1 rfl ?_
              refine wa_iload_n B dX12_match_36 rfl 2 rfl ?_
              have z_362 : q_359.2.2.1 a0 3 = m3 := (h2_q_359.R ha0 (show ¬ ((h.1 a0 = 12 ∨ h.1 a0 = 113 ∨ h.1 a0 = 133 ∨ h.1 a0 = 134 ∨ h.1 a0 = 135 ∨ h.1 a0 = 138 ∨ h.1 a0 = 139 ∨ h.1 a0 = 140 ∨ h.1 a0 = 136 ∨ h.1 a0 = 137 ∨ h.1 a0 = 144 ∨ h.1 a0 = 245) ∧ (h.1 a0 = 8 ∨ h.1 a0 = 11)) from by omega) 3).trans (p2_q_351)
              have z_363 : q_359.2.2.1 a0 18 = m18 := (h2_q_359.R ha0 (show ¬ ((h.1 a0 = 12 ∨ h.1 a0 = 113 ∨ h.1 a0 = 133 ∨ h.1 a0 = 134 ∨ h.1 a0 = 135 ∨ h.1 a0 = 138 ∨ h.1 a0 = 139 ∨ h.1 a0 = 140 ∨ h.1 a0 = 136 ∨ h.1 a0 = 137 ∨ h.1 a0 = 144 ∨ h.1 a0 = 245) ∧ (h.1 a0 = 8 ∨ h.1 a0 = 11)) from by omega) 18).trans (p3_q_351)
              have z_364 : q_359.2.2.1 a0 19 = m19 := (h2_q_359.R ha0 (show ¬ ((h.1 a0 = 12 ∨ h.1 a0 = 113 ∨ h.1 a0 = 133 ∨ h.1 a0 = 134 ∨ h.1 a0 = 135 ∨ h.1 a0 = 138 ∨ h.1 a0 = 139 ∨ h.1 a0 = 140 ∨ h.1 a0 = 136 ∨ h.1 a0 = 137 ∨ h.1 a0 = 144 ∨ h.1 a0 = 245) ∧ (h.1 a0 = 8 ∨ h.1 a0 = 11)) from by omega) 19).trans (p4_q_351)
              have z_365 : q_359.2.2.1 a0 23 = m23 := (h2_q_359.R ha0 (show ¬ ((h.1 a0 = 12 ∨ h.1 a0 = 113 ∨ h.1 a0 = 133 ∨ h.1 a0 = 134 ∨ h.1 a0 = 135 ∨ h.1 a0 = 138 ∨ h.1 a0 = 139 ∨ h.1 a0 = 140 ∨ h.1 a0 = 136 ∨ h.1 a0 = 137 ∨ h.1 a0 = 144 ∨ h.1 a0 = 245) ∧ (h.1 a0 = 8 ∨ h.1 a0 = 11)) from by omega) 23).trans (p5_q_351)
              have z_366 : q_359.2.2.1 a0 24 = m24 := (h2_q_359.R ha0 (show ¬ ((h.1 a0 = 12 ∨ h.1 a0 = 113 ∨ h.1 a0 = 133 ∨ h.1 a0 = 134 ∨ h.1 a0 = 135 ∨ h.1 a0 = 138 ∨ h.1 a0 = 139 ∨ h.1 a0 = 140 ∨ h.1 a0 = 136 ∨ h.1 a0 = 137 ∨ h.1 a0 = 144 ∨ h.1 a0 = 245) ∧ (h.1 a0 = 8 ∨ h.1 a0 = 11)) from by omega) 24).trans (p6_q_351)
              have z_367 : q_359.2.2.1 a0 25 = m25 := (h2_q_359.R ha0 (show ¬ ((h.1 a0 = 12 ∨ h.1 a0 = 113 ∨ h.1 a0 = 133 ∨ h.1 a0 = 134 ∨ h.1 a0 = 135 ∨ h.1 a0 = 138 ∨ h.1 a0 = 139 ∨ h.1 a0 = 140 ∨ h.1 a0 = 136 ∨ h.1 a0 = 137 ∨ h.1 a0 = 144 ∨ h.1 a0 = 245) ∧ (h.1 a0 = 8 ∨ h.1 a0 = 11)) from by omega) 25).trans (p7_q_351)
              have z_368 : q_359.2.2.1 a0 26 = m26 := (h2_q_359.R ha0 (show ¬ ((h.1 a0 = 12 ∨ h.1 a0 = 113 ∨ h.1 a0 = 133 ∨ h.1 a0 = 134 ∨ h.1 a0 = 135 ∨ h.1 a0 = 138 ∨ h.1 a0 = 139 ∨ h.1 a0 = 140 ∨ h.1 a0 = 136 ∨ h.1 a0 = 137 ∨ h.1 a0 = 144 ∨ h.1 a0 = 245) ∧ (h.1 a0 = 8 ∨ h.1 a0 = 11)) from by omega) 26).trans (p8_q_351)
              have z_369 : q_359.2.2.1 a0 27 = m27 := (h2_q_359.R ha0 (show ¬ ((h.1 a0 = 12 ∨ h.1 a0 = 113 ∨ h.1 a0 = 133 ∨ h.1 a0 = 134 ∨ h.1 a0 = 135 ∨ h.1 a0 = 138 ∨ h.1 a0 = 139 ∨ h.1 a0 = 140 ∨ h.1 a0 = 136 ∨ h.1 a0 = 137 ∨ h.1 a0 = 144 ∨ h.1 a0 = 245) ∧ (h.1 a0 = 8 ∨ h.1 a0 = 11)) from by omega) 27).trans (p9_q_351)
              have z_370 : q_359.2.2.1 a0 28 = m28 := (h2_q_359.R ha0 (show ¬ ((h.1 a0 = 12 ∨ h.1 a0 = 113 ∨ h.1 a0 = 133 ∨ h.1 a0 = 134 ∨ h.1 a0 = 135 ∨ h.1 a0 = 138 ∨ h.1 a0 = 139 ∨ h.1 a0 = 140 ∨ h.1 a0 = 136 ∨ h.1 a0 = 137 ∨ h.1 a0 = 144 ∨ h.1 a0 = 245) ∧ (h.1 a0 = 8 ∨ h.1 a0 = 11)) from by omega) 28).trans (p10_q_351)
              have z_371 : q_359.2.2.1 a0 29 = m29 := (h2_q_359.R ha0 (show ¬ ((h.1 a0 = 12 ∨ h.1 a0 = 113 ∨ h.1 a0 = 133 ∨ h.1 a0 = 134 ∨ h.1 a0 = 135 ∨ h.1 a0 = 138 ∨ h.1 a0 = 139 ∨ h.1 a0 = 140 ∨ h.1 a0 = 136 ∨ h.1 a0 = 137 ∨ h.1 a0 = 144 ∨ h.1 a0 = 245) ∧ (h.1 a0 = 8 ∨ h.1 a0 = 11)) from by omega) 29).trans (p11_q_351)
              have z_372 : q_359.2.2.1 a0 30 = m30 := (h2_q_359.R ha0 (show ¬ ((h.1 a0 = 12 ∨ h.1 a0 = 113 ∨ h.1 a0 = 133 ∨ h.1 a0 = 134 ∨ h.1 a0 = 135 ∨ h.1 a0 = 138 ∨ h.1 a0 = 139 ∨ h.1 a0 = 140 ∨ h.1 a0 = 136 ∨ h.1 a0 = 137 ∨ h.1 a0 = 144 ∨ h.1 a0 = 245) ∧ (h.1 a0 = 8 ∨ h.1 a0 = 11)) from by omega) 30).trans (p12_q_351)
              have z_373 : q_359.2.2.1 a0 34 = m34 := (h2_q_359.R ha0 (show ¬ ((h.1 a0 = 12 ∨ h.1 a0 = 113 ∨ h.1 a0 = 133 ∨ h.1 a0 = 134 ∨ h.1 a0 = 135 ∨ h.1 a0 = 138 ∨ h.1 a0 = 139 ∨ h.1 a0 = 140 ∨ h.1 a0 = 136 ∨ h.1 a0 = 137 ∨ h.1 a0 = 144 ∨ h.1 a0 = 245) ∧ (h.1 a0 = 8 ∨ h.1 a0 = 11)) from by omega) 34).trans (p13_q_351)
              have z_374 : q_359.2.2.1 a0 35 = m35 := (h2_q_359.R ha0 (show ¬ ((h.1 a0 = 12 ∨ h.1 a0 = 113 ∨ h.1 a0 = 133 ∨ h.1 a0 = 134 ∨ h.1 a0 = 135 ∨ h.1 a0 = 138 ∨ h.1 a0 = 139 ∨ h.1 a0 = 140 ∨ h.1 a0 = 136 ∨ h.1 a0 = 137 ∨ h.1 a0 = 144 ∨ h.1 a0 = 245) ∧ (h.1 a0 = 8 ∨ h.1 a0 = 11)) from by omega) 35).trans (p14_q_351)
              have z_375 : q_359.2.2.1 a0 40 = m40 := (h2_q_359.R ha0 (show ¬ ((h.1 a0 = 12 ∨ h.1 a0 = 113 ∨ h.1 a0 = 133 ∨ h.1 a0 = 134 ∨ h.1 a0 = 135 ∨ h.1 a0 = 138 ∨ h.1 a0 = 139 ∨ h.1 a0 = 140 ∨ h.1 a0 = 136 ∨ h.1 a0 = 137 ∨ h.1 a0 = 144 ∨ h.1 a0 = 245) ∧ (h.1 a0 = 8 ∨ h.1 a0 = 11)) from by omega) 40).trans (p15_q_351)
              have z_376 : q_359.2.2.1 a0 41 = m41 := (h2_q_359.R ha0 (show ¬ ((h.1 a0 = 12 ∨ h.1 a0 = 113 ∨ h.1 a0 = 133 ∨ h.1 a0 = 134 ∨ h.1 a0 = 135 ∨ h.1 a0 = 138 ∨ h.1 a0 = 139 ∨ h.1 a0 = 140 ∨ h.1 a0 = 136 ∨ h.1 a0 = 137 ∨ h.1 a0 = 144 ∨ h.1 a0 = 245) ∧ (h.1 a0 = 8 ∨ h.1 a0 = 11)) from by omega) 41).trans (p16_q_351)
              have z_377 : q_359.2.2.1 a0 44 = m44 := (h2_q_359.R ha0 (show ¬ ((h.1 a0 = 12 ∨ h.1 a0 = 113 ∨ h.1 a0 = 133 ∨ h.1 a0 = 134 ∨ h.1 a0 = 135 ∨ h.1 a0 = 138 ∨ h.1 a0 = 139 ∨ h.1 a0 = 140 ∨ h.1 a0 = 136 ∨ h.1 a0 = 137 ∨ h.1 a0 = 144 ∨ h.1 a0 = 245) ∧ (h.1 a0 = 8 ∨ h.1 a0 = 11)) from by omega) 44).trans (p17_q_351)
              have z_378 : q_359.2.2.1 a0 42 = m42 := (h2_q_359.R ha0 (show ¬ ((h.1 a0 = 12 ∨ h.1 a0 = 113 ∨ h.1 a0 = 133 ∨ h.1 a0 = 134 ∨ h.1 a0 = 135 ∨ h.1 a0 = 138 ∨ h.1 a0 = 139 ∨ h.1 a0 = 140 ∨ h.1 a0 = 136 ∨ h.1 a0 = 137 ∨ h.1 a0 = 144 ∨ h.1 a0 = 245) ∧ (h.1 a0 = 8 ∨ h.1 a0 = 11)) from by omega) 42).trans (p18_q_351)
              have z_379 : q_359.2.2.1 a0 43 = m43 := (h2_q_359.R ha0 (show ¬ ((h.1 a0 = 12 ∨ h.1 a0 = 113 ∨ h.1 a0 = 133 ∨ h.1 a0 = 134 ∨ h.1 a0 = 135 ∨ h.1 a0 = 138 ∨ h.1 a0 = 139 ∨ h.1 a0 = 140 ∨ h.1 a0 = 136 ∨ h.1 a0 = 137 ∨ h.1 a0 = 144 ∨ h.1 a0 = 245) ∧ (h.1 a0 = 8 ∨ h.1 a0 = 11)) from by omega) 43).trans (p19_q_351)
              have z_380 : q_359.1 a0 45 = (q_1.1 a0 45) := (h3_q_359.1 45 (by decide)).trans (p1_q_351)
              have y_381 : (q_359.1 a0 45).toInt = (q_1.1 a0 45).toInt := by rw [z_380]
              refine wa_callVi B (x := (RX12, TX12, 51)) (As := [.int v_350, .int v_4]) (rest := []) (k_X12_joined l dC dI h L hN q_359 hV_q_359 (a0 := a0) ha0 ka0 v_350 v_4 (m3 := m3) z_362 (m18 := m18) z_363 (m19 := m19) z_364 (m23 := m23) z_365 (m24 := m24) z_366 (m25 := m25) z_367 (m26 := m26) z_368 (m27 := m27) z_369 (m28 := m28) z_370 (m29 := m29) z_371 (m30 := m30) z_372 (m34 := m34) z_373 (m35 := m35) z_374 (m40 := m40) z_375 (m41 := m41) z_376 (m44 := m44) z_377 (m42 := m42) z_378 (m43 := m43) z_379 mN_q_359 mS_q_359 mL_q_359 (by first | assumption | omega | decide) (by first | assumption | omega | decide) (by first | assumption | omega | decide) (by first | assumption | omega | decide) (by first | assumption | omega | decide) (by first | assumption | omega | decide)) (cwV 2 B.1.2.2.2.2 gX12_match_X12_joined rfl rfl rfl (by decide +kernel) ⟨Nat.le_of_ble_eq_true rfl, Nat.le_of_ble_eq_true rfl⟩) ha0 ka0 (by decide) rfl rfl rfl (Nat.le_of_ble_eq_true rfl) dX12_match_37 (fun r_383 q_382 w_384 => ?_)
              obtain ⟨hV_q_382, h2_q_382, h3_q_382, mN_q_382, mS_q_382, mL_q_382⟩ := w_384
              have hF_q_382 : sx_fr h L (fun a => h.1 a = 12 ∨ h.1 a = 113 ∨ h.1 a = 133 ∨ h.1 a = 134 ∨ h.1 a = 135 ∨ h.1 a = 138 ∨ h.1 a = 139 ∨ h.1 a = 140 ∨ h.1 a = 136 ∨ h.1 a = 137 ∨ h.1 a = 144 ∨ h.1 a = 245 ∨ h.1 a = 156 ∨ h.1 a = 157 ∨ h.1 a = 158) q q_382 := hF_q_359.tr (h2_q_382.mono (fun a (z : h.1 a = 12 ∨ h.1 a = 113 ∨ h.1 a = 133 ∨ h.1 a = 134 ∨ h.1 a = 135 ∨ h.1 a = 138 ∨ h.1 a = 139 ∨ h.1 a = 140 ∨ h.1 a = 136 ∨ h.1 a = 137 ∨ h.1 a = 144 ∨ h.1 a = 245) => (show h.1 a = 12 ∨ h.1 a = 113 ∨ h.1 a = 133 ∨ h.1 a = 134 ∨ h.1 a = 135 ∨ h.1 a = 138 ∨ h.1 a = 139 ∨ h.1 a = 140 ∨ h.1 a = 136 ∨ h.1 a = 137 ∨ h.1 a = 144 ∨ h.1 a = 245 ∨ h.1 a = 156 ∨ h.1 a = 157 ∨ h.1 a = 158 from by omega)))
              have hK_q_382 : sx_kf a0 [0, 49, 50, 4, 14, 15, 32, 33, 36, 37, 38, 39, 5, 10, 6, 7, 8, 9, 11, 12, 13] q q_382 := hK_q_359.tr (h3_q_382.mono (by decide))
              refine wa_istore B [(5, .int r_383), (4, .int r_360), (3, .int v_350), (2, .int v_4), (1, .int (q_1.1 a0 45)), (0, .ref a0)] dX12_match_40 (by decide) rfl ?_
              refine wa_iload B dX12_match_42 1 rfl ?_
              refine wa_iload B dX12_match_44 0 rfl ?_
              have Jn_56_386 : ∀  (v_385 : Int32), WA l dC dI h L ({ frames := 6, cells := 0, slots := 0, locals := 146 } : Room) 7 Z q_382 56 [(5, .int r_383), (4, .int r_360), (3, .int v_350), (2, .int v_4), (1, .int (q_1.1 a0 45)), (0, .ref a0)] [.int v_385] := by
                intro v_385
                refine wa_istore B [(6, .int v_385), (5, .int r_383), (4, .int r_360), (3, .int v_350), (2, .int v_4), (1, .int (q_1.1 a0 45)), (0, .ref a0)] dX12_match_56 (by decide) rfl ?_
                refine wa_aload_n B dX12_match_58 rfl 6 rfl ?_
                have z_387 : q_382.2.2.1 a0 46 = m46 := (h2_q_382.R ha0 (show ¬ ((h.1 a0 = 12 ∨ h.1 a0 = 113 ∨ h.1 a0 = 133 ∨ h.1 a0 = 134 ∨ h.1 a0 = 135 ∨ h.1 a0 = 138 ∨ h.1 a0 = 139 ∨ h.1 a0 = 140 ∨ h.1 a0 = 136 ∨ h.1 a0 = 137 ∨ h.1 a0 = 144 ∨ h.1 a0 = 245) ∧ (h.1 a0 = 8 ∨ h.1 a0 = 11)) from by omega) 46).trans ((h2_q_359.R ha0 (show ¬ ((h.1 a0 = 12 ∨ h.1 a0 = 113 ∨ h.1 a0 = 133 ∨ h.1 a0 = 134 ∨ h.1 a0 = 135 ∨ h.1 a0 = 138 ∨ h.1 a0 = 139 ∨ h.1 a0 = 140 ∨ h.1 a0 = 136 ∨ h.1 a0 = 137 ∨ h.1 a0 = 144 ∨ h.1 a0 = 245) ∧ (h.1 a0 = 8 ∨ h.1 a0 = 11)) from by omega) 46).trans (p20_q_351))
                refine wa_getR B (C := RX12) (T := TX12) (N := 51) iq_X12_match_X12 ha0 ka0 (by decide) rfl 46 (by decide) (by decide) (by decide +kernel) rfl (fun _ _ _ => rfl) (v := m46) z_387 dX12_match_59 ?_
                refine wa_bipush B 12 dX12_match_62 (by decide) ?_
                refine wa_iload_n B dX12_match_64 rfl 4 rfl ?_
                refine wa_imul B dX12_match_65 (fun v_388 ev_388 => ?_)
                refine wa_iload_n B dX12_match_66 rfl 3 rfl ?_
                refine wa_iadd B dX12_match_67 (fun v_389 ev_389 => ?_)
                refine wa_iload B dX12_match_68 0 rfl ?_
                refine wa_iconst B 2 dX12_match_70 (by decide) ?_
                have Jn_81_391 : ∀  (v_390 : Int32), WA l dC dI h L ({ frames := 6, cells := 0, slots := 0, locals := 146 } : Room) 7 Z q_382 81 [(6, .int v_385), (5, .int r_383), (4, .int r_360), (3, .int v_350), (2, .int v_4), (1, .int (q_1.1 a0 45)), (0, .ref a0)] [.int v_390, .int v_389, .ref m46] := by
                  intro v_390
                  have tv_388 : v_388.toInt = 12 * v_4.toInt := by have b1 := zx_bd v_4; rw [ev_388]; exact zx_mul (show (-2147483648 : Int) ≤ 12 * v_4.toInt by omega) (show 12 * v_4.toInt < (2147483648 : Int) by omega)
                  have tv_389 : v_389.toInt = v_388.toInt + v_350.toInt := by have b0 := zx_bd v_388; have b1 := zx_bd v_350; rw [ev_389]; exact zx_add (show (-2147483648 : Int) ≤ v_388.toInt + v_350.toInt by omega) (show v_388.toInt + v_350.toInt < (2147483648 : Int) by omega)
                  refine wa_iastore B hm46 km46 (by decide) (by decide) (show 0 ≤ v_389.toInt by omega) (show v_389.toInt < (h.2.1 m46 : Int) by omega) dX12_match_81 (fun q_392 eq_392 => ?_)
                  have hV_q_392 : sx_V h L q_392 := by rw [eq_392]; exact hV_q_382.up1 hm46 km46 trivial
                  have hF_q_392 : sx_fr h L (fun a => h.1 a = 12 ∨ h.1 a = 113 ∨ h.1 a = 133 ∨ h.1 a = 134 ∨ h.1 a = 135 ∨ h.1 a = 138 ∨ h.1 a = 139 ∨ h.1 a = 140 ∨ h.1 a = 136 ∨ h.1 a = 137 ∨ h.1 a = 144 ∨ h.1 a = 245 ∨ h.1 a = 156 ∨ h.1 a = 157 ∨ h.1 a = 158) q q_392 := hF_q_382.tr (by rw [eq_392]; exact sx_fr.pG (show h.1 m46 = 100 ∨ (h.1 m46 = 12 ∨ h.1 m46 = 113 ∨ h.1 m46 = 133 ∨ h.1 m46 = 134 ∨ h.1 m46 = 135 ∨ h.1 m46 = 138 ∨ h.1 m46 = 139 ∨ h.1 m46 = 140 ∨ h.1 m46 = 136 ∨ h.1 m46 = 137 ∨ h.1 m46 = 144 ∨ h.1 m46 = 245 ∨ h.1 m46 = 156 ∨ h.1 m46 = 157 ∨ h.1 m46 = 158) from by omega))
                  have z_393 : q_392.2.2.2.1 m46 = (upd (q_382.2.2.2.1 m46) (v_389 : Int32).toNatClampNeg v_390) := by rw [eq_392, sg_pG_e]
                  have z_394 : q_392.2.2.2.1 m46 (v_389 : Int32).toNatClampNeg = v_390 := by rw [eq_392, sg_pG_e]; exact if_pos rfl
                  have hK_q_392 : sx_kf a0 [0, 49, 50, 4, 14, 15, 32, 33, 36, 37, 38, 39, 5, 10, 6, 7, 8, 9, 11, 12, 13] q q_392 := hK_q_382.tr (sx_kf.eq (by rw [eq_392]; rfl) (by rw [eq_392]; rfl))
                  have mN_q_392 : mv_N a0 q_392 := mv_N.eq ((show q_392.1 a0 8 = q_382.1 a0 8 from by rw [eq_392]; rfl)) ((show q_392.2.1 a0 11 = q_382.2.1 a0 11 from by rw [eq_392]; rfl)) mN_q_382
                  have mS_q_392 : mv_S m23 m26 m28 m29 q_392 := mv_S.eq ((show q_392.2.2.2.1 m23 = q_382.2.2.2.1 m23 from by rw [eq_392]; exact sg_pG_a (sx_ka h km23 km46 (by decide)))) ((show q_392.2.2.2.1 m26 = q_382.2.2.2.1 m26 from by rw [eq_392]; exact sg_pG_a (sx_ka h km26 km46 (by decide)))) ((show q_392.2.2.2.1 m28 = q_382.2.2.2.1 m28 from by rw [eq_392]; exact sg_pG_a (sx_ka h km28 km46 (by decide)))) ((show q_392.2.2.2.1 m29 = q_382.2.2.2.1 m29 from by rw [eq_392]; exact sg_pG_a (sx_ka h km29 km46 (by decide)))) mS_q_382
                  have mL_q_392 : mv_L m40 m41 m44 a0 q_392 := mv_L.eq ((show q_392.2.2.2.1 m40 = q_382.2.2.2.1 m40 from by rw [eq_392]; exact sg_pG_a (sx_ka h km40 km46 (by decide)))) ((show q_392.2.2.2.1 m41 = q_382.2.2.2.1 m41 from by rw [eq_392]; exact sg_pG_a (sx_ka h km41 km46 (by decide)))) ((show q_392.2.2.2.1 m44 = q_382.2.2.2.1 m44 from by rw [eq_392]; exact sg_pG_a (sx_ka h km44 km46 (by decide)))) ((show q_392.1 a0 45 = q_382.1 a0 45 from by rw [eq_392]; rfl)) mL_q_382
                  obtain ⟨v_395, ev_395⟩ : ∃ z : Int32, z = v_350 + 1 := ⟨_, rfl⟩
                  refine wa_iinc B [(3, .int v_395), (6, .int v_385), (5, .int r_383), (4, .int r_360), (2, .int v_4), (1, .int (q_1.1 a0 45)), (0, .ref a0)] v_395 dX12_match_82 3 rfl (by rw [ev_395]; rfl) (by decide) rfl ?_
                  refine wa_goto B 21 dX12_match_85 (by decide) ?_
                  have tv_395 : v_395.toInt = v_350.toInt + 1 := by have b0 := zx_bd v_350; rw [ev_395]; exact zx_add (show (-2147483648 : Int) ≤ v_350.toInt + 1 by omega) (show v_350.toInt + 1 < (2147483648 : Int) by omega)
                  have z_396 : q_392.1 a0 0 = 0 := ((show q_392.1 a0 0 = q_382.1 a0 0 from by rw [eq_392]; rfl)).trans ((h3_q_382.1 0 (by decide)).trans ((h3_q_359.1 0 (by decide)).trans (p0_q_351)))
                  have z_397 : q_392.1 a0 45 = (q_1.1 a0 45) := ((show q_392.1 a0 45 = q_382.1 a0 45 from by rw [eq_392]; rfl)).trans ((h3_q_382.1 45 (by decide)).trans (z_380))
                  have z_398 : q_392.2.2.1 a0 3 = m3 := ((show q_392.2.2.1 a0 3 = q_382.2.2.1 a0 3 from by rw [eq_392]; rfl)).trans ((h2_q_382.R ha0 (show ¬ ((h.1 a0 = 12 ∨ h.1 a0 = 113 ∨ h.1 a0 = 133 ∨ h.1 a0 = 134 ∨ h.1 a0 = 135 ∨ h.1 a0 = 138 ∨ h.1 a0 = 139 ∨ h.1 a0 = 140 ∨ h.1 a0 = 136 ∨ h.1 a0 = 137 ∨ h.1 a0 = 144 ∨ h.1 a0 = 245) ∧ (h.1 a0 = 8 ∨ h.1 a0 = 11)) from by omega) 3).trans (z_362))
                  have z_399 : q_392.2.2.1 a0 18 = m18 := ((show q_392.2.2.1 a0 18 = q_382.2.2.1 a0 18 from by rw [eq_392]; rfl)).trans ((h2_q_382.R ha0 (show ¬ ((h.1 a0 = 12 ∨ h.1 a0 = 113 ∨ h.1 a0 = 133 ∨ h.1 a0 = 134 ∨ h.1 a0 = 135 ∨ h.1 a0 = 138 ∨ h.1 a0 = 139 ∨ h.1 a0 = 140 ∨ h.1 a0 = 136 ∨ h.1 a0 = 137 ∨ h.1 a0 = 144 ∨ h.1 a0 = 245) ∧ (h.1 a0 = 8 ∨ h.1 a0 = 11)) from by omega) 18).trans (z_363))
                  have z_400 : q_392.2.2.1 a0 19 = m19 := ((show q_392.2.2.1 a0 19 = q_382.2.2.1 a0 19 from by rw [eq_392]; rfl)).trans ((h2_q_382.R ha0 (show ¬ ((h.1 a0 = 12 ∨ h.1 a0 = 113 ∨ h.1 a0 = 133 ∨ h.1 a0 = 134 ∨ h.1 a0 = 135 ∨ h.1 a0 = 138 ∨ h.1 a0 = 139 ∨ h.1 a0 = 140 ∨ h.1 a0 = 136 ∨ h.1 a0 = 137 ∨ h.1 a0 = 144 ∨ h.1 a0 = 245) ∧ (h.1 a0 = 8 ∨ h.1 a0 = 11)) from by omega) 19).trans (z_364))
                  have z_401 : q_392.2.2.1 a0 23 = m23 := ((show q_392.2.2.1 a0 23 = q_382.2.2.1 a0 23 from by rw [eq_392]; rfl)).trans ((h2_q_382.R ha0 (show ¬ ((h.1 a0 = 12 ∨ h.1 a0 = 113 ∨ h.1 a0 = 133 ∨ h.1 a0 = 134 ∨ h.1 a0 = 135 ∨ h.1 a0 = 138 ∨ h.1 a0 = 139 ∨ h.1 a0 = 140 ∨ h.1 a0 = 136 ∨ h.1 a0 = 137 ∨ h.1 a0 = 144 ∨ h.1 a0 = 245) ∧ (h.1 a0 = 8 ∨ h.1 a0 = 11)) from by omega) 23).trans (z_365))
                  have z_402 : q_392.2.2.1 a0 24 = m24 := ((show q_392.2.2.1 a0 24 = q_382.2.2.1 a0 24 from by rw [eq_392]; rfl)).trans ((h2_q_382.R ha0 (show ¬ ((h.1 a0 = 12 ∨ h.1 a0 = 113 ∨ h.1 a0 = 133 ∨ h.1 a0 = 134 ∨ h.1 a0 = 135 ∨ h.1 a0 = 138 ∨ h.1 a0 = 139 ∨ h.1 a0 = 140 ∨ h.1 a0 = 136 ∨ h.1 a0 = 137 ∨ h.1 a0 = 144 ∨ h.1 a0 = 245) ∧ (h.1 a0 = 8 ∨ h.1 a0 = 11)) from by omega) 24).trans (z_366))
                  have z_403 : q_392.2.2.1 a0 25 = m25 := ((show q_392.2.2.1 a0 25 = q_382.2.2.1 a0 25 from by rw [eq_392]; rfl)).trans ((h2_q_382.R ha0 (show ¬ ((h.1 a0 = 12 ∨ h.1 a0 = 113 ∨ h.1 a0 = 133 ∨ h.1 a0 = 134 ∨ h.1 a0 = 135 ∨ h.1 a0 = 138 ∨ h.1 a0 = 139 ∨ h.1 a0 = 140 ∨ h.1 a0 = 136 ∨ h.1 a0 = 137 ∨ h.1 a0 = 144 ∨ h.1 a0 = 245) ∧ (h.1 a0 = 8 ∨ h.1 a0 = 11)) from by omega) 25).trans (z_367))
                  have z_404 : q_392.2.2.1 a0 26 = m26 := ((show q_392.2.2.1 a0 26 = q_382.2.2.1 a0 26 from by rw [eq_392]; rfl)).trans ((h2_q_382.R ha0 (show ¬ ((h.1 a0 = 12 ∨ h.1 a0 = 113 ∨ h.1 a0 = 133 ∨ h.1 a0 = 134 ∨ h.1 a0 = 135 ∨ h.1 a0 = 138 ∨ h.1 a0 = 139 ∨ h.1 a0 = 140 ∨ h.1 a0 = 136 ∨ h.1 a0 = 137 ∨ h.1 a0 = 144 ∨ h.1 a0 = 245) ∧ (h.1 a0 = 8 ∨ h.1 a0 = 11)) from by omega) 26).trans (z_368))
                  have z_405 : q_392.2.2.1 a0 27 = m27 := ((show q_392.2.2.1 a0 27 = q_382.2.2.1 a0 27 from by rw [eq_392]; rfl)).trans ((h2_q_382.R ha0 (show ¬ ((h.1 a0 = 12 ∨ h.1 a0 = 113 ∨ h.1 a0 = 133 ∨ h.1 a0 = 134 ∨ h.1 a0 = 135 ∨ h.1 a0 = 138 ∨ h.1 a0 = 139 ∨ h.1 a0 = 140 ∨ h.1 a0 = 136 ∨ h.1 a0 = 137 ∨ h.1 a0 = 144 ∨ h.1 a0 = 245) ∧ (h.1 a0 = 8 ∨ h.1 a0 = 11)) from by omega) 27).trans (z_369))
                  have z_406 : q_392.2.2.1 a0 28 = m28 := ((show q_392.2.2.1 a0 28 = q_382.2.2.1 a0 28 from by rw [eq_392]; rfl)).trans ((h2_q_382.R ha0 (show ¬ ((h.1 a0 = 12 ∨ h.1 a0 = 113 ∨ h.1 a0 = 133 ∨ h.1 a0 = 134 ∨ h.1 a0 = 135 ∨ h.1 a0 = 138 ∨ h.1 a0 = 139 ∨ h.1 a0 = 140 ∨ h.1 a0 = 136 ∨ h.1 a0 = 137 ∨ h.1 a0 = 144 ∨ h.1 a0 = 245) ∧ (h.1 a0 = 8 ∨ h.1 a0 = 11)) from by omega) 28).trans (z_370))
                  have z_407 : q_392.2.2.1 a0 29 = m29 := ((show q_392.2.2.1 a0 29 = q_382.2.2.1 a0 29 from by rw [eq_392]; rfl)).trans ((h2_q_382.R ha0 (show ¬ ((h.1 a0 = 12 ∨ h.1 a0 = 113 ∨ h.1 a0 = 133 ∨ h.1 a0 = 134 ∨ h.1 a0 = 135 ∨ h.1 a0 = 138 ∨ h.1 a0 = 139 ∨ h.1 a0 = 140 ∨ h.1 a0 = 136 ∨ h.1 a0 = 137 ∨ h.1 a0 = 144 ∨ h.1 a0 = 245) ∧ (h.1 a0 = 8 ∨ h.1 a0 = 11)) from by omega) 29).trans (z_371))
                  have z_408 : q_392.2.2.1 a0 30 = m30 := ((show q_392.2.2.1 a0 30 = q_382.2.2.1 a0 30 from by rw [eq_392]; rfl)).trans ((h2_q_382.R ha0 (show ¬ ((h.1 a0 = 12 ∨ h.1 a0 = 113 ∨ h.1 a0 = 133 ∨ h.1 a0 = 134 ∨ h.1 a0 = 135 ∨ h.1 a0 = 138 ∨ h.1 a0 = 139 ∨ h.1 a0 = 140 ∨ h.1 a0 = 136 ∨ h.1 a0 = 137 ∨ h.1 a0 = 144 ∨ h.1 a0 = 245) ∧ (h.1 a0 = 8 ∨ h.1 a0 = 11)) from by omega) 30).trans (z_372))
                  have z_409 : q_392.2.2.1 a0 34 = m34 := ((show q_392.2.2.1 a0 34 = q_382.2.2.1 a0 34 from by rw [eq_392]; rfl)).trans ((h2_q_382.R ha0 (show ¬ ((h.1 a0 = 12 ∨ h.1 a0 = 113 ∨ h.1 a0 = 133 ∨ h.1 a0 = 134 ∨ h.1 a0 = 135 ∨ h.1 a0 = 138 ∨ h.1 a0 = 139 ∨ h.1 a0 = 140 ∨ h.1 a0 = 136 ∨ h.1 a0 = 137 ∨ h.1 a0 = 144 ∨ h.1 a0 = 245) ∧ (h.1 a0 = 8 ∨ h.1 a0 = 11)) from by omega) 34).trans (z_373))
                  have z_410 : q_392.2.2.1 a0 35 = m35 := ((show q_392.2.2.1 a0 35 = q_382.2.2.1 a0 35 from by rw [eq_392]; rfl)).trans ((h2_q_382.R ha0 (show ¬ ((h.1 a0 = 12 ∨ h.1 a0 = 113 ∨ h.1 a0 = 133 ∨ h.1 a0 = 134 ∨ h.1 a0 = 135 ∨ h.1 a0 = 138 ∨ h.1 a0 = 139 ∨ h.1 a0 = 140 ∨ h.1 a0 = 136 ∨ h.1 a0 = 137 ∨ h.1 a0 = 144 ∨ h.1 a0 = 245) ∧ (h.1 a0 = 8 ∨ h.1 a0 = 11)) from by omega) 35).trans (z_374))
                  have z_411 : q_392.2.2.1 a0 40 = m40 := ((show q_392.2.2.1 a0 40 = q_382.2.2.1 a0 40 from by rw [eq_392]; rfl)).trans ((h2_q_382.R ha0 (show ¬ ((h.1 a0 = 12 ∨ h.1 a0 = 113 ∨ h.1 a0 = 133 ∨ h.1 a0 = 134 ∨ h.1 a0 = 135 ∨ h.1 a0 = 138 ∨ h.1 a0 = 139 ∨ h.1 a0 = 140 ∨ h.1 a0 = 136 ∨ h.1 a0 = 137 ∨ h.1 a0 = 144 ∨ h.1 a0 = 245) ∧ (h.1 a0 = 8 ∨ h.1 a0 = 11)) from by omega) 40).trans (z_375))
                  have z_412 : q_392.2.2.1 a0 41 = m41 := ((show q_392.2.2.1 a0 41 = q_382.2.2.1 a0 41 from by rw [eq_392]; rfl)).trans ((h2_q_382.R ha0 (show ¬ ((h.1 a0 = 12 ∨ h.1 a0 = 113 ∨ h.1 a0 = 133 ∨ h.1 a0 = 134 ∨ h.1 a0 = 135 ∨ h.1 a0 = 138 ∨ h.1 a0 = 139 ∨ h.1 a0 = 140 ∨ h.1 a0 = 136 ∨ h.1 a0 = 137 ∨ h.1 a0 = 144 ∨ h.1 a0 = 245) ∧ (h.1 a0 = 8 ∨ h.1 a0 = 11)) from by omega) 41).trans (z_376))
                  have z_413 : q_392.2.2.1 a0 44 = m44 := ((show q_392.2.2.1 a0 44 = q_382.2.2.1 a0 44 from by rw [eq_392]; rfl)).trans ((h2_q_382.R ha0 (show ¬ ((h.1 a0 = 12 ∨ h.1 a0 = 113 ∨ h.1 a0 = 133 ∨ h.1 a0 = 134 ∨ h.1 a0 = 135 ∨ h.1 a0 = 138 ∨ h.1 a0 = 139 ∨ h.1 a0 = 140 ∨ h.1 a0 = 136 ∨ h.1 a0 = 137 ∨ h.1 a0 = 144 ∨ h.1 a0 = 245) ∧ (h.1 a0 = 8 ∨ h.1 a0 = 11)) from by omega) 44).trans (z_377))
                  have z_414 : q_392.2.2.1 a0 42 = m42 := ((show q_392.2.2.1 a0 42 = q_382.2.2.1 a0 42 from by rw [eq_392]; rfl)).trans ((h2_q_382.R ha0 (show ¬ ((h.1 a0 = 12 ∨ h.1 a0 = 113 ∨ h.1 a0 = 133 ∨ h.1 a0 = 134 ∨ h.1 a0 = 135 ∨ h.1 a0 = 138 ∨ h.1 a0 = 139 ∨ h.1 a0 = 140 ∨ h.1 a0 = 136 ∨ h.1 a0 = 137 ∨ h.1 a0 = 144 ∨ h.1 a0 = 245) ∧ (h.1 a0 = 8 ∨ h.1 a0 = 11)) from by omega) 42).trans (z_378))
                  have z_415 : q_392.2.2.1 a0 43 = m43 := ((show q_392.2.2.1 a0 43 = q_382.2.2.1 a0 43 from by rw [eq_392]; rfl)).trans ((h2_q_382.R ha0 (show ¬ ((h.1 a0 = 12 ∨ h.1 a0 = 113 ∨ h.1 a0 = 133 ∨ h.1 a0 = 134 ∨ h.1 a0 = 135 ∨ h.1 a0 = 138 ∨ h.1 a0 = 139 ∨ h.1 a0 = 140 ∨ h.1 a0 = 136 ∨ h.1 a0 = 137 ∨ h.1 a0 = 144 ∨ h.1 a0 = 245) ∧ (h.1 a0 = 8 ∨ h.1 a0 = 11)) from by omega) 43).trans (z_379))
                  have z_416 : q_392.2.2.1 a0 46 = m46 := ((show q_392.2.2.1 a0 46 = q_382.2.2.1 a0 46 from by rw [eq_392]; rfl)).trans (z_387)
                  have z_417 : q_392.2.2.1 a0 47 = m47 := ((show q_392.2.2.1 a0 47 = q_382.2.2.1 a0 47 from by rw [eq_392]; rfl)).trans ((h2_q_382.R ha0 (show ¬ ((h.1 a0 = 12 ∨ h.1 a0 = 113 ∨ h.1 a0 = 133 ∨ h.1 a0 = 134 ∨ h.1 a0 = 135 ∨ h.1 a0 = 138 ∨ h.1 a0 = 139 ∨ h.1 a0 = 140 ∨ h.1 a0 = 136 ∨ h.1 a0 = 137 ∨ h.1 a0 = 144 ∨ h.1 a0 = 245) ∧ (h.1 a0 = 8 ∨ h.1 a0 = 11)) from by omega) 47).trans ((h2_q_359.R ha0 (show ¬ ((h.1 a0 = 12 ∨ h.1 a0 = 113 ∨ h.1 a0 = 133 ∨ h.1 a0 = 134 ∨ h.1 a0 = 135 ∨ h.1 a0 = 138 ∨ h.1 a0 = 139 ∨ h.1 a0 = 140 ∨ h.1 a0 = 136 ∨ h.1 a0 = 137 ∨ h.1 a0 = 144 ∨ h.1 a0 = 245) ∧ (h.1 a0 = 8 ∨ h.1 a0 = 11)) from by omega) 47).trans (p21_q_351)))
                  have z_418 : q_392.2.2.1 a0 48 = m48 := ((show q_392.2.2.1 a0 48 = q_382.2.2.1 a0 48 from by rw [eq_392]; rfl)).trans ((h2_q_382.R ha0 (show ¬ ((h.1 a0 = 12 ∨ h.1 a0 = 113 ∨ h.1 a0 = 133 ∨ h.1 a0 = 134 ∨ h.1 a0 = 135 ∨ h.1 a0 = 138 ∨ h.1 a0 = 139 ∨ h.1 a0 = 140 ∨ h.1 a0 = 136 ∨ h.1 a0 = 137 ∨ h.1 a0 = 144 ∨ h.1 a0 = 245) ∧ (h.1 a0 = 8 ∨ h.1 a0 = 11)) from by omega) 48).trans ((h2_q_359.R ha0 (show ¬ ((h.1 a0 = 12 ∨ h.1 a0 = 113 ∨ h.1 a0 = 133 ∨ h.1 a0 = 134 ∨ h.1 a0 = 135 ∨ h.1 a0 = 138 ∨ h.1 a0 = 139 ∨ h.1 a0 = 140 ∨ h.1 a0 = 136 ∨ h.1 a0 = 137 ∨ h.1 a0 = 144 ∨ h.1 a0 = 245) ∧ (h.1 a0 = 8 ∨ h.1 a0 = 11)) from by omega) 48).trans (p22_q_351)))
                  refine WA.sub [0, 4, 5, 6] rfl ?_
                  exact ih_355 v_395 q_392 hV_q_392 hF_q_392 hK_q_392 mN_q_392 mS_q_392 mL_q_392 z_396 z_397 z_398 z_399 z_400 z_401 z_402 z_403 z_404 z_405 z_406 z_407 z_408 z_409 z_410 z_411 z_412 z_413 z_414 z_415 z_416 z_417 z_418 (show 0 ≤ v_395.toInt from by first | assumption | omega | decide) (show v_4.toInt < (q_1.1 a0 45).toInt from by first | assumption | omega | decide) (show ((q_1.1 a0 45).toInt - v_395.toInt : Int).toNat < _ from by omega)
                refine wa_icmp_ne B 79 dX12_match_71 (by decide) (fun (t_419 : ¬ v_385.toInt = 2) => ?_) (fun (t_419 : v_385.toInt = 2) => ?_)
                · refine wa_iload B dX12_match_79 0 rfl ?_
                  exact Jn_81_391 v_385
                · refine wa_bipush B 101 dX12_match_74 (by decide) ?_
                  refine wa_goto B 81 dX12_match_76 (by decide) ?_
                  exact Jn_81_391 101
              refine wa_icmp_le B 54 dX12_match_46 (by decide) (fun (t_420 : r_360.toInt ≤ r_383.toInt) => ?_) (fun (t_420 : ¬ r_360.toInt ≤ r_383.toInt) => ?_)
              · refine wa_iload B dX12_match_54 0 rfl ?_
                exact Jn_56_386 r_383
              · refine wa_iload B dX12_match_49 1 rfl ?_
                refine wa_goto B 56 dX12_match_51 (by decide) ?_
                exact Jn_56_386 r_360
        have tv_349 : v_349.toInt = v_4.toInt + 1 := by have b0 := zx_bd v_4; rw [ev_349]; exact zx_add (show (-2147483648 : Int) ≤ v_4.toInt + 1 by omega) (show v_4.toInt + 1 < (2147483648 : Int) by omega)
        exact Lp_21_354 _ v_349 q_5 hV_q_5 hF_q_5 hK_q_5 mN_q_5 mS_q_5 mL_q_5 p0_q_5 p1_q_5 p2_q_5 p3_q_5 p4_q_5 p5_q_5 p6_q_5 p7_q_5 p8_q_5 p9_q_5 p10_q_5 p11_q_5 p12_q_5 p13_q_5 p14_q_5 p15_q_5 p16_q_5 p17_q_5 p18_q_5 p19_q_5 p20_q_5 p21_q_5 p22_q_5 (show 0 ≤ v_349.toInt from by first | assumption | omega | decide) (show v_4.toInt < (q_1.1 a0 45).toInt from by first | assumption | omega | decide) (Nat.lt_succ_self _)
  exact Lp_12_49 _ 0 q_1 hV_q_1 hF_q_1 hK_q_1 mN_q_1 mS_q_1 mL_q_1 z_2 rfl z_6 z_7 z_8 z_9 z_10 z_11 z_12 z_13 z_14 z_15 z_16 z_17 z_18 z_19 z_20 z_21 z_22 z_23 z_24 z_25 z_26 (show 0 ≤ 0 from by first | assumption | omega | decide) (Nat.lt_succ_self _)
