theorem iq_X12_readAmount_X12 : ∀ w ∈ wsX120, w ∈ wsX12_readAmount := fun _ h => List.mem_cons_of_mem _ (List.mem_append_right _ h)
set_option maxHeartbeats 4000000 in
set_option maxRecDepth 100000 in
theorem k_X12_readAmount (l : Launch) (dC : Nat → ClassId) (dI : Nat → Nat → Nat) (h : Sh) (L : List Nat) (hN : sx_nd L) (q : Sg) (hV : sx_V h L q) {a0 : Nat} (ha0 : a0 ∈ L) (ka0 : h.1 a0 = 12) (n1 : Int32) (n2 : Int32) {m18 : Nat} (em18 : q.2.2.1 a0 18 = m18) {m19 : Nat} (em19 : q.2.2.1 a0 19 = m19) {m23 : Nat} (em23 : q.2.2.1 a0 23 = m23) {m25 : Nat} (em25 : q.2.2.1 a0 25 = m25) {m26 : Nat} (em26 : q.2.2.1 a0 26 = m26) {m27 : Nat} (em27 : q.2.2.1 a0 27 = m27) {m28 : Nat} (em28 : q.2.2.1 a0 28 = m28) {m29 : Nat} (em29 : q.2.2.1 a0 29 = m29) {m30 : Nat} (em30 : q.2.2.1 a0 30 = m30) (mN : mv_N a0 q) (mS : mv_S m23 m26 m28 m29 q)  (hy0 : 0 ≤ n1.toInt) (hy1 : n1.toInt ≤ 8) (hy2 : 0 ≤ n2.toInt) (hy3 : n2.toInt ≤ 107) (hyl : n2.toInt = 12 * n1.toInt + (q.2.2.2.1 m23 (n1).toNatClampNeg).toInt) (hy11 : (q.2.2.2.1 m23 (n1).toNatClampNeg).toInt ≤ 11) (hyA : mv_A (q.2.2.2.1 m26) (q.2.2.2.1 m30) (n2).toNatClampNeg) (hyR : mv_R (q.2.2.2.1 m28) (q.2.2.2.1 m29) (q.2.2.2.1 m26) (q.2.2.2.1 m27) (q.2.2.2.1 m23) (n1).toNatClampNeg (n2).toNatClampNeg) : CMi l dC dI h L yX12_readAmount wsX12_readAmount ({ frames := 3, cells := 0, slots := 0, locals := 65 } : Room) q [.ref a0, .int n1, .int n2] (fun r q' => sx_V h L q' ∧ sx_fr h L (fun a => h.1 a = 12 ∨ h.1 a = 135 ∨ h.1 a = 138 ∨ h.1 a = 139 ∨ h.1 a = 140 ∨ h.1 a = 136 ∨ h.1 a = 137) q q' ∧ sx_kf a0 [6, 7, 8, 9, 11, 12, 13, 14, 15, 32, 33] q q' ∧ mv_N a0 q' ∧ mv_S m23 m26 m28 m29 q' ∧ (r.toInt = 1 ∧ mv_A (q'.2.2.2.1 m26) (q'.2.2.2.1 m30) (n2).toNatClampNeg ∧ mv_R (q'.2.2.2.1 m28) (q'.2.2.2.1 m29) (q'.2.2.2.1 m26) (q'.2.2.2.1 m27) (q'.2.2.2.1 m23) (n1).toNatClampNeg (n2).toNatClampNeg ∧ (q'.2.2.2.1 m26 (n2).toNatClampNeg).toInt = (q.2.2.2.1 m26 (n2).toNatClampNeg).toInt + 1 ∨ r.toInt = 0)) := by
  refine cm_z (cc := cX12_readAmount) (mL := 11) (own := RX12) hN (by decide) rfl rfl (Nat.le_of_ble_eq_true rfl) (fun Z B hret => ?_)
  have hF : sx_fr h L (fun a => h.1 a = 12 ∨ h.1 a = 135 ∨ h.1 a = 138 ∨ h.1 a = 139 ∨ h.1 a = 140 ∨ h.1 a = 136 ∨ h.1 a = 137) q q := sx_fr.rf
  have hK : sx_kf a0 [6, 7, 8, 9, 11, 12, 13, 14, 15, 32, 33] q q := sx_kf.rf
  obtain ⟨hm18, km18, lm18⟩ : m18 ∈ L ∧ h.1 m18 = 128 ∧ h.2.1 m18 = 6 := by obtain ⟨r9, e9, z1, z2, z3⟩ := hV.refn (t := 128) (n := 6) ha0 ka0 18 rfl (by decide) rfl (by decide); rw [← em18, e9]; exact ⟨z1, z2, z3⟩
  obtain ⟨hm19, km19, lm19⟩ : m19 ∈ L ∧ h.1 m19 = 129 ∧ h.2.1 m19 = 30 := by obtain ⟨r9, e9, z1, z2, z3⟩ := hV.refn (t := 129) (n := 30) ha0 ka0 19 rfl (by decide) rfl (by decide); rw [← em19, e9]; exact ⟨z1, z2, z3⟩
  obtain ⟨hm23, km23, lm23⟩ : m23 ∈ L ∧ h.1 m23 = 133 ∧ h.2.1 m23 = 9 := by obtain ⟨r9, e9, z1, z2, z3⟩ := hV.refn (t := 133) (n := 9) ha0 ka0 23 rfl (by decide) rfl (by decide); rw [← em23, e9]; exact ⟨z1, z2, z3⟩
  obtain ⟨hm25, km25, lm25⟩ : m25 ∈ L ∧ h.1 m25 = 135 ∧ h.2.1 m25 = 108 := by obtain ⟨r9, e9, z1, z2, z3⟩ := hV.refn (t := 135) (n := 108) ha0 ka0 25 rfl (by decide) rfl (by decide); rw [← em25, e9]; exact ⟨z1, z2, z3⟩
  obtain ⟨hm26, km26, lm26⟩ : m26 ∈ L ∧ h.1 m26 = 136 ∧ h.2.1 m26 = 108 := by obtain ⟨r9, e9, z1, z2, z3⟩ := hV.refn (t := 136) (n := 108) ha0 ka0 26 rfl (by decide) rfl (by decide); rw [← em26, e9]; exact ⟨z1, z2, z3⟩
  obtain ⟨hm27, km27, lm27⟩ : m27 ∈ L ∧ h.1 m27 = 137 ∧ h.2.1 m27 = 9 := by obtain ⟨r9, e9, z1, z2, z3⟩ := hV.refn (t := 137) (n := 9) ha0 ka0 27 rfl (by decide) rfl (by decide); rw [← em27, e9]; exact ⟨z1, z2, z3⟩
  obtain ⟨hm28, km28, lm28⟩ : m28 ∈ L ∧ h.1 m28 = 138 ∧ h.2.1 m28 = 540 := by obtain ⟨r9, e9, z1, z2, z3⟩ := hV.refn (t := 138) (n := 540) ha0 ka0 28 rfl (by decide) rfl (by decide); rw [← em28, e9]; exact ⟨z1, z2, z3⟩
  obtain ⟨hm29, km29, lm29⟩ : m29 ∈ L ∧ h.1 m29 = 139 ∧ h.2.1 m29 = 540 := by obtain ⟨r9, e9, z1, z2, z3⟩ := hV.refn (t := 139) (n := 540) ha0 ka0 29 rfl (by decide) rfl (by decide); rw [← em29, e9]; exact ⟨z1, z2, z3⟩
  obtain ⟨hm30, km30, lm30⟩ : m30 ∈ L ∧ h.1 m30 = 140 ∧ h.2.1 m30 = 540 := by obtain ⟨r9, e9, z1, z2, z3⟩ := hV.refn (t := 140) (n := 540) ha0 ka0 30 rfl (by decide) rfl (by decide); rw [← em30, e9]; exact ⟨z1, z2, z3⟩
  show WA l dC dI h L ({ frames := 3, cells := 0, slots := 0, locals := 65 } : Room) 11 Z q 0 [(0, .ref a0), (1, .int n1), (2, .int n2)] []
  refine wa_aload_n B dX12_readAmount_0 rfl 0 rfl ?_
  refine wa_getI B (C := RX12) (T := TX12) (N := 51) iq_X12_readAmount_X12 ha0 ka0 (by decide) rfl 7 (by decide) (by decide) (by decide +kernel) rfl (by decide) (v := (q.1 a0 7)) rfl dX12_readAmount_1 ?_
  have g_1 : (0 : Int) ≤ (q.1 a0 7).toInt ∧ (q.1 a0 7).toInt ≤ 500 := hV.int ha0 ka0 7
  refine wa_istore_n B [(3, .int (q.1 a0 7)), (0, .ref a0), (1, .int n1), (2, .int n2)] dX12_readAmount_4 rfl (by decide) rfl ?_
  refine wa_aload_n B dX12_readAmount_5 rfl 1 rfl ?_
  refine wa_getI B (C := RX12) (T := TX12) (N := 51) iq_X12_readAmount_X12 ha0 ka0 (by decide) rfl 12 (by decide) (by decide) (by decide +kernel) rfl (by decide) (v := (q.1 a0 12)) rfl dX12_readAmount_6 ?_
  have g_2 : (-48 : Int) ≤ (q.1 a0 12).toInt ∧ (q.1 a0 12).toInt ≤ 207 := hV.int ha0 ka0 12
  refine wa_istore B [(4, .int (q.1 a0 12)), (3, .int (q.1 a0 7)), (0, .ref a0), (1, .int n1), (2, .int n2)] dX12_readAmount_9 (by decide) rfl ?_
  refine wa_aload_n B dX12_readAmount_11 rfl 2 rfl ?_
  refine wa_getI B (C := RX12) (T := TX12) (N := 51) iq_X12_readAmount_X12 ha0 ka0 (by decide) rfl 13 (by decide) (by decide) (by decide +kernel) rfl (by decide) (v := (q.1 a0 13)) rfl dX12_readAmount_12 ?_
  have g_3 : (-48 : Int) ≤ (q.1 a0 13).toInt ∧ (q.1 a0 13).toInt ≤ 207 := hV.int ha0 ka0 13
  refine wa_istore B [(5, .int (q.1 a0 13)), (4, .int (q.1 a0 12)), (3, .int (q.1 a0 7)), (0, .ref a0), (1, .int n1), (2, .int n2)] dX12_readAmount_15 (by decide) rfl ?_
  refine wa_iload B dX12_readAmount_17 1 rfl ?_
  refine wa_bipush B 10 dX12_readAmount_19 (by decide) ?_
  have Jn_42_8 : ∀  (v_4 : Int32), v_4.toInt = ((mv_d (q.1 a0 12) + mv_d (q.1 a0 13) : Nat) : Int) → 0 ≤ v_4.toInt → v_4.toInt ≤ 2 → WA l dC dI h L ({ frames := 3, cells := 0, slots := 0, locals := 65 } : Room) 11 Z q 42 [(5, .int (q.1 a0 13)), (4, .int (q.1 a0 12)), (3, .int (q.1 a0 7)), (0, .ref a0), (1, .int n1), (2, .int n2)] [.int v_4] := by
    intro v_4 x_5 x_6 x_7
    refine wa_istore B [(6, .int v_4), (5, .int (q.1 a0 13)), (4, .int (q.1 a0 12)), (3, .int (q.1 a0 7)), (0, .ref a0), (1, .int n1), (2, .int n2)] dX12_readAmount_42 (by decide) rfl ?_
    refine wa_aload_n B dX12_readAmount_44 rfl 4 rfl ?_
    refine wa_getR B (C := RX12) (T := TX12) (N := 51) iq_X12_readAmount_X12 ha0 ka0 (by decide) rfl 27 (by decide) (by decide) (by decide +kernel) rfl (fun _ _ _ => rfl) (v := m27) em27 dX12_readAmount_45 ?_
    refine wa_iload_n B dX12_readAmount_48 rfl 5 rfl ?_
    refine wa_iaload B hm27 km27 (by decide) (by decide) (show 0 ≤ n1.toInt by omega) (show n1.toInt < (h.2.1 m27 : Int) by omega) (v := (q.2.2.2.1 m27 (n1 : Int32).toNatClampNeg)) rfl dX12_readAmount_49 ?_
    have g_9 : (0 : Int) ≤ ((q.2.2.2.1 m27 (n1 : Int32).toNatClampNeg)).toInt ∧ ((q.2.2.2.1 m27 (n1 : Int32).toNatClampNeg)).toInt ≤ 4 := hV.cnt hm27 km27 _
    refine wa_iload B dX12_readAmount_50 0 rfl ?_
    refine wa_iadd B dX12_readAmount_52 (fun v_10 ev_10 => ?_)
    refine wa_iconst B 4 dX12_readAmount_53 (by decide) ?_
    have tv_10 : v_10.toInt = ((q.2.2.2.1 m27 (n1 : Int32).toNatClampNeg)).toInt + v_4.toInt := by have b0 := zx_bd ((q.2.2.2.1 m27 (n1 : Int32).toNatClampNeg)); have b1 := zx_bd v_4; rw [ev_10]; exact zx_add (show (-2147483648 : Int) ≤ ((q.2.2.2.1 m27 (n1 : Int32).toNatClampNeg)).toInt + v_4.toInt by omega) (show ((q.2.2.2.1 m27 (n1 : Int32).toNatClampNeg)).toInt + v_4.toInt < (2147483648 : Int) by omega)
    have Jn_62_13 : ∀  (v_11 : Int32), v_11.toInt = 0 ∧ (q.2.2.2.1 m27 (n1).toNatClampNeg).toInt + v_4.toInt ≤ 4 ∨ v_11.toInt = 1 → WA l dC dI h L ({ frames := 3, cells := 0, slots := 0, locals := 65 } : Room) 11 Z q 62 [(6, .int v_4), (5, .int (q.1 a0 13)), (4, .int (q.1 a0 12)), (3, .int (q.1 a0 7)), (0, .ref a0), (1, .int n1), (2, .int n2)] [.int v_11] := by
      intro v_11 x_12
      refine wa_istore B [(7, .int v_11), (6, .int v_4), (5, .int (q.1 a0 13)), (4, .int (q.1 a0 12)), (3, .int (q.1 a0 7)), (0, .ref a0), (1, .int n1), (2, .int n2)] dX12_readAmount_62 (by decide) rfl ?_
      refine wa_aload_n B dX12_readAmount_64 rfl 5 rfl ?_
      refine wa_iload B dX12_readAmount_65 3 rfl ?_
      refine wa_iload B dX12_readAmount_67 2 rfl ?_
      refine wa_bipush B 99 dX12_readAmount_69 (by decide) ?_
      refine wa_callVi B (x := (RX12, TX12, 51)) (As := [.int (q.1 a0 12), .int (q.1 a0 13), .int 99]) (rest := []) (k_X12_canBe l dC dI h L hN q hV (a0 := a0) ha0 ka0 (q.1 a0 12) (q.1 a0 13) 99  (by first | assumption | omega | decide) (by first | assumption | omega | decide) (by first | assumption | omega | decide) (by first | assumption | omega | decide)) (cwV 3 B.1.2.2.2.2 gX12_readAmount_X12_canBe rfl rfl rfl (by decide +kernel) ⟨Nat.le_of_ble_eq_true rfl, Nat.le_of_ble_eq_true rfl⟩) ha0 ka0 (by decide) rfl rfl rfl (Nat.le_of_ble_eq_true rfl) dX12_readAmount_71 (fun r_15 q_14 w_16 => ?_)
      obtain ⟨ew_16, hw_16⟩ := w_16
      subst ew_16
      refine wa_if_ne B 83 dX12_readAmount_74 (by decide) (fun (t_17 : ¬ r_15.toInt = 0) => ?_) (fun (t_17 : r_15.toInt = 0) => ?_)
      · refine wa_aload_n B dX12_readAmount_83 rfl 5 rfl ?_
        refine wa_callVv B (x := (RX12, TX12, 51)) (As := []) (rest := []) (k_X12_go l dC dI h L hN q hV (a0 := a0) ha0 ka0  ) (cwV 0 B.1.2.2.2.2 gX12_readAmount_X12_go rfl rfl rfl (by decide +kernel) ⟨Nat.le_of_ble_eq_true rfl, Nat.le_of_ble_eq_true rfl⟩) ha0 ka0 (by decide) rfl rfl rfl (Nat.le_of_ble_eq_true rfl) dX12_readAmount_84 (fun q_18 w_19 => ?_)
        obtain ⟨hV_q_18, h2_q_18, h3_q_18, mN_q_18⟩ := w_19
        have hF_q_18 : sx_fr h L (fun a => h.1 a = 12 ∨ h.1 a = 135 ∨ h.1 a = 138 ∨ h.1 a = 139 ∨ h.1 a = 140 ∨ h.1 a = 136 ∨ h.1 a = 137) q q_18 := hF.tr (h2_q_18.mono (fun a (z : h.1 a = 12) => (show h.1 a = 12 ∨ h.1 a = 135 ∨ h.1 a = 138 ∨ h.1 a = 139 ∨ h.1 a = 140 ∨ h.1 a = 136 ∨ h.1 a = 137 from by omega)))
        have hK_q_18 : sx_kf a0 [6, 7, 8, 9, 11, 12, 13, 14, 15, 32, 33] q q_18 := hK.tr (h3_q_18.mono (by decide))
        have mS_q_18 : mv_S m23 m26 m28 m29 q_18 := mv_S.eq (h2_q_18.G hm23 (show ¬ (h.1 m23 = 12) from by omega) (by rw [km23]; decide)) (h2_q_18.G hm26 (show ¬ (h.1 m26 = 12) from by omega) (by rw [km26]; decide)) (h2_q_18.G hm28 (show ¬ (h.1 m28 = 12) from by omega) (by rw [km28]; decide)) (h2_q_18.G hm29 (show ¬ (h.1 m29 = 12) from by omega) (by rw [km29]; decide)) mS
        refine wa_aload_n B dX12_readAmount_87 rfl 5 rfl ?_
        refine wa_getI B (C := RX12) (T := TX12) (N := 51) iq_X12_readAmount_X12 ha0 ka0 (by decide) rfl 8 (by decide) (by decide) (by decide +kernel) rfl (by decide) (v := (q_18.1 a0 8)) rfl dX12_readAmount_88 ?_
        refine wa_iconst B 2 dX12_readAmount_91 (by decide) ?_
        have Jn_107_22 : ∀  (v_20 : Int32), v_20.toInt = 0 ∨ v_20.toInt = 1 → WA l dC dI h L ({ frames := 3, cells := 0, slots := 0, locals := 65 } : Room) 11 Z q_18 107 [(7, .int v_11), (6, .int v_4), (5, .int (q.1 a0 13)), (4, .int (q.1 a0 12)), (3, .int (q.1 a0 7)), (0, .ref a0), (1, .int n1), (2, .int n2)] [.int v_20] := by
          intro v_20 x_21
          refine wa_istore B [(8, .int v_20), (7, .int v_11), (6, .int v_4), (5, .int (q.1 a0 13)), (4, .int (q.1 a0 12)), (3, .int (q.1 a0 7)), (0, .ref a0), (1, .int n1), (2, .int n2)] dX12_readAmount_107 (by decide) rfl ?_
          refine wa_iload B dX12_readAmount_109 0 rfl ?_
          have z_25 : q_18.2.2.1 a0 18 = m18 := (h2_q_18.R ha0 (show ¬ ((h.1 a0 = 12) ∧ (h.1 a0 = 8 ∨ h.1 a0 = 11)) from by omega) 18).trans (em18)
          have z_26 : q_18.2.2.1 a0 19 = m19 := (h2_q_18.R ha0 (show ¬ ((h.1 a0 = 12) ∧ (h.1 a0 = 8 ∨ h.1 a0 = 11)) from by omega) 19).trans (em19)
          have z_27 : q_18.2.2.1 a0 23 = m23 := (h2_q_18.R ha0 (show ¬ ((h.1 a0 = 12) ∧ (h.1 a0 = 8 ∨ h.1 a0 = 11)) from by omega) 23).trans (em23)
          have z_28 : q_18.2.2.1 a0 25 = m25 := (h2_q_18.R ha0 (show ¬ ((h.1 a0 = 12) ∧ (h.1 a0 = 8 ∨ h.1 a0 = 11)) from by omega) 25).trans (em25)
          have z_29 : q_18.2.2.1 a0 26 = m26 := (h2_q_18.R ha0 (show ¬ ((h.1 a0 = 12) ∧ (h.1 a0 = 8 ∨ h.1 a0 = 11)) from by omega) 26).trans (em26)
          have z_30 : q_18.2.2.1 a0 27 = m27 := (h2_q_18.R ha0 (show ¬ ((h.1 a0 = 12) ∧ (h.1 a0 = 8 ∨ h.1 a0 = 11)) from by omega) 27).trans (em27)
          have z_31 : q_18.2.2.1 a0 28 = m28 := (h2_q_18.R ha0 (show ¬ ((h.1 a0 = 12) ∧ (h.1 a0 = 8 ∨ h.1 a0 = 11)) from by omega) 28).trans (em28)
          have z_32 : q_18.2.2.1 a0 29 = m29 := (h2_q_18.R ha0 (show ¬ ((h.1 a0 = 12) ∧ (h.1 a0 = 8 ∨ h.1 a0 = 11)) from by omega) 29).trans (em29)
          have z_33 : q_18.2.2.1 a0 30 = m30 := (h2_q_18.R ha0 (show ¬ ((h.1 a0 = 12) ∧ (h.1 a0 = 8 ∨ h.1 a0 = 11)) from by omega) 30).trans (em30)
          have z_34 : q_18.2.2.2.1 m18 = q.2.2.2.1 m18 := h2_q_18.G hm18 (show ¬ (h.1 m18 = 12) from by omega) (by rw [km18]; decide)
          have z_35 : q_18.2.2.2.1 m19 = q.2.2.2.1 m19 := h2_q_18.G hm19 (show ¬ (h.1 m19 = 12) from by omega) (by rw [km19]; decide)
          have z_36 : q_18.2.2.2.1 m23 = q.2.2.2.1 m23 := h2_q_18.G hm23 (show ¬ (h.1 m23 = 12) from by omega) (by rw [km23]; decide)
          have z_37 : q_18.2.2.2.1 m25 = q.2.2.2.1 m25 := h2_q_18.G hm25 (show ¬ (h.1 m25 = 12) from by omega) (by rw [km25]; decide)
          have z_38 : q_18.2.2.2.1 m26 = q.2.2.2.1 m26 := h2_q_18.G hm26 (show ¬ (h.1 m26 = 12) from by omega) (by rw [km26]; decide)
          have z_39 : q_18.2.2.2.1 m27 = q.2.2.2.1 m27 := h2_q_18.G hm27 (show ¬ (h.1 m27 = 12) from by omega) (by rw [km27]; decide)
          have z_40 : q_18.2.2.2.1 m28 = q.2.2.2.1 m28 := h2_q_18.G hm28 (show ¬ (h.1 m28 = 12) from by omega) (by rw [km28]; decide)
          have z_41 : q_18.2.2.2.1 m29 = q.2.2.2.1 m29 := h2_q_18.G hm29 (show ¬ (h.1 m29 = 12) from by omega) (by rw [km29]; decide)
          have z_42 : q_18.2.2.2.1 m30 = q.2.2.2.1 m30 := h2_q_18.G hm30 (show ¬ (h.1 m30 = 12) from by omega) (by rw [km30]; decide)
          have Jn_126_44 : ∀  (v_23 : Int32) (q_24 : Sg), sx_V h L q_24 → sx_fr h L (fun a => h.1 a = 12 ∨ h.1 a = 135 ∨ h.1 a = 138 ∨ h.1 a = 139 ∨ h.1 a = 140 ∨ h.1 a = 136 ∨ h.1 a = 137) q q_24 → sx_kf a0 [6, 7, 8, 9, 11, 12, 13, 14, 15, 32, 33] q q_24 → mv_N a0 q_24 → mv_S m23 m26 m28 m29 q_24 → q_24.1 a0 7 = (q_18.1 a0 7) → q_24.1 a0 12 = (q_18.1 a0 12) → q_24.1 a0 13 = (q_18.1 a0 13) → q_24.1 a0 8 = (q_18.1 a0 8) → q_24.2.2.1 a0 18 = m18 → q_24.2.2.1 a0 19 = m19 → q_24.2.2.1 a0 23 = m23 → q_24.2.2.1 a0 25 = m25 → q_24.2.2.1 a0 26 = m26 → q_24.2.2.1 a0 27 = m27 → q_24.2.2.1 a0 28 = m28 → q_24.2.2.1 a0 29 = m29 → q_24.2.2.1 a0 30 = m30 → q_24.2.2.2.1 m18 = (q.2.2.2.1 m18) → q_24.2.2.2.1 m19 = (q.2.2.2.1 m19) → q_24.2.2.2.1 m23 = (q.2.2.2.1 m23) → q_24.2.2.2.1 m25 = (q.2.2.2.1 m25) → q_24.2.2.2.1 m26 = (q.2.2.2.1 m26) → q_24.2.2.2.1 m27 = (q.2.2.2.1 m27) → q_24.2.2.2.1 m28 = (q.2.2.2.1 m28) → q_24.2.2.2.1 m29 = (q.2.2.2.1 m29) → q_24.2.2.2.1 m30 = (q.2.2.2.1 m30) → v_23.toInt = 0 ∨ v_23.toInt = 1 → WA l dC dI h L ({ frames := 3, cells := 0, slots := 0, locals := 65 } : Room) 11 Z q_24 126 [(8, .int v_20), (7, .int v_11), (6, .int v_4), (5, .int (q.1 a0 13)), (4, .int (q.1 a0 12)), (3, .int (q.1 a0 7)), (0, .ref a0), (1, .int n1), (2, .int n2)] [.int v_23] := by
            intro v_23 q_24 hV_q_24 hF_q_24 hK_q_24 mN_q_24 mS_q_24 p0_q_24 p1_q_24 p2_q_24 p3_q_24 p4_q_24 p5_q_24 p6_q_24 p7_q_24 p8_q_24 p9_q_24 p10_q_24 p11_q_24 p12_q_24 p13_q_24 p14_q_24 p15_q_24 p16_q_24 p17_q_24 p18_q_24 p19_q_24 p20_q_24 p21_q_24 x_43
            refine wa_istore B [(9, .int v_23), (8, .int v_20), (7, .int v_11), (6, .int v_4), (5, .int (q.1 a0 13)), (4, .int (q.1 a0 12)), (3, .int (q.1 a0 7)), (0, .ref a0), (1, .int n1), (2, .int n2)] dX12_readAmount_126 (by decide) rfl ?_
            refine wa_iload B dX12_readAmount_128 0 rfl ?_
            have Jn_163_45 : ∀ (_ : Unit), WA l dC dI h L ({ frames := 3, cells := 0, slots := 0, locals := 65 } : Room) 11 Z q_24 163 [(9, .int v_23), (8, .int v_20), (7, .int v_11), (6, .int v_4), (5, .int (q.1 a0 13)), (4, .int (q.1 a0 12)), (3, .int (q.1 a0 7)), (0, .ref a0), (1, .int n1), (2, .int n2)] [] := by
              intro _
              refine wa_iload B dX12_readAmount_163 2 rfl ?_
              refine wa_if_eq B 175 dX12_readAmount_165 (by decide) (fun (t_46 : v_11.toInt = 0) => ?_) (fun (t_46 : ¬ v_11.toInt = 0) => ?_)
              · refine wa_iload B dX12_readAmount_175 1 rfl ?_
                refine wa_if_ne B 186 dX12_readAmount_177 (by decide) (fun (t_47 : ¬ v_20.toInt = 0) => ?_) (fun (t_47 : v_20.toInt = 0) => ?_)
                · refine wa_iload B dX12_readAmount_186 0 rfl ?_
                  refine wa_if_eq B 237 dX12_readAmount_188 (by decide) (fun (t_48 : v_23.toInt = 0) => ?_) (fun (t_48 : ¬ v_23.toInt = 0) => ?_)
                  · refine wa_aload_n B dX12_readAmount_237 rfl 7 rfl ?_
                    refine wa_iconst B 3 dX12_readAmount_238 (by decide) ?_
                    refine wa_callVi B (x := (RX12, TX12, 51)) (As := [.int 3]) (rest := []) (k_X12_bad l dC dI h L hN q_24 hV_q_24 (a0 := a0) ha0 ka0 3  ) (cwV 1 B.1.2.2.2.2 gX12_readAmount_X12_bad rfl rfl rfl (by decide +kernel) ⟨Nat.le_of_ble_eq_true rfl, Nat.le_of_ble_eq_true rfl⟩) ha0 ka0 (by decide) rfl rfl rfl (Nat.le_of_ble_eq_true rfl) dX12_readAmount_239 (fun r_50 q_49 w_51 => ?_)
                    obtain ⟨hV_q_49, h2_q_49, h3_q_49, hw_51⟩ := w_51
                    have hF_q_49 : sx_fr h L (fun a => h.1 a = 12 ∨ h.1 a = 135 ∨ h.1 a = 138 ∨ h.1 a = 139 ∨ h.1 a = 140 ∨ h.1 a = 136 ∨ h.1 a = 137) q q_49 := hF_q_24.tr (h2_q_49.mono (fun a (z : h.1 a = 12) => (show h.1 a = 12 ∨ h.1 a = 135 ∨ h.1 a = 138 ∨ h.1 a = 139 ∨ h.1 a = 140 ∨ h.1 a = 136 ∨ h.1 a = 137 from by omega)))
                    have hK_q_49 : sx_kf a0 [6, 7, 8, 9, 11, 12, 13, 14, 15, 32, 33] q q_49 := hK_q_24.tr (h3_q_49.mono (by decide))
                    have mN_q_49 : mv_N a0 q_49 := mv_N.eq (h3_q_49.1 8 (by decide)) (h3_q_49.2 11 (by decide)) mN_q_24
                    have mS_q_49 : mv_S m23 m26 m28 m29 q_49 := mv_S.eq (h2_q_49.G hm23 (show ¬ (h.1 m23 = 12) from by omega) (by rw [km23]; decide)) (h2_q_49.G hm26 (show ¬ (h.1 m26 = 12) from by omega) (by rw [km26]; decide)) (h2_q_49.G hm28 (show ¬ (h.1 m28 = 12) from by omega) (by rw [km28]; decide)) (h2_q_49.G hm29 (show ¬ (h.1 m29 = 12) from by omega) (by rw [km29]; decide)) mS_q_24
                    exact hret _ _ _ _ dX12_readAmount_242 (zx_01 (by omega)) ⟨hV_q_49, hF_q_49, hK_q_49, mN_q_49, mS_q_49, (Or.inr (by omega))⟩
                  · refine wa_aload_n B dX12_readAmount_191 rfl 7 rfl ?_
                    refine wa_getR B (C := RX12) (T := TX12) (N := 51) iq_X12_readAmount_X12 ha0 ka0 (by decide) rfl 26 (by decide) (by decide) (by decide +kernel) rfl (fun _ _ _ => rfl) (v := m26) p8_q_24 dX12_readAmount_192 ?_
                    refine wa_iload_n B dX12_readAmount_195 rfl 9 rfl ?_
                    have z_52 : q_24.2.2.2.1 m26 (n2 : Int32).toNatClampNeg = (q.2.2.2.1 m26 (n2 : Int32).toNatClampNeg) := congrFun p17_q_24 _
                    refine wa_iaload B hm26 km26 (by decide) (by decide) (show 0 ≤ n2.toInt by omega) (show n2.toInt < (h.2.1 m26 : Int) by omega) (v := (q.2.2.2.1 m26 (n2 : Int32).toNatClampNeg)) z_52 dX12_readAmount_196 ?_
                    have g_53 : (0 : Int) ≤ ((q.2.2.2.1 m26 (n2 : Int32).toNatClampNeg)).toInt ∧ ((q.2.2.2.1 m26 (n2 : Int32).toNatClampNeg)).toInt ≤ 5 := by rw [← z_52]; exact hV_q_24.cnt hm26 km26 _
                    have g_54 : (0 : Int) ≤ (q_24.1 a0 33).toInt ∧ (q_24.1 a0 33).toInt ≤ 4 := hV_q_24.int ha0 ka0 33
                    have Jn_243_56 : ∀ (_ : Unit), (q_24.1 a0 33).toInt + (q.2.2.2.1 m26 (n2).toNatClampNeg).toInt + 1 ≤ 5 → WA l dC dI h L ({ frames := 3, cells := 0, slots := 0, locals := 65 } : Room) 11 Z q_24 243 [(9, .int v_23), (8, .int v_20), (7, .int v_11), (6, .int v_4), (5, .int (q.1 a0 13)), (4, .int (q.1 a0 12)), (3, .int (q.1 a0 7)), (0, .ref a0), (1, .int n1), (2, .int n2)] [] := by
                      intro _ x_55
                      refine wa_iconst B 5 dX12_readAmount_243 (by decide) ?_
                      refine wa_iload_n B dX12_readAmount_244 rfl 9 rfl ?_
                      refine wa_imul B dX12_readAmount_245 (fun v_57 ev_57 => ?_)
                      refine wa_aload_n B dX12_readAmount_246 rfl 7 rfl ?_
                      refine wa_getR B (C := RX12) (T := TX12) (N := 51) iq_X12_readAmount_X12 ha0 ka0 (by decide) rfl 26 (by decide) (by decide) (by decide +kernel) rfl (fun _ _ _ => rfl) (v := m26) p8_q_24 dX12_readAmount_247 ?_
                      refine wa_iload_n B dX12_readAmount_250 rfl 9 rfl ?_
                      refine wa_iaload B hm26 km26 (by decide) (by decide) (show 0 ≤ n2.toInt by omega) (show n2.toInt < (h.2.1 m26 : Int) by omega) (v := (q.2.2.2.1 m26 (n2 : Int32).toNatClampNeg)) z_52 dX12_readAmount_251 ?_
                      refine wa_iadd B dX12_readAmount_252 (fun v_58 ev_58 => ?_)
                      refine wa_istore B [(10, .int v_58), (9, .int v_23), (8, .int v_20), (7, .int v_11), (6, .int v_4), (5, .int (q.1 a0 13)), (4, .int (q.1 a0 12)), (3, .int (q.1 a0 7)), (0, .ref a0), (1, .int n1), (2, .int n2)] dX12_readAmount_253 (by decide) rfl ?_
                      refine wa_aload_n B dX12_readAmount_255 rfl 8 rfl ?_
                      refine wa_getR B (C := RX12) (T := TX12) (N := 51) iq_X12_readAmount_X12 ha0 ka0 (by decide) rfl 25 (by decide) (by decide) (by decide +kernel) rfl (fun _ _ _ => rfl) (v := m25) p7_q_24 dX12_readAmount_256 ?_
                      refine wa_iload_n B dX12_readAmount_259 rfl 10 rfl ?_
                      refine wa_aload_n B dX12_readAmount_260 rfl 8 rfl ?_
                      refine wa_getI B (C := RX12) (T := TX12) (N := 51) iq_X12_readAmount_X12 ha0 ka0 (by decide) rfl 32 (by decide) (by decide) (by decide +kernel) rfl (by decide) (v := (q_24.1 a0 32)) rfl dX12_readAmount_261 ?_
                      have g_59 : (0 : Int) ≤ (q_24.1 a0 32).toInt ∧ (q_24.1 a0 32).toInt ≤ 2 := hV_q_24.int ha0 ka0 32
                      refine wa_iastore B hm25 km25 (by decide) (by decide) (show 0 ≤ n2.toInt by omega) (show n2.toInt < (h.2.1 m25 : Int) by omega) dX12_readAmount_264 (fun q_60 eq_60 => ?_)
                      have hV_q_60 : sx_V h L q_60 := by rw [eq_60]; exact hV_q_24.up1 hm25 km25 (show sx_in (q_24.1 a0 32) (0) 2 from ⟨by omega, by omega⟩)
                      have hF_q_60 : sx_fr h L (fun a => h.1 a = 12 ∨ h.1 a = 135 ∨ h.1 a = 138 ∨ h.1 a = 139 ∨ h.1 a = 140 ∨ h.1 a = 136 ∨ h.1 a = 137) q q_60 := hF_q_24.tr (by rw [eq_60]; exact sx_fr.pG (show h.1 m25 = 100 ∨ (h.1 m25 = 12 ∨ h.1 m25 = 135 ∨ h.1 m25 = 138 ∨ h.1 m25 = 139 ∨ h.1 m25 = 140 ∨ h.1 m25 = 136 ∨ h.1 m25 = 137) from by omega))
                      have z_61 : q_60.2.2.2.1 m25 = (upd (q.2.2.2.1 m25) (n2 : Int32).toNatClampNeg (q_24.1 a0 32)) := by rw [eq_60, sg_pG_e, p16_q_24]
                      have z_62 : q_60.2.2.2.1 m25 (n2 : Int32).toNatClampNeg = (q_24.1 a0 32) := by rw [eq_60, sg_pG_e]; exact if_pos rfl
                      have hK_q_60 : sx_kf a0 [6, 7, 8, 9, 11, 12, 13, 14, 15, 32, 33] q q_60 := hK_q_24.tr (sx_kf.eq (by rw [eq_60]; rfl) (by rw [eq_60]; rfl))
                      have mN_q_60 : mv_N a0 q_60 := mv_N.eq ((show q_60.1 a0 8 = q_24.1 a0 8 from by rw [eq_60]; rfl)) ((show q_60.2.1 a0 11 = q_24.2.1 a0 11 from by rw [eq_60]; rfl)) mN_q_24
                      have mS_q_60 : mv_S m23 m26 m28 m29 q_60 := mv_S.eq ((show q_60.2.2.2.1 m23 = q_24.2.2.2.1 m23 from by rw [eq_60]; exact sg_pG_a (sx_ka h km23 km25 (by decide)))) ((show q_60.2.2.2.1 m26 = q_24.2.2.2.1 m26 from by rw [eq_60]; exact sg_pG_a (sx_ka h km26 km25 (by decide)))) ((show q_60.2.2.2.1 m28 = q_24.2.2.2.1 m28 from by rw [eq_60]; exact sg_pG_a (sx_ka h km28 km25 (by decide)))) ((show q_60.2.2.2.1 m29 = q_24.2.2.2.1 m29 from by rw [eq_60]; exact sg_pG_a (sx_ka h km29 km25 (by decide)))) mS_q_24
                      refine wa_aload_n B dX12_readAmount_265 rfl 8 rfl ?_
                      have z_63 : q_60.2.2.1 a0 28 = m28 := ((show q_60.2.2.1 a0 28 = q_24.2.2.1 a0 28 from by rw [eq_60]; rfl)).trans (p10_q_24)
                      refine wa_getR B (C := RX12) (T := TX12) (N := 51) iq_X12_readAmount_X12 ha0 ka0 (by decide) rfl 28 (by decide) (by decide) (by decide +kernel) rfl (fun _ _ _ => rfl) (v := m28) z_63 dX12_readAmount_266 ?_
                      refine wa_iload B dX12_readAmount_269 0 rfl ?_
                      refine wa_iload B dX12_readAmount_271 6 rfl ?_
                      have tv_57 : v_57.toInt = 5 * n2.toInt := by have b1 := zx_bd n2; rw [ev_57]; exact zx_mul (show (-2147483648 : Int) ≤ 5 * n2.toInt by omega) (show 5 * n2.toInt < (2147483648 : Int) by omega)
                      have tv_58 : v_58.toInt = v_57.toInt + ((q.2.2.2.1 m26 (n2 : Int32).toNatClampNeg)).toInt := by have b0 := zx_bd v_57; have b1 := zx_bd ((q.2.2.2.1 m26 (n2 : Int32).toNatClampNeg)); rw [ev_58]; exact zx_add (show (-2147483648 : Int) ≤ v_57.toInt + ((q.2.2.2.1 m26 (n2 : Int32).toNatClampNeg)).toInt by omega) (show v_57.toInt + ((q.2.2.2.1 m26 (n2 : Int32).toNatClampNeg)).toInt < (2147483648 : Int) by omega)
                      refine wa_iastore B hm28 km28 (by decide) (by decide) (show 0 ≤ v_58.toInt by omega) (show v_58.toInt < (h.2.1 m28 : Int) by omega) dX12_readAmount_273 (fun q_64 eq_64 => ?_)
                      have hV_q_64 : sx_V h L q_64 := by rw [eq_64]; exact hV_q_60.up1 hm28 km28 trivial
                      have hF_q_64 : sx_fr h L (fun a => h.1 a = 12 ∨ h.1 a = 135 ∨ h.1 a = 138 ∨ h.1 a = 139 ∨ h.1 a = 140 ∨ h.1 a = 136 ∨ h.1 a = 137) q q_64 := hF_q_60.tr (by rw [eq_64]; exact sx_fr.pG (show h.1 m28 = 100 ∨ (h.1 m28 = 12 ∨ h.1 m28 = 135 ∨ h.1 m28 = 138 ∨ h.1 m28 = 139 ∨ h.1 m28 = 140 ∨ h.1 m28 = 136 ∨ h.1 m28 = 137) from by omega))
                      have z_65 : q_60.2.2.2.1 m28 = (q.2.2.2.1 m28) := ((show q_60.2.2.2.1 m28 = q_24.2.2.2.1 m28 from by rw [eq_60]; exact sg_pG_a (sx_ka h km28 km25 (by decide)))).trans (p19_q_24)
                      have z_66 : q_64.2.2.2.1 m28 = (upd (q.2.2.2.1 m28) (v_58 : Int32).toNatClampNeg (q.1 a0 12)) := by rw [eq_64, sg_pG_e, z_65]
                      have z_67 : q_64.2.2.2.1 m28 (v_58 : Int32).toNatClampNeg = (q.1 a0 12) := by rw [eq_64, sg_pG_e]; exact if_pos rfl
                      have hK_q_64 : sx_kf a0 [6, 7, 8, 9, 11, 12, 13, 14, 15, 32, 33] q q_64 := hK_q_60.tr (sx_kf.eq (by rw [eq_64]; rfl) (by rw [eq_64]; rfl))
                      have mN_q_64 : mv_N a0 q_64 := mv_N.eq ((show q_64.1 a0 8 = q_60.1 a0 8 from by rw [eq_64]; rfl)) ((show q_64.2.1 a0 11 = q_60.2.1 a0 11 from by rw [eq_64]; rfl)) mN_q_60
                      refine wa_aload_n B dX12_readAmount_274 rfl 8 rfl ?_
                      have z_68 : q_64.2.2.1 a0 29 = m29 := ((show q_64.2.2.1 a0 29 = q_60.2.2.1 a0 29 from by rw [eq_64]; rfl)).trans (((show q_60.2.2.1 a0 29 = q_24.2.2.1 a0 29 from by rw [eq_60]; rfl)).trans (p11_q_24))
                      refine wa_getR B (C := RX12) (T := TX12) (N := 51) iq_X12_readAmount_X12 ha0 ka0 (by decide) rfl 29 (by decide) (by decide) (by decide +kernel) rfl (fun _ _ _ => rfl) (v := m29) z_68 dX12_readAmount_275 ?_
                      refine wa_iload B dX12_readAmount_278 0 rfl ?_
                      refine wa_iload B dX12_readAmount_280 5 rfl ?_
                      refine wa_iastore B hm29 km29 (by decide) (by decide) (show 0 ≤ v_58.toInt by omega) (show v_58.toInt < (h.2.1 m29 : Int) by omega) dX12_readAmount_282 (fun q_69 eq_69 => ?_)
                      have hV_q_69 : sx_V h L q_69 := by rw [eq_69]; exact hV_q_64.up1 hm29 km29 trivial
                      have hF_q_69 : sx_fr h L (fun a => h.1 a = 12 ∨ h.1 a = 135 ∨ h.1 a = 138 ∨ h.1 a = 139 ∨ h.1 a = 140 ∨ h.1 a = 136 ∨ h.1 a = 137) q q_69 := hF_q_64.tr (by rw [eq_69]; exact sx_fr.pG (show h.1 m29 = 100 ∨ (h.1 m29 = 12 ∨ h.1 m29 = 135 ∨ h.1 m29 = 138 ∨ h.1 m29 = 139 ∨ h.1 m29 = 140 ∨ h.1 m29 = 136 ∨ h.1 m29 = 137) from by omega))
                      have z_70 : q_64.2.2.2.1 m29 = (q.2.2.2.1 m29) := ((show q_64.2.2.2.1 m29 = q_60.2.2.2.1 m29 from by rw [eq_64]; exact sg_pG_a (sx_ka h km29 km28 (by decide)))).trans (((show q_60.2.2.2.1 m29 = q_24.2.2.2.1 m29 from by rw [eq_60]; exact sg_pG_a (sx_ka h km29 km25 (by decide)))).trans (p20_q_24))
                      have z_71 : q_69.2.2.2.1 m29 = (upd (q.2.2.2.1 m29) (v_58 : Int32).toNatClampNeg (q.1 a0 13)) := by rw [eq_69, sg_pG_e, z_70]
                      have z_72 : q_69.2.2.2.1 m29 (v_58 : Int32).toNatClampNeg = (q.1 a0 13) := by rw [eq_69, sg_pG_e]; exact if_pos rfl
                      have hK_q_69 : sx_kf a0 [6, 7, 8, 9, 11, 12, 13, 14, 15, 32, 33] q q_69 := hK_q_64.tr (sx_kf.eq (by rw [eq_69]; rfl) (by rw [eq_69]; rfl))
                      have mN_q_69 : mv_N a0 q_69 := mv_N.eq ((show q_69.1 a0 8 = q_64.1 a0 8 from by rw [eq_69]; rfl)) ((show q_69.2.1 a0 11 = q_64.2.1 a0 11 from by rw [eq_69]; rfl)) mN_q_64
                      refine wa_aload_n B dX12_readAmount_283 rfl 8 rfl ?_
                      have z_73 : q_69.2.2.1 a0 30 = m30 := ((show q_69.2.2.1 a0 30 = q_64.2.2.1 a0 30 from by rw [eq_69]; rfl)).trans (((show q_64.2.2.1 a0 30 = q_60.2.2.1 a0 30 from by rw [eq_64]; rfl)).trans (((show q_60.2.2.1 a0 30 = q_24.2.2.1 a0 30 from by rw [eq_60]; rfl)).trans (p12_q_24)))
                      refine wa_getR B (C := RX12) (T := TX12) (N := 51) iq_X12_readAmount_X12 ha0 ka0 (by decide) rfl 30 (by decide) (by decide) (by decide +kernel) rfl (fun _ _ _ => rfl) (v := m30) z_73 dX12_readAmount_284 ?_
                      refine wa_iload B dX12_readAmount_287 0 rfl ?_
                      refine wa_aload_n B dX12_readAmount_289 rfl 8 rfl ?_
                      have z_74 : q_69.1 a0 33 = q_24.1 a0 33 := ((show q_69.1 a0 33 = q_64.1 a0 33 from by rw [eq_69]; rfl)).trans (((show q_64.1 a0 33 = q_60.1 a0 33 from by rw [eq_64]; rfl)).trans ((show q_60.1 a0 33 = q_24.1 a0 33 from by rw [eq_60]; rfl)))
                      refine wa_getI B (C := RX12) (T := TX12) (N := 51) iq_X12_readAmount_X12 ha0 ka0 (by decide) rfl 33 (by decide) (by decide) (by decide +kernel) rfl (by decide) (v := (q_24.1 a0 33)) z_74 dX12_readAmount_290 ?_
                      refine wa_iastore B hm30 km30 (by decide) (by decide) (show 0 ≤ v_58.toInt by omega) (show v_58.toInt < (h.2.1 m30 : Int) by omega) dX12_readAmount_293 (fun q_75 eq_75 => ?_)
                      have hV_q_75 : sx_V h L q_75 := by rw [eq_75]; exact hV_q_69.up1 hm30 km30 (show sx_in (q_24.1 a0 33) (0) 4 from ⟨by omega, by omega⟩)
                      have hF_q_75 : sx_fr h L (fun a => h.1 a = 12 ∨ h.1 a = 135 ∨ h.1 a = 138 ∨ h.1 a = 139 ∨ h.1 a = 140 ∨ h.1 a = 136 ∨ h.1 a = 137) q q_75 := hF_q_69.tr (by rw [eq_75]; exact sx_fr.pG (show h.1 m30 = 100 ∨ (h.1 m30 = 12 ∨ h.1 m30 = 135 ∨ h.1 m30 = 138 ∨ h.1 m30 = 139 ∨ h.1 m30 = 140 ∨ h.1 m30 = 136 ∨ h.1 m30 = 137) from by omega))
                      have z_76 : q_69.2.2.2.1 m30 = (q.2.2.2.1 m30) := ((show q_69.2.2.2.1 m30 = q_64.2.2.2.1 m30 from by rw [eq_69]; exact sg_pG_a (sx_ka h km30 km29 (by decide)))).trans (((show q_64.2.2.2.1 m30 = q_60.2.2.2.1 m30 from by rw [eq_64]; exact sg_pG_a (sx_ka h km30 km28 (by decide)))).trans (((show q_60.2.2.2.1 m30 = q_24.2.2.2.1 m30 from by rw [eq_60]; exact sg_pG_a (sx_ka h km30 km25 (by decide)))).trans (p21_q_24)))
                      have z_77 : q_75.2.2.2.1 m30 = (upd (q.2.2.2.1 m30) (v_58 : Int32).toNatClampNeg (q_24.1 a0 33)) := by rw [eq_75, sg_pG_e, z_76]
                      have z_78 : q_75.2.2.2.1 m30 (v_58 : Int32).toNatClampNeg = (q_24.1 a0 33) := by rw [eq_75, sg_pG_e]; exact if_pos rfl
                      have hK_q_75 : sx_kf a0 [6, 7, 8, 9, 11, 12, 13, 14, 15, 32, 33] q q_75 := hK_q_69.tr (sx_kf.eq (by rw [eq_75]; rfl) (by rw [eq_75]; rfl))
                      have mN_q_75 : mv_N a0 q_75 := mv_N.eq ((show q_75.1 a0 8 = q_69.1 a0 8 from by rw [eq_75]; rfl)) ((show q_75.2.1 a0 11 = q_69.2.1 a0 11 from by rw [eq_75]; rfl)) mN_q_69
                      refine wa_aload_n B dX12_readAmount_294 rfl 8 rfl ?_
                      have z_79 : q_75.2.2.1 a0 26 = m26 := ((show q_75.2.2.1 a0 26 = q_69.2.2.1 a0 26 from by rw [eq_75]; rfl)).trans (((show q_69.2.2.1 a0 26 = q_64.2.2.1 a0 26 from by rw [eq_69]; rfl)).trans (((show q_64.2.2.1 a0 26 = q_60.2.2.1 a0 26 from by rw [eq_64]; rfl)).trans (((show q_60.2.2.1 a0 26 = q_24.2.2.1 a0 26 from by rw [eq_60]; rfl)).trans (p8_q_24))))
                      refine wa_getR B (C := RX12) (T := TX12) (N := 51) iq_X12_readAmount_X12 ha0 ka0 (by decide) rfl 26 (by decide) (by decide) (by decide +kernel) rfl (fun _ _ _ => rfl) (v := m26) z_79 dX12_readAmount_295 ?_
                      refine wa_iload_n B dX12_readAmount_298 rfl 10 rfl ?_
                      refine wa_dup2 B dX12_readAmount_299 rfl rfl ?_
                      have z_80 : q_75.2.2.2.1 m26 (n2 : Int32).toNatClampNeg = (q.2.2.2.1 m26 (n2 : Int32).toNatClampNeg) := (congrFun (((show q_75.2.2.2.1 m26 = q_69.2.2.2.1 m26 from by rw [eq_75]; exact sg_pG_a (sx_ka h km26 km30 (by decide)))).trans (((show q_69.2.2.2.1 m26 = q_64.2.2.2.1 m26 from by rw [eq_69]; exact sg_pG_a (sx_ka h km26 km29 (by decide)))).trans (((show q_64.2.2.2.1 m26 = q_60.2.2.2.1 m26 from by rw [eq_64]; exact sg_pG_a (sx_ka h km26 km28 (by decide)))).trans ((show q_60.2.2.2.1 m26 = q_24.2.2.2.1 m26 from by rw [eq_60]; exact sg_pG_a (sx_ka h km26 km25 (by decide))))))) _).trans z_52
                      refine wa_iaload B hm26 km26 (by decide) (by decide) (show 0 ≤ n2.toInt by omega) (show n2.toInt < (h.2.1 m26 : Int) by omega) (v := (q.2.2.2.1 m26 (n2 : Int32).toNatClampNeg)) z_80 dX12_readAmount_300 ?_
                      refine wa_iconst B 1 dX12_readAmount_301 (by decide) ?_
                      refine wa_iadd B dX12_readAmount_302 (fun v_81 ev_81 => ?_)
                      refine wa_iastore B hm26 km26 (by decide) (by decide) (show 0 ≤ n2.toInt by omega) (show n2.toInt < (h.2.1 m26 : Int) by omega) dX12_readAmount_303 (fun q_82 eq_82 => ?_)
                      have tv_81 : v_81.toInt = ((q.2.2.2.1 m26 (n2 : Int32).toNatClampNeg)).toInt + 1 := by have b0 := zx_bd ((q.2.2.2.1 m26 (n2 : Int32).toNatClampNeg)); rw [ev_81]; exact zx_add (show (-2147483648 : Int) ≤ ((q.2.2.2.1 m26 (n2 : Int32).toNatClampNeg)).toInt + 1 by omega) (show ((q.2.2.2.1 m26 (n2 : Int32).toNatClampNeg)).toInt + 1 < (2147483648 : Int) by omega)
                      have hV_q_82 : sx_V h L q_82 := by rw [eq_82]; exact hV_q_75.up1 hm26 km26 (show sx_in v_81 (0) 5 from ⟨by omega, by omega⟩)
                      have hF_q_82 : sx_fr h L (fun a => h.1 a = 12 ∨ h.1 a = 135 ∨ h.1 a = 138 ∨ h.1 a = 139 ∨ h.1 a = 140 ∨ h.1 a = 136 ∨ h.1 a = 137) q q_82 := hF_q_75.tr (by rw [eq_82]; exact sx_fr.pG (show h.1 m26 = 100 ∨ (h.1 m26 = 12 ∨ h.1 m26 = 135 ∨ h.1 m26 = 138 ∨ h.1 m26 = 139 ∨ h.1 m26 = 140 ∨ h.1 m26 = 136 ∨ h.1 m26 = 137) from by omega))
                      have z_83 : q_75.2.2.2.1 m26 = (q.2.2.2.1 m26) := ((show q_75.2.2.2.1 m26 = q_69.2.2.2.1 m26 from by rw [eq_75]; exact sg_pG_a (sx_ka h km26 km30 (by decide)))).trans (((show q_69.2.2.2.1 m26 = q_64.2.2.2.1 m26 from by rw [eq_69]; exact sg_pG_a (sx_ka h km26 km29 (by decide)))).trans (((show q_64.2.2.2.1 m26 = q_60.2.2.2.1 m26 from by rw [eq_64]; exact sg_pG_a (sx_ka h km26 km28 (by decide)))).trans (((show q_60.2.2.2.1 m26 = q_24.2.2.2.1 m26 from by rw [eq_60]; exact sg_pG_a (sx_ka h km26 km25 (by decide)))).trans (p17_q_24))))
                      have z_84 : q_82.2.2.2.1 m26 = (upd (q.2.2.2.1 m26) (n2 : Int32).toNatClampNeg v_81) := by rw [eq_82, sg_pG_e, z_83]
                      have z_85 : q_82.2.2.2.1 m26 (n2 : Int32).toNatClampNeg = v_81 := by rw [eq_82, sg_pG_e]; exact if_pos rfl
                      have hK_q_82 : sx_kf a0 [6, 7, 8, 9, 11, 12, 13, 14, 15, 32, 33] q q_82 := hK_q_75.tr (sx_kf.eq (by rw [eq_82]; rfl) (by rw [eq_82]; rfl))
                      have mN_q_82 : mv_N a0 q_82 := mv_N.eq ((show q_82.1 a0 8 = q_75.1 a0 8 from by rw [eq_82]; rfl)) ((show q_82.2.1 a0 11 = q_75.2.1 a0 11 from by rw [eq_82]; rfl)) mN_q_75
                      refine wa_aload_n B dX12_readAmount_304 rfl 8 rfl ?_
                      have z_86 : q_82.2.2.1 a0 27 = m27 := ((show q_82.2.2.1 a0 27 = q_75.2.2.1 a0 27 from by rw [eq_82]; rfl)).trans (((show q_75.2.2.1 a0 27 = q_69.2.2.1 a0 27 from by rw [eq_75]; rfl)).trans (((show q_69.2.2.1 a0 27 = q_64.2.2.1 a0 27 from by rw [eq_69]; rfl)).trans (((show q_64.2.2.1 a0 27 = q_60.2.2.1 a0 27 from by rw [eq_64]; rfl)).trans (((show q_60.2.2.1 a0 27 = q_24.2.2.1 a0 27 from by rw [eq_60]; rfl)).trans (p9_q_24)))))
                      refine wa_getR B (C := RX12) (T := TX12) (N := 51) iq_X12_readAmount_X12 ha0 ka0 (by decide) rfl 27 (by decide) (by decide) (by decide +kernel) rfl (fun _ _ _ => rfl) (v := m27) z_86 dX12_readAmount_305 ?_
                      refine wa_iload_n B dX12_readAmount_308 rfl 9 rfl ?_
                      refine wa_dup2 B dX12_readAmount_309 rfl rfl ?_
                      have z_87 : q_82.2.2.2.1 m27 = (q.2.2.2.1 m27) := ((show q_82.2.2.2.1 m27 = q_75.2.2.2.1 m27 from by rw [eq_82]; exact sg_pG_a (sx_ka h km27 km26 (by decide)))).trans (((show q_75.2.2.2.1 m27 = q_69.2.2.2.1 m27 from by rw [eq_75]; exact sg_pG_a (sx_ka h km27 km30 (by decide)))).trans (((show q_69.2.2.2.1 m27 = q_64.2.2.2.1 m27 from by rw [eq_69]; exact sg_pG_a (sx_ka h km27 km29 (by decide)))).trans (((show q_64.2.2.2.1 m27 = q_60.2.2.2.1 m27 from by rw [eq_64]; exact sg_pG_a (sx_ka h km27 km28 (by decide)))).trans (((show q_60.2.2.2.1 m27 = q_24.2.2.2.1 m27 from by rw [eq_60]; exact sg_pG_a (sx_ka h km27 km25 (by decide)))).trans (p18_q_24)))))
                      have z_88 : q_82.2.2.2.1 m27 (n1 : Int32).toNatClampNeg = (q.2.2.2.1 m27 (n1 : Int32).toNatClampNeg) := congrFun z_87 _
                      refine wa_iaload B hm27 km27 (by decide) (by decide) (show 0 ≤ n1.toInt by omega) (show n1.toInt < (h.2.1 m27 : Int) by omega) (v := (q.2.2.2.1 m27 (n1 : Int32).toNatClampNeg)) z_88 dX12_readAmount_310 ?_
                      refine wa_iload B dX12_readAmount_311 4 rfl ?_
                      refine wa_iadd B dX12_readAmount_313 (fun v_89 ev_89 => ?_)
                      refine wa_iastore B hm27 km27 (by decide) (by decide) (show 0 ≤ n1.toInt by omega) (show n1.toInt < (h.2.1 m27 : Int) by omega) dX12_readAmount_314 (fun q_90 eq_90 => ?_)
                      have tv_89 : v_89.toInt = ((q.2.2.2.1 m27 (n1 : Int32).toNatClampNeg)).toInt + v_4.toInt := by have b0 := zx_bd ((q.2.2.2.1 m27 (n1 : Int32).toNatClampNeg)); have b1 := zx_bd v_4; rw [ev_89]; exact zx_add (show (-2147483648 : Int) ≤ ((q.2.2.2.1 m27 (n1 : Int32).toNatClampNeg)).toInt + v_4.toInt by omega) (show ((q.2.2.2.1 m27 (n1 : Int32).toNatClampNeg)).toInt + v_4.toInt < (2147483648 : Int) by omega)
                      have hV_q_90 : sx_V h L q_90 := by rw [eq_90]; exact hV_q_82.up1 hm27 km27 (show sx_in v_89 (0) 4 from ⟨by omega, by omega⟩)
                      have hF_q_90 : sx_fr h L (fun a => h.1 a = 12 ∨ h.1 a = 135 ∨ h.1 a = 138 ∨ h.1 a = 139 ∨ h.1 a = 140 ∨ h.1 a = 136 ∨ h.1 a = 137) q q_90 := hF_q_82.tr (by rw [eq_90]; exact sx_fr.pG (show h.1 m27 = 100 ∨ (h.1 m27 = 12 ∨ h.1 m27 = 135 ∨ h.1 m27 = 138 ∨ h.1 m27 = 139 ∨ h.1 m27 = 140 ∨ h.1 m27 = 136 ∨ h.1 m27 = 137) from by omega))
                      have z_91 : q_90.2.2.2.1 m27 = (upd (q.2.2.2.1 m27) (n1 : Int32).toNatClampNeg v_89) := by rw [eq_90, sg_pG_e, z_87]
                      have z_92 : q_90.2.2.2.1 m27 (n1 : Int32).toNatClampNeg = v_89 := by rw [eq_90, sg_pG_e]; exact if_pos rfl
                      have hK_q_90 : sx_kf a0 [6, 7, 8, 9, 11, 12, 13, 14, 15, 32, 33] q q_90 := hK_q_82.tr (sx_kf.eq (by rw [eq_90]; rfl) (by rw [eq_90]; rfl))
                      have mN_q_90 : mv_N a0 q_90 := mv_N.eq ((show q_90.1 a0 8 = q_82.1 a0 8 from by rw [eq_90]; rfl)) ((show q_90.2.1 a0 11 = q_82.2.1 a0 11 from by rw [eq_90]; rfl)) mN_q_82
                      refine wa_aload_n B dX12_readAmount_315 rfl 8 rfl ?_
                      have z_93 : q_90.2.2.2.1 m28 = (upd (q.2.2.2.1 m28) (v_58 : Int32).toNatClampNeg (q.1 a0 12)) := ((show q_90.2.2.2.1 m28 = q_82.2.2.2.1 m28 from by rw [eq_90]; exact sg_pG_a (sx_ka h km28 km27 (by decide)))).trans (((show q_82.2.2.2.1 m28 = q_75.2.2.2.1 m28 from by rw [eq_82]; exact sg_pG_a (sx_ka h km28 km26 (by decide)))).trans (((show q_75.2.2.2.1 m28 = q_69.2.2.2.1 m28 from by rw [eq_75]; exact sg_pG_a (sx_ka h km28 km30 (by decide)))).trans (((show q_69.2.2.2.1 m28 = q_64.2.2.2.1 m28 from by rw [eq_69]; exact sg_pG_a (sx_ka h km28 km29 (by decide)))).trans (z_66))))
                      have z_94 : q_90.2.2.2.1 m29 = (upd (q.2.2.2.1 m29) (v_58 : Int32).toNatClampNeg (q.1 a0 13)) := ((show q_90.2.2.2.1 m29 = q_82.2.2.2.1 m29 from by rw [eq_90]; exact sg_pG_a (sx_ka h km29 km27 (by decide)))).trans (((show q_82.2.2.2.1 m29 = q_75.2.2.2.1 m29 from by rw [eq_82]; exact sg_pG_a (sx_ka h km29 km26 (by decide)))).trans (((show q_75.2.2.2.1 m29 = q_69.2.2.2.1 m29 from by rw [eq_75]; exact sg_pG_a (sx_ka h km29 km30 (by decide)))).trans (z_71)))
                      have z_95 : q_90.2.2.2.1 m30 = (upd (q.2.2.2.1 m30) (v_58 : Int32).toNatClampNeg (q_24.1 a0 33)) := ((show q_90.2.2.2.1 m30 = q_82.2.2.2.1 m30 from by rw [eq_90]; exact sg_pG_a (sx_ka h km30 km27 (by decide)))).trans (((show q_82.2.2.2.1 m30 = q_75.2.2.2.1 m30 from by rw [eq_82]; exact sg_pG_a (sx_ka h km30 km26 (by decide)))).trans (z_77))
                      have z_96 : q_90.2.2.2.1 m26 = (upd (q.2.2.2.1 m26) (n2 : Int32).toNatClampNeg v_81) := ((show q_90.2.2.2.1 m26 = q_82.2.2.2.1 m26 from by rw [eq_90]; exact sg_pG_a (sx_ka h km26 km27 (by decide)))).trans (z_84)
                      have z_97 : q_90.2.2.2.1 m23 = (q.2.2.2.1 m23) := ((show q_90.2.2.2.1 m23 = q_82.2.2.2.1 m23 from by rw [eq_90]; exact sg_pG_a (sx_ka h km23 km27 (by decide)))).trans (((show q_82.2.2.2.1 m23 = q_75.2.2.2.1 m23 from by rw [eq_82]; exact sg_pG_a (sx_ka h km23 km26 (by decide)))).trans (((show q_75.2.2.2.1 m23 = q_69.2.2.2.1 m23 from by rw [eq_75]; exact sg_pG_a (sx_ka h km23 km30 (by decide)))).trans (((show q_69.2.2.2.1 m23 = q_64.2.2.2.1 m23 from by rw [eq_69]; exact sg_pG_a (sx_ka h km23 km29 (by decide)))).trans (((show q_64.2.2.2.1 m23 = q_60.2.2.2.1 m23 from by rw [eq_64]; exact sg_pG_a (sx_ka h km23 km28 (by decide)))).trans (((show q_60.2.2.2.1 m23 = q_24.2.2.2.1 m23 from by rw [eq_60]; exact sg_pG_a (sx_ka h km23 km25 (by decide)))).trans (p15_q_24))))))
                      have hst := mv_step (d1 := (q.2.2.2.1 m28)) (d2 := (q.2.2.2.1 m29)) (am := (q.2.2.2.1 m26)) (as := (q.2.2.2.1 m27)) (lm := (q.2.2.2.1 m23)) (uo := (q.2.2.2.1 m30)) (t := n1.toNatClampNeg) (ln := n2.toNatClampNeg) (m := (v_58 : Int32).toNatClampNeg) (a := (q.1 a0 12)) (b := (q.1 a0 13)) (un := (q_24.1 a0 33)) (x := v_81) (y := v_89) (by have a9 := zx_nc n1; have a8 := zx_nc n2; omega) (by omega) (fun j => (hV.cnt hm23 km23 j : sx_in _ 0 12)) (fun j => (hV.cnt hm26 km26 j : sx_in _ 0 5)) (by have a9 := zx_nc n2; have a8 := zx_nc v_58; omega) (by omega) (by omega) (by omega) (by omega) hyR (mS.f rfl rfl rfl rfl)
                      have mS_98 : mv_S m23 m26 m28 m29 q_90 := hst.2.2.S z_97 z_96 z_93 z_94
                      refine wa_callVv B (x := (RX12, TX12, 51)) (As := []) (rest := []) (k_X12_go l dC dI h L hN q_90 hV_q_90 (a0 := a0) ha0 ka0  ) (cwV 0 B.1.2.2.2.2 gX12_readAmount_X12_go rfl rfl rfl (by decide +kernel) ⟨Nat.le_of_ble_eq_true rfl, Nat.le_of_ble_eq_true rfl⟩) ha0 ka0 (by decide) rfl rfl rfl (Nat.le_of_ble_eq_true rfl) dX12_readAmount_316 (fun q_99 w_100 => ?_)
                      obtain ⟨hV_q_99, h2_q_99, h3_q_99, mN_q_99⟩ := w_100
                      have hF_q_99 : sx_fr h L (fun a => h.1 a = 12 ∨ h.1 a = 135 ∨ h.1 a = 138 ∨ h.1 a = 139 ∨ h.1 a = 140 ∨ h.1 a = 136 ∨ h.1 a = 137) q q_99 := hF_q_90.tr (h2_q_99.mono (fun a (z : h.1 a = 12) => (show h.1 a = 12 ∨ h.1 a = 135 ∨ h.1 a = 138 ∨ h.1 a = 139 ∨ h.1 a = 140 ∨ h.1 a = 136 ∨ h.1 a = 137 from by omega)))
                      have hK_q_99 : sx_kf a0 [6, 7, 8, 9, 11, 12, 13, 14, 15, 32, 33] q q_99 := hK_q_90.tr (h3_q_99.mono (by decide))
                      have mS_q_99 : mv_S m23 m26 m28 m29 q_99 := mv_S.eq (h2_q_99.G hm23 (show ¬ (h.1 m23 = 12) from by omega) (by rw [km23]; decide)) (h2_q_99.G hm26 (show ¬ (h.1 m26 = 12) from by omega) (by rw [km26]; decide)) (h2_q_99.G hm28 (show ¬ (h.1 m28 = 12) from by omega) (by rw [km28]; decide)) (h2_q_99.G hm29 (show ¬ (h.1 m29 = 12) from by omega) (by rw [km29]; decide)) mS_98
                      refine wa_iconst B 1 dX12_readAmount_319 (by decide) ?_
                      have z_101 : q_99.2.2.2.1 m23 = (q.2.2.2.1 m23) := (h2_q_99.G hm23 (show ¬ (h.1 m23 = 12) from by omega) (by rw [km23]; decide)).trans (z_97)
                      have z_102 : q_99.2.2.2.1 m26 = (upd (q.2.2.2.1 m26) (n2 : Int32).toNatClampNeg v_81) := (h2_q_99.G hm26 (show ¬ (h.1 m26 = 12) from by omega) (by rw [km26]; decide)).trans (z_96)
                      have z_103 : q_99.2.2.2.1 m27 = (upd (q.2.2.2.1 m27) (n1 : Int32).toNatClampNeg v_89) := (h2_q_99.G hm27 (show ¬ (h.1 m27 = 12) from by omega) (by rw [km27]; decide)).trans (z_91)
                      have z_104 : q_99.2.2.2.1 m28 = (upd (q.2.2.2.1 m28) (v_58 : Int32).toNatClampNeg (q.1 a0 12)) := (h2_q_99.G hm28 (show ¬ (h.1 m28 = 12) from by omega) (by rw [km28]; decide)).trans (z_93)
                      have z_105 : q_99.2.2.2.1 m29 = (upd (q.2.2.2.1 m29) (v_58 : Int32).toNatClampNeg (q.1 a0 13)) := (h2_q_99.G hm29 (show ¬ (h.1 m29 = 12) from by omega) (by rw [km29]; decide)).trans (z_94)
                      have z_106 : q_99.2.2.2.1 m30 = (upd (q.2.2.2.1 m30) (v_58 : Int32).toNatClampNeg (q_24.1 a0 33)) := (h2_q_99.G hm30 (show ¬ (h.1 m30 = 12) from by omega) (by rw [km30]; decide)).trans (z_95)
                      have z_107 : q_99.2.2.2.1 m26 (n2 : Int32).toNatClampNeg = v_81 := (congrFun ((h2_q_99.G hm26 (show ¬ (h.1 m26 = 12) from by omega) (by rw [km26]; decide)).trans ((show q_90.2.2.2.1 m26 = q_82.2.2.2.1 m26 from by rw [eq_90]; exact sg_pG_a (sx_ka h km26 km27 (by decide))))) _).trans z_85
                      exact hret _ _ _ _ dX12_readAmount_320 (Or.inr rfl) ⟨hV_q_99, hF_q_99, hK_q_99, mN_q_99, mS_q_99, (Or.inl ⟨rfl, by rw [z_102, z_106]; exact hst.1, by rw [z_104, z_105, z_102, z_103]; rw [z_101]; exact hst.2.1, by rw [z_107]; omega⟩)⟩
                    refine wa_if_le B 243 dX12_readAmount_197 (by decide) (fun (t_108 : ((q.2.2.2.1 m26 (n2 : Int32).toNatClampNeg)).toInt ≤ 0) => ?_) (fun (t_108 : ¬ ((q.2.2.2.1 m26 (n2 : Int32).toNatClampNeg)).toInt ≤ 0) => ?_)
                    · exact Jn_243_56 () (show (q_24.1 a0 33).toInt + (q.2.2.2.1 m26 (n2).toNatClampNeg).toInt + 1 ≤ 5 from by first | assumption | omega | decide)
                    · refine wa_aload_n B dX12_readAmount_200 rfl 7 rfl ?_
                      refine wa_getI B (C := RX12) (T := TX12) (N := 51) iq_X12_readAmount_X12 ha0 ka0 (by decide) rfl 32 (by decide) (by decide) (by decide +kernel) rfl (by decide) (v := (q_24.1 a0 32)) rfl dX12_readAmount_201 ?_
                      have g_109 : (0 : Int) ≤ (q_24.1 a0 32).toInt ∧ (q_24.1 a0 32).toInt ≤ 2 := hV_q_24.int ha0 ka0 32
                      refine wa_aload_n B dX12_readAmount_204 rfl 7 rfl ?_
                      refine wa_getR B (C := RX12) (T := TX12) (N := 51) iq_X12_readAmount_X12 ha0 ka0 (by decide) rfl 25 (by decide) (by decide) (by decide +kernel) rfl (fun _ _ _ => rfl) (v := m25) p7_q_24 dX12_readAmount_205 ?_
                      refine wa_iload_n B dX12_readAmount_208 rfl 9 rfl ?_
                      have z_110 : q_24.2.2.2.1 m25 (n2 : Int32).toNatClampNeg = (q.2.2.2.1 m25 (n2 : Int32).toNatClampNeg) := congrFun p16_q_24 _
                      refine wa_iaload B hm25 km25 (by decide) (by decide) (show 0 ≤ n2.toInt by omega) (show n2.toInt < (h.2.1 m25 : Int) by omega) (v := (q.2.2.2.1 m25 (n2 : Int32).toNatClampNeg)) z_110 dX12_readAmount_209 ?_
                      have g_111 : (0 : Int) ≤ ((q.2.2.2.1 m25 (n2 : Int32).toNatClampNeg)).toInt ∧ ((q.2.2.2.1 m25 (n2 : Int32).toNatClampNeg)).toInt ≤ 2 := by rw [← z_110]; exact hV_q_24.cnt hm25 km25 _
                      refine wa_icmp_ne B 237 dX12_readAmount_210 (by decide) (fun (t_112 : ¬ (q_24.1 a0 32).toInt = ((q.2.2.2.1 m25 (n2 : Int32).toNatClampNeg)).toInt) => ?_) (fun (t_112 : (q_24.1 a0 32).toInt = ((q.2.2.2.1 m25 (n2 : Int32).toNatClampNeg)).toInt) => ?_)
                      · refine wa_aload_n B dX12_readAmount_237 rfl 7 rfl ?_
                        refine wa_iconst B 3 dX12_readAmount_238 (by decide) ?_
                        refine wa_callVi B (x := (RX12, TX12, 51)) (As := [.int 3]) (rest := []) (k_X12_bad l dC dI h L hN q_24 hV_q_24 (a0 := a0) ha0 ka0 3  ) (cwV 1 B.1.2.2.2.2 gX12_readAmount_X12_bad rfl rfl rfl (by decide +kernel) ⟨Nat.le_of_ble_eq_true rfl, Nat.le_of_ble_eq_true rfl⟩) ha0 ka0 (by decide) rfl rfl rfl (Nat.le_of_ble_eq_true rfl) dX12_readAmount_239 (fun r_114 q_113 w_115 => ?_)
                        obtain ⟨hV_q_113, h2_q_113, h3_q_113, hw_115⟩ := w_115
                        have hF_q_113 : sx_fr h L (fun a => h.1 a = 12 ∨ h.1 a = 135 ∨ h.1 a = 138 ∨ h.1 a = 139 ∨ h.1 a = 140 ∨ h.1 a = 136 ∨ h.1 a = 137) q q_113 := hF_q_24.tr (h2_q_113.mono (fun a (z : h.1 a = 12) => (show h.1 a = 12 ∨ h.1 a = 135 ∨ h.1 a = 138 ∨ h.1 a = 139 ∨ h.1 a = 140 ∨ h.1 a = 136 ∨ h.1 a = 137 from by omega)))
                        have hK_q_113 : sx_kf a0 [6, 7, 8, 9, 11, 12, 13, 14, 15, 32, 33] q q_113 := hK_q_24.tr (h3_q_113.mono (by decide))
                        have mN_q_113 : mv_N a0 q_113 := mv_N.eq (h3_q_113.1 8 (by decide)) (h3_q_113.2 11 (by decide)) mN_q_24
                        have mS_q_113 : mv_S m23 m26 m28 m29 q_113 := mv_S.eq (h2_q_113.G hm23 (show ¬ (h.1 m23 = 12) from by omega) (by rw [km23]; decide)) (h2_q_113.G hm26 (show ¬ (h.1 m26 = 12) from by omega) (by rw [km26]; decide)) (h2_q_113.G hm28 (show ¬ (h.1 m28 = 12) from by omega) (by rw [km28]; decide)) (h2_q_113.G hm29 (show ¬ (h.1 m29 = 12) from by omega) (by rw [km29]; decide)) mS_q_24
                        exact hret _ _ _ _ dX12_readAmount_242 (zx_01 (by omega)) ⟨hV_q_113, hF_q_113, hK_q_113, mN_q_113, mS_q_113, (Or.inr (by omega))⟩
                      · refine wa_aload_n B dX12_readAmount_213 rfl 7 rfl ?_
                        refine wa_getI B (C := RX12) (T := TX12) (N := 51) iq_X12_readAmount_X12 ha0 ka0 (by decide) rfl 33 (by decide) (by decide) (by decide +kernel) rfl (by decide) (v := (q_24.1 a0 33)) rfl dX12_readAmount_214 ?_
                        refine wa_aload_n B dX12_readAmount_217 rfl 7 rfl ?_
                        refine wa_getR B (C := RX12) (T := TX12) (N := 51) iq_X12_readAmount_X12 ha0 ka0 (by decide) rfl 30 (by decide) (by decide) (by decide +kernel) rfl (fun _ _ _ => rfl) (v := m30) p12_q_24 dX12_readAmount_218 ?_
                        refine wa_iconst B 5 dX12_readAmount_221 (by decide) ?_
                        refine wa_iload_n B dX12_readAmount_222 rfl 9 rfl ?_
                        refine wa_imul B dX12_readAmount_223 (fun v_116 ev_116 => ?_)
                        refine wa_aload_n B dX12_readAmount_224 rfl 7 rfl ?_
                        refine wa_getR B (C := RX12) (T := TX12) (N := 51) iq_X12_readAmount_X12 ha0 ka0 (by decide) rfl 26 (by decide) (by decide) (by decide +kernel) rfl (fun _ _ _ => rfl) (v := m26) p8_q_24 dX12_readAmount_225 ?_
                        refine wa_iload_n B dX12_readAmount_228 rfl 9 rfl ?_
                        refine wa_iaload B hm26 km26 (by decide) (by decide) (show 0 ≤ n2.toInt by omega) (show n2.toInt < (h.2.1 m26 : Int) by omega) (v := (q.2.2.2.1 m26 (n2 : Int32).toNatClampNeg)) z_52 dX12_readAmount_229 ?_
                        refine wa_iadd B dX12_readAmount_230 (fun v_117 ev_117 => ?_)
                        refine wa_iconst B 1 dX12_readAmount_231 (by decide) ?_
                        refine wa_isub B dX12_readAmount_232 (fun v_118 ev_118 => ?_)
                        have tv_116 : v_116.toInt = 5 * n2.toInt := by have b1 := zx_bd n2; rw [ev_116]; exact zx_mul (show (-2147483648 : Int) ≤ 5 * n2.toInt by omega) (show 5 * n2.toInt < (2147483648 : Int) by omega)
                        have tv_117 : v_117.toInt = v_116.toInt + ((q.2.2.2.1 m26 (n2 : Int32).toNatClampNeg)).toInt := by have b0 := zx_bd v_116; have b1 := zx_bd ((q.2.2.2.1 m26 (n2 : Int32).toNatClampNeg)); rw [ev_117]; exact zx_add (show (-2147483648 : Int) ≤ v_116.toInt + ((q.2.2.2.1 m26 (n2 : Int32).toNatClampNeg)).toInt by omega) (show v_116.toInt + ((q.2.2.2.1 m26 (n2 : Int32).toNatClampNeg)).toInt < (2147483648 : Int) by omega)
                        have tv_118 : v_118.toInt = v_117.toInt - 1 := by have b0 := zx_bd v_117; rw [ev_118]; exact zx_sub (show (-2147483648 : Int) ≤ v_117.toInt - 1 by omega) (show v_117.toInt - 1 < (2147483648 : Int) by omega)
                        have z_119 : q_24.2.2.2.1 m30 (v_118 : Int32).toNatClampNeg = (q.2.2.2.1 m30 (v_118 : Int32).toNatClampNeg) := congrFun p21_q_24 _
                        refine wa_iaload B hm30 km30 (by decide) (by decide) (show 0 ≤ v_118.toInt by omega) (show v_118.toInt < (h.2.1 m30 : Int) by omega) (v := (q.2.2.2.1 m30 (v_118 : Int32).toNatClampNeg)) z_119 dX12_readAmount_233 ?_
                        have g_120 : (0 : Int) ≤ ((q.2.2.2.1 m30 (v_118 : Int32).toNatClampNeg)).toInt ∧ ((q.2.2.2.1 m30 (v_118 : Int32).toNatClampNeg)).toInt ≤ 4 := by rw [← z_119]; exact hV_q_24.cnt hm30 km30 _
                        have u9 := hyA (by omega)
                        have u8 : 5 * n2.toNatClampNeg + (q.2.2.2.1 m26 (n2).toNatClampNeg).toInt.toNat - 1 = (v_118 : Int32).toNatClampNeg := by have a9 := zx_nc n2; have a8 := zx_nc v_118; omega
                        rw [u8] at u9
                        refine wa_icmp_lt B 243 dX12_readAmount_234 (by decide) (fun (t_121 : (q_24.1 a0 33).toInt < ((q.2.2.2.1 m30 (v_118 : Int32).toNatClampNeg)).toInt) => ?_) (fun (t_121 : ¬ (q_24.1 a0 33).toInt < ((q.2.2.2.1 m30 (v_118 : Int32).toNatClampNeg)).toInt) => ?_)
                        · exact Jn_243_56 () (show (q_24.1 a0 33).toInt + (q.2.2.2.1 m26 (n2).toNatClampNeg).toInt + 1 ≤ 5 from by first | assumption | omega | decide)
                        · refine wa_aload_n B dX12_readAmount_237 rfl 7 rfl ?_
                          refine wa_iconst B 3 dX12_readAmount_238 (by decide) ?_
                          refine wa_callVi B (x := (RX12, TX12, 51)) (As := [.int 3]) (rest := []) (k_X12_bad l dC dI h L hN q_24 hV_q_24 (a0 := a0) ha0 ka0 3  ) (cwV 1 B.1.2.2.2.2 gX12_readAmount_X12_bad rfl rfl rfl (by decide +kernel) ⟨Nat.le_of_ble_eq_true rfl, Nat.le_of_ble_eq_true rfl⟩) ha0 ka0 (by decide) rfl rfl rfl (Nat.le_of_ble_eq_true rfl) dX12_readAmount_239 (fun r_123 q_122 w_124 => ?_)
                          obtain ⟨hV_q_122, h2_q_122, h3_q_122, hw_124⟩ := w_124
                          have hF_q_122 : sx_fr h L (fun a => h.1 a = 12 ∨ h.1 a = 135 ∨ h.1 a = 138 ∨ h.1 a = 139 ∨ h.1 a = 140 ∨ h.1 a = 136 ∨ h.1 a = 137) q q_122 := hF_q_24.tr (h2_q_122.mono (fun a (z : h.1 a = 12) => (show h.1 a = 12 ∨ h.1 a = 135 ∨ h.1 a = 138 ∨ h.1 a = 139 ∨ h.1 a = 140 ∨ h.1 a = 136 ∨ h.1 a = 137 from by omega)))
                          have hK_q_122 : sx_kf a0 [6, 7, 8, 9, 11, 12, 13, 14, 15, 32, 33] q q_122 := hK_q_24.tr (h3_q_122.mono (by decide))
                          have mN_q_122 : mv_N a0 q_122 := mv_N.eq (h3_q_122.1 8 (by decide)) (h3_q_122.2 11 (by decide)) mN_q_24
                          have mS_q_122 : mv_S m23 m26 m28 m29 q_122 := mv_S.eq (h2_q_122.G hm23 (show ¬ (h.1 m23 = 12) from by omega) (by rw [km23]; decide)) (h2_q_122.G hm26 (show ¬ (h.1 m26 = 12) from by omega) (by rw [km26]; decide)) (h2_q_122.G hm28 (show ¬ (h.1 m28 = 12) from by omega) (by rw [km28]; decide)) (h2_q_122.G hm29 (show ¬ (h.1 m29 = 12) from by omega) (by rw [km29]; decide)) mS_q_24
                          exact hret _ _ _ _ dX12_readAmount_242 (zx_01 (by omega)) ⟨hV_q_122, hF_q_122, hK_q_122, mN_q_122, mS_q_122, (Or.inr (by omega))⟩
                · refine wa_aload_n B dX12_readAmount_180 rfl 7 rfl ?_
                  refine wa_iconst B 1 dX12_readAmount_181 (by decide) ?_
                  refine wa_callVi B (x := (RX12, TX12, 51)) (As := [.int 1]) (rest := []) (k_X12_bad l dC dI h L hN q_24 hV_q_24 (a0 := a0) ha0 ka0 1  ) (cwV 1 B.1.2.2.2.2 gX12_readAmount_X12_bad rfl rfl rfl (by decide +kernel) ⟨Nat.le_of_ble_eq_true rfl, Nat.le_of_ble_eq_true rfl⟩) ha0 ka0 (by decide) rfl rfl rfl (Nat.le_of_ble_eq_true rfl) dX12_readAmount_182 (fun r_126 q_125 w_127 => ?_)
                  obtain ⟨hV_q_125, h2_q_125, h3_q_125, hw_127⟩ := w_127
                  have hF_q_125 : sx_fr h L (fun a => h.1 a = 12 ∨ h.1 a = 135 ∨ h.1 a = 138 ∨ h.1 a = 139 ∨ h.1 a = 140 ∨ h.1 a = 136 ∨ h.1 a = 137) q q_125 := hF_q_24.tr (h2_q_125.mono (fun a (z : h.1 a = 12) => (show h.1 a = 12 ∨ h.1 a = 135 ∨ h.1 a = 138 ∨ h.1 a = 139 ∨ h.1 a = 140 ∨ h.1 a = 136 ∨ h.1 a = 137 from by omega)))
                  have hK_q_125 : sx_kf a0 [6, 7, 8, 9, 11, 12, 13, 14, 15, 32, 33] q q_125 := hK_q_24.tr (h3_q_125.mono (by decide))
                  have mN_q_125 : mv_N a0 q_125 := mv_N.eq (h3_q_125.1 8 (by decide)) (h3_q_125.2 11 (by decide)) mN_q_24
                  have mS_q_125 : mv_S m23 m26 m28 m29 q_125 := mv_S.eq (h2_q_125.G hm23 (show ¬ (h.1 m23 = 12) from by omega) (by rw [km23]; decide)) (h2_q_125.G hm26 (show ¬ (h.1 m26 = 12) from by omega) (by rw [km26]; decide)) (h2_q_125.G hm28 (show ¬ (h.1 m28 = 12) from by omega) (by rw [km28]; decide)) (h2_q_125.G hm29 (show ¬ (h.1 m29 = 12) from by omega) (by rw [km29]; decide)) mS_q_24
                  exact hret _ _ _ _ dX12_readAmount_185 (zx_01 (by omega)) ⟨hV_q_125, hF_q_125, hK_q_125, mN_q_125, mS_q_125, (Or.inr (by omega))⟩
              · refine wa_aload_n B dX12_readAmount_168 rfl 7 rfl ?_
                refine wa_iconst B 4 dX12_readAmount_169 (by decide) ?_
                refine wa_iload_n B dX12_readAmount_170 rfl 6 rfl ?_
                refine wa_callVi B (x := (RX12, TX12, 51)) (As := [.int 4, .int (q.1 a0 7)]) (rest := []) (k_X12_badAt l dC dI h L hN q_24 hV_q_24 (a0 := a0) ha0 ka0 4 (q.1 a0 7)  ) (cwV 2 B.1.2.2.2.2 gX12_readAmount_X12_badAt rfl rfl rfl (by decide +kernel) ⟨Nat.le_of_ble_eq_true rfl, Nat.le_of_ble_eq_true rfl⟩) ha0 ka0 (by decide) rfl rfl rfl (Nat.le_of_ble_eq_true rfl) dX12_readAmount_171 (fun r_129 q_128 w_130 => ?_)
                obtain ⟨hV_q_128, h2_q_128, h3_q_128, hw_130⟩ := w_130
                have hF_q_128 : sx_fr h L (fun a => h.1 a = 12 ∨ h.1 a = 135 ∨ h.1 a = 138 ∨ h.1 a = 139 ∨ h.1 a = 140 ∨ h.1 a = 136 ∨ h.1 a = 137) q q_128 := hF_q_24.tr (h2_q_128.mono (fun a (z : h.1 a = 12) => (show h.1 a = 12 ∨ h.1 a = 135 ∨ h.1 a = 138 ∨ h.1 a = 139 ∨ h.1 a = 140 ∨ h.1 a = 136 ∨ h.1 a = 137 from by omega)))
                have hK_q_128 : sx_kf a0 [6, 7, 8, 9, 11, 12, 13, 14, 15, 32, 33] q q_128 := hK_q_24.tr (h3_q_128.mono (by decide))
                have mN_q_128 : mv_N a0 q_128 := mv_N.eq (h3_q_128.1 8 (by decide)) (h3_q_128.2 11 (by decide)) mN_q_24
                have mS_q_128 : mv_S m23 m26 m28 m29 q_128 := mv_S.eq (h2_q_128.G hm23 (show ¬ (h.1 m23 = 12) from by omega) (by rw [km23]; decide)) (h2_q_128.G hm26 (show ¬ (h.1 m26 = 12) from by omega) (by rw [km26]; decide)) (h2_q_128.G hm28 (show ¬ (h.1 m28 = 12) from by omega) (by rw [km28]; decide)) (h2_q_128.G hm29 (show ¬ (h.1 m29 = 12) from by omega) (by rw [km29]; decide)) mS_q_24
                exact hret _ _ _ _ dX12_readAmount_174 (zx_01 (by omega)) ⟨hV_q_128, hF_q_128, hK_q_128, mN_q_128, mS_q_128, (Or.inr (by omega))⟩
            refine wa_if_eq B 163 dX12_readAmount_130 (by decide) (fun (t_131 : v_23.toInt = 0) => ?_) (fun (t_131 : ¬ v_23.toInt = 0) => ?_)
            · exact Jn_163_45 ()
            · refine wa_aload_n B dX12_readAmount_133 rfl 7 rfl ?_
              refine wa_iload B dX12_readAmount_134 5 rfl ?_
              refine wa_iload B dX12_readAmount_136 4 rfl ?_
              refine wa_aload_n B dX12_readAmount_138 rfl 7 rfl ?_
              refine wa_aload_n B dX12_readAmount_139 rfl 7 rfl ?_
              refine wa_getI B (C := RX12) (T := TX12) (N := 51) iq_X12_readAmount_X12 ha0 ka0 (by decide) rfl 32 (by decide) (by decide) (by decide +kernel) rfl (by decide) (v := (q_24.1 a0 32)) rfl dX12_readAmount_140 ?_
              have g_132 : (0 : Int) ≤ (q_24.1 a0 32).toInt ∧ (q_24.1 a0 32).toInt ≤ 2 := hV_q_24.int ha0 ka0 32
              refine wa_aload_n B dX12_readAmount_143 rfl 7 rfl ?_
              refine wa_getI B (C := RX12) (T := TX12) (N := 51) iq_X12_readAmount_X12 ha0 ka0 (by decide) rfl 33 (by decide) (by decide) (by decide +kernel) rfl (by decide) (v := (q_24.1 a0 33)) rfl dX12_readAmount_144 ?_
              have g_133 : (0 : Int) ≤ (q_24.1 a0 33).toInt ∧ (q_24.1 a0 33).toInt ≤ 4 := hV_q_24.int ha0 ka0 33
              refine wa_callVi B (x := (RX12, TX12, 51)) (As := [.int (q_24.1 a0 32), .int (q_24.1 a0 33)]) (rest := [.int (q.1 a0 13), .int (q.1 a0 12), .ref a0]) (k_X12_mostOf l dC dI h L hN q_24 hV_q_24 (a0 := a0) ha0 ka0 (q_24.1 a0 32) (q_24.1 a0 33)  (by first | assumption | omega | decide) (by first | assumption | omega | decide) (by first | assumption | omega | decide) (by first | assumption | omega | decide)) (cwV 2 B.1.2.2.2.2 gX12_readAmount_X12_mostOf rfl rfl rfl (by decide +kernel) ⟨Nat.le_of_ble_eq_true rfl, Nat.le_of_ble_eq_true rfl⟩) ha0 ka0 (by decide) rfl rfl rfl (Nat.le_of_ble_eq_true rfl) dX12_readAmount_147 (fun r_135 q_134 w_136 => ?_)
              subst w_136
              refine wa_callVi B (x := (RX12, TX12, 51)) (As := [.int (q.1 a0 12), .int (q.1 a0 13), .int r_135]) (rest := []) (k_X12_canBe l dC dI h L hN q_24 hV_q_24 (a0 := a0) ha0 ka0 (q.1 a0 12) (q.1 a0 13) r_135  (by first | assumption | omega | decide) (by first | assumption | omega | decide) (by first | assumption | omega | decide) (by first | assumption | omega | decide)) (cwV 3 B.1.2.2.2.2 gX12_readAmount_X12_canBe rfl rfl rfl (by decide +kernel) ⟨Nat.le_of_ble_eq_true rfl, Nat.le_of_ble_eq_true rfl⟩) ha0 ka0 (by decide) rfl rfl rfl (Nat.le_of_ble_eq_true rfl) dX12_readAmount_150 (fun r_138 q_137 w_139 => ?_)
              obtain ⟨ew_139, hw_139⟩ := w_139
              subst ew_139
              refine wa_if_ne B 163 dX12_readAmount_153 (by decide) (fun (t_140 : ¬ r_138.toInt = 0) => ?_) (fun (t_140 : r_138.toInt = 0) => ?_)
              · exact Jn_163_45 ()
              · refine wa_aload_n B dX12_readAmount_156 rfl 7 rfl ?_
                refine wa_iconst B 2 dX12_readAmount_157 (by decide) ?_
                refine wa_iload_n B dX12_readAmount_158 rfl 6 rfl ?_
                refine wa_callVi B (x := (RX12, TX12, 51)) (As := [.int 2, .int (q.1 a0 7)]) (rest := []) (k_X12_badAt l dC dI h L hN q_24 hV_q_24 (a0 := a0) ha0 ka0 2 (q.1 a0 7)  ) (cwV 2 B.1.2.2.2.2 gX12_readAmount_X12_badAt rfl rfl rfl (by decide +kernel) ⟨Nat.le_of_ble_eq_true rfl, Nat.le_of_ble_eq_true rfl⟩) ha0 ka0 (by decide) rfl rfl rfl (Nat.le_of_ble_eq_true rfl) dX12_readAmount_159 (fun r_142 q_141 w_143 => ?_)
                obtain ⟨hV_q_141, h2_q_141, h3_q_141, hw_143⟩ := w_143
                have hF_q_141 : sx_fr h L (fun a => h.1 a = 12 ∨ h.1 a = 135 ∨ h.1 a = 138 ∨ h.1 a = 139 ∨ h.1 a = 140 ∨ h.1 a = 136 ∨ h.1 a = 137) q q_141 := hF_q_24.tr (h2_q_141.mono (fun a (z : h.1 a = 12) => (show h.1 a = 12 ∨ h.1 a = 135 ∨ h.1 a = 138 ∨ h.1 a = 139 ∨ h.1 a = 140 ∨ h.1 a = 136 ∨ h.1 a = 137 from by omega)))
                have hK_q_141 : sx_kf a0 [6, 7, 8, 9, 11, 12, 13, 14, 15, 32, 33] q q_141 := hK_q_24.tr (h3_q_141.mono (by decide))
                have mN_q_141 : mv_N a0 q_141 := mv_N.eq (h3_q_141.1 8 (by decide)) (h3_q_141.2 11 (by decide)) mN_q_24
                have mS_q_141 : mv_S m23 m26 m28 m29 q_141 := mv_S.eq (h2_q_141.G hm23 (show ¬ (h.1 m23 = 12) from by omega) (by rw [km23]; decide)) (h2_q_141.G hm26 (show ¬ (h.1 m26 = 12) from by omega) (by rw [km26]; decide)) (h2_q_141.G hm28 (show ¬ (h.1 m28 = 12) from by omega) (by rw [km28]; decide)) (h2_q_141.G hm29 (show ¬ (h.1 m29 = 12) from by omega) (by rw [km29]; decide)) mS_q_24
                exact hret _ _ _ _ dX12_readAmount_162 (zx_01 (by omega)) ⟨hV_q_141, hF_q_141, hK_q_141, mN_q_141, mS_q_141, (Or.inr (by omega))⟩
          refine wa_if_eq B 125 dX12_readAmount_111 (by decide) (fun (t_144 : v_20.toInt = 0) => ?_) (fun (t_144 : ¬ v_20.toInt = 0) => ?_)
          · refine wa_iconst B 0 dX12_readAmount_125 (by decide) ?_
            exact Jn_126_44 0 q_18 hV_q_18 hF_q_18 hK_q_18 mN_q_18 mS_q_18 rfl rfl rfl rfl z_25 z_26 z_27 z_28 z_29 z_30 z_31 z_32 z_33 z_34 z_35 z_36 z_37 z_38 z_39 z_40 z_41 z_42 (show 0 = 0 ∨ 0 = 1 from by first | assumption | omega | decide)
          · refine wa_aload_n B dX12_readAmount_114 rfl 6 rfl ?_
            refine wa_callVi B (x := (RX12, TX12, 51)) (As := []) (rest := []) (k_X12_isUnit l dC dI h L hN q_18 hV_q_18 (a0 := a0) ha0 ka0  ) (cwV 0 B.1.2.2.2.2 gX12_readAmount_X12_isUnit rfl rfl rfl (by decide +kernel) ⟨Nat.le_of_ble_eq_true rfl, Nat.le_of_ble_eq_true rfl⟩) ha0 ka0 (by decide) rfl rfl rfl (Nat.le_of_ble_eq_true rfl) dX12_readAmount_115 (fun r_146 q_145 w_147 => ?_)
            obtain ⟨hV_q_145, h2_q_145, h3_q_145, hw_147⟩ := w_147
            have hF_q_145 : sx_fr h L (fun a => h.1 a = 12 ∨ h.1 a = 135 ∨ h.1 a = 138 ∨ h.1 a = 139 ∨ h.1 a = 140 ∨ h.1 a = 136 ∨ h.1 a = 137) q q_145 := hF_q_18.tr (h2_q_145.mono (fun a (z : h.1 a = 12) => (show h.1 a = 12 ∨ h.1 a = 135 ∨ h.1 a = 138 ∨ h.1 a = 139 ∨ h.1 a = 140 ∨ h.1 a = 136 ∨ h.1 a = 137 from by omega)))
            have hK_q_145 : sx_kf a0 [6, 7, 8, 9, 11, 12, 13, 14, 15, 32, 33] q q_145 := hK_q_18.tr (h3_q_145.mono (by decide))
            have mN_q_145 : mv_N a0 q_145 := mv_N.eq (h3_q_145.1 8 (by decide)) (h3_q_145.2 11 (by decide)) mN_q_18
            have mS_q_145 : mv_S m23 m26 m28 m29 q_145 := mv_S.eq (h2_q_145.G hm23 (show ¬ (h.1 m23 = 12) from by omega) (by rw [km23]; decide)) (h2_q_145.G hm26 (show ¬ (h.1 m26 = 12) from by omega) (by rw [km26]; decide)) (h2_q_145.G hm28 (show ¬ (h.1 m28 = 12) from by omega) (by rw [km28]; decide)) (h2_q_145.G hm29 (show ¬ (h.1 m29 = 12) from by omega) (by rw [km29]; decide)) mS_q_18
            refine wa_if_eq B 125 dX12_readAmount_118 (by decide) (fun (t_148 : r_146.toInt = 0) => ?_) (fun (t_148 : ¬ r_146.toInt = 0) => ?_)
            · refine wa_iconst B 0 dX12_readAmount_125 (by decide) ?_
              have z_149 : q_145.1 a0 7 = q_18.1 a0 7 := h3_q_145.1 7 (by decide)
              have z_150 : q_145.1 a0 12 = q_18.1 a0 12 := h3_q_145.1 12 (by decide)
              have z_151 : q_145.1 a0 13 = q_18.1 a0 13 := h3_q_145.1 13 (by decide)
              have z_152 : q_145.1 a0 8 = q_18.1 a0 8 := h3_q_145.1 8 (by decide)
              have z_153 : q_145.2.2.1 a0 18 = m18 := (h2_q_145.R ha0 (show ¬ ((h.1 a0 = 12) ∧ (h.1 a0 = 8 ∨ h.1 a0 = 11)) from by omega) 18).trans (z_25)
              have z_154 : q_145.2.2.1 a0 19 = m19 := (h2_q_145.R ha0 (show ¬ ((h.1 a0 = 12) ∧ (h.1 a0 = 8 ∨ h.1 a0 = 11)) from by omega) 19).trans (z_26)
              have z_155 : q_145.2.2.1 a0 23 = m23 := (h2_q_145.R ha0 (show ¬ ((h.1 a0 = 12) ∧ (h.1 a0 = 8 ∨ h.1 a0 = 11)) from by omega) 23).trans (z_27)
              have z_156 : q_145.2.2.1 a0 25 = m25 := (h2_q_145.R ha0 (show ¬ ((h.1 a0 = 12) ∧ (h.1 a0 = 8 ∨ h.1 a0 = 11)) from by omega) 25).trans (z_28)
              have z_157 : q_145.2.2.1 a0 26 = m26 := (h2_q_145.R ha0 (show ¬ ((h.1 a0 = 12) ∧ (h.1 a0 = 8 ∨ h.1 a0 = 11)) from by omega) 26).trans (z_29)
              have z_158 : q_145.2.2.1 a0 27 = m27 := (h2_q_145.R ha0 (show ¬ ((h.1 a0 = 12) ∧ (h.1 a0 = 8 ∨ h.1 a0 = 11)) from by omega) 27).trans (z_30)
              have z_159 : q_145.2.2.1 a0 28 = m28 := (h2_q_145.R ha0 (show ¬ ((h.1 a0 = 12) ∧ (h.1 a0 = 8 ∨ h.1 a0 = 11)) from by omega) 28).trans (z_31)
              have z_160 : q_145.2.2.1 a0 29 = m29 := (h2_q_145.R ha0 (show ¬ ((h.1 a0 = 12) ∧ (h.1 a0 = 8 ∨ h.1 a0 = 11)) from by omega) 29).trans (z_32)
              have z_161 : q_145.2.2.1 a0 30 = m30 := (h2_q_145.R ha0 (show ¬ ((h.1 a0 = 12) ∧ (h.1 a0 = 8 ∨ h.1 a0 = 11)) from by omega) 30).trans (z_33)
              have z_162 : q_145.2.2.2.1 m18 = (q.2.2.2.1 m18) := (h2_q_145.G hm18 (show ¬ (h.1 m18 = 12) from by omega) (by rw [km18]; decide)).trans (z_34)
              have z_163 : q_145.2.2.2.1 m19 = (q.2.2.2.1 m19) := (h2_q_145.G hm19 (show ¬ (h.1 m19 = 12) from by omega) (by rw [km19]; decide)).trans (z_35)
              have z_164 : q_145.2.2.2.1 m23 = (q.2.2.2.1 m23) := (h2_q_145.G hm23 (show ¬ (h.1 m23 = 12) from by omega) (by rw [km23]; decide)).trans (z_36)
              have z_165 : q_145.2.2.2.1 m25 = (q.2.2.2.1 m25) := (h2_q_145.G hm25 (show ¬ (h.1 m25 = 12) from by omega) (by rw [km25]; decide)).trans (z_37)
              have z_166 : q_145.2.2.2.1 m26 = (q.2.2.2.1 m26) := (h2_q_145.G hm26 (show ¬ (h.1 m26 = 12) from by omega) (by rw [km26]; decide)).trans (z_38)
              have z_167 : q_145.2.2.2.1 m27 = (q.2.2.2.1 m27) := (h2_q_145.G hm27 (show ¬ (h.1 m27 = 12) from by omega) (by rw [km27]; decide)).trans (z_39)
              have z_168 : q_145.2.2.2.1 m28 = (q.2.2.2.1 m28) := (h2_q_145.G hm28 (show ¬ (h.1 m28 = 12) from by omega) (by rw [km28]; decide)).trans (z_40)
              have z_169 : q_145.2.2.2.1 m29 = (q.2.2.2.1 m29) := (h2_q_145.G hm29 (show ¬ (h.1 m29 = 12) from by omega) (by rw [km29]; decide)).trans (z_41)
              have z_170 : q_145.2.2.2.1 m30 = (q.2.2.2.1 m30) := (h2_q_145.G hm30 (show ¬ (h.1 m30 = 12) from by omega) (by rw [km30]; decide)).trans (z_42)
              exact Jn_126_44 0 q_145 hV_q_145 hF_q_145 hK_q_145 mN_q_145 mS_q_145 z_149 z_150 z_151 z_152 z_153 z_154 z_155 z_156 z_157 z_158 z_159 z_160 z_161 z_162 z_163 z_164 z_165 z_166 z_167 z_168 z_169 z_170 (show 0 = 0 ∨ 0 = 1 from by first | assumption | omega | decide)
            · refine wa_iconst B 1 dX12_readAmount_121 (by decide) ?_
              refine wa_goto B 126 dX12_readAmount_122 (by decide) ?_
              have z_171 : q_145.1 a0 7 = q_18.1 a0 7 := h3_q_145.1 7 (by decide)
              have z_172 : q_145.1 a0 12 = q_18.1 a0 12 := h3_q_145.1 12 (by decide)
              have z_173 : q_145.1 a0 13 = q_18.1 a0 13 := h3_q_145.1 13 (by decide)
              have z_174 : q_145.1 a0 8 = q_18.1 a0 8 := h3_q_145.1 8 (by decide)
              have z_175 : q_145.2.2.1 a0 18 = m18 := (h2_q_145.R ha0 (show ¬ ((h.1 a0 = 12) ∧ (h.1 a0 = 8 ∨ h.1 a0 = 11)) from by omega) 18).trans (z_25)
              have z_176 : q_145.2.2.1 a0 19 = m19 := (h2_q_145.R ha0 (show ¬ ((h.1 a0 = 12) ∧ (h.1 a0 = 8 ∨ h.1 a0 = 11)) from by omega) 19).trans (z_26)
              have z_177 : q_145.2.2.1 a0 23 = m23 := (h2_q_145.R ha0 (show ¬ ((h.1 a0 = 12) ∧ (h.1 a0 = 8 ∨ h.1 a0 = 11)) from by omega) 23).trans (z_27)
              have z_178 : q_145.2.2.1 a0 25 = m25 := (h2_q_145.R ha0 (show ¬ ((h.1 a0 = 12) ∧ (h.1 a0 = 8 ∨ h.1 a0 = 11)) from by omega) 25).trans (z_28)
              have z_179 : q_145.2.2.1 a0 26 = m26 := (h2_q_145.R ha0 (show ¬ ((h.1 a0 = 12) ∧ (h.1 a0 = 8 ∨ h.1 a0 = 11)) from by omega) 26).trans (z_29)
              have z_180 : q_145.2.2.1 a0 27 = m27 := (h2_q_145.R ha0 (show ¬ ((h.1 a0 = 12) ∧ (h.1 a0 = 8 ∨ h.1 a0 = 11)) from by omega) 27).trans (z_30)
              have z_181 : q_145.2.2.1 a0 28 = m28 := (h2_q_145.R ha0 (show ¬ ((h.1 a0 = 12) ∧ (h.1 a0 = 8 ∨ h.1 a0 = 11)) from by omega) 28).trans (z_31)
              have z_182 : q_145.2.2.1 a0 29 = m29 := (h2_q_145.R ha0 (show ¬ ((h.1 a0 = 12) ∧ (h.1 a0 = 8 ∨ h.1 a0 = 11)) from by omega) 29).trans (z_32)
              have z_183 : q_145.2.2.1 a0 30 = m30 := (h2_q_145.R ha0 (show ¬ ((h.1 a0 = 12) ∧ (h.1 a0 = 8 ∨ h.1 a0 = 11)) from by omega) 30).trans (z_33)
              have z_184 : q_145.2.2.2.1 m18 = (q.2.2.2.1 m18) := (h2_q_145.G hm18 (show ¬ (h.1 m18 = 12) from by omega) (by rw [km18]; decide)).trans (z_34)
              have z_185 : q_145.2.2.2.1 m19 = (q.2.2.2.1 m19) := (h2_q_145.G hm19 (show ¬ (h.1 m19 = 12) from by omega) (by rw [km19]; decide)).trans (z_35)
              have z_186 : q_145.2.2.2.1 m23 = (q.2.2.2.1 m23) := (h2_q_145.G hm23 (show ¬ (h.1 m23 = 12) from by omega) (by rw [km23]; decide)).trans (z_36)
              have z_187 : q_145.2.2.2.1 m25 = (q.2.2.2.1 m25) := (h2_q_145.G hm25 (show ¬ (h.1 m25 = 12) from by omega) (by rw [km25]; decide)).trans (z_37)
              have z_188 : q_145.2.2.2.1 m26 = (q.2.2.2.1 m26) := (h2_q_145.G hm26 (show ¬ (h.1 m26 = 12) from by omega) (by rw [km26]; decide)).trans (z_38)
              have z_189 : q_145.2.2.2.1 m27 = (q.2.2.2.1 m27) := (h2_q_145.G hm27 (show ¬ (h.1 m27 = 12) from by omega) (by rw [km27]; decide)).trans (z_39)
              have z_190 : q_145.2.2.2.1 m28 = (q.2.2.2.1 m28) := (h2_q_145.G hm28 (show ¬ (h.1 m28 = 12) from by omega) (by rw [km28]; decide)).trans (z_40)
              have z_191 : q_145.2.2.2.1 m29 = (q.2.2.2.1 m29) := (h2_q_145.G hm29 (show ¬ (h.1 m29 = 12) from by omega) (by rw [km29]; decide)).trans (z_41)
              have z_192 : q_145.2.2.2.1 m30 = (q.2.2.2.1 m30) := (h2_q_145.G hm30 (show ¬ (h.1 m30 = 12) from by omega) (by rw [km30]; decide)).trans (z_42)
              exact Jn_126_44 1 q_145 hV_q_145 hF_q_145 hK_q_145 mN_q_145 mS_q_145 z_171 z_172 z_173 z_174 z_175 z_176 z_177 z_178 z_179 z_180 z_181 z_182 z_183 z_184 z_185 z_186 z_187 z_188 z_189 z_190 z_191 z_192 (show 1 = 0 ∨ 1 = 1 from by first | assumption | omega | decide)
        refine wa_icmp_ne B 106 dX12_readAmount_92 (by decide) (fun (t_193 : ¬ (q_18.1 a0 8).toInt = 2) => ?_) (fun (t_193 : (q_18.1 a0 8).toInt = 2) => ?_)
        · refine wa_iconst B 0 dX12_readAmount_106 (by decide) ?_
          exact Jn_107_22 0 (show 0 = 0 ∨ 0 = 1 from by first | assumption | omega | decide)
        · refine wa_aload_n B dX12_readAmount_95 rfl 5 rfl ?_
          refine wa_callVi B (x := (RX12, TX12, 51)) (As := []) (rest := []) (k_X12_isFree l dC dI h L hN q_18 hV_q_18 (a0 := a0) ha0 ka0  ) (cwV 0 B.1.2.2.2.2 gX12_readAmount_X12_isFree rfl rfl rfl (by decide +kernel) ⟨Nat.le_of_ble_eq_true rfl, Nat.le_of_ble_eq_true rfl⟩) ha0 ka0 (by decide) rfl rfl rfl (Nat.le_of_ble_eq_true rfl) dX12_readAmount_96 (fun r_195 q_194 w_196 => ?_)
          obtain ⟨ew_196, hw_196⟩ := w_196
          subst ew_196
          refine wa_if_eq B 106 dX12_readAmount_99 (by decide) (fun (t_197 : r_195.toInt = 0) => ?_) (fun (t_197 : ¬ r_195.toInt = 0) => ?_)
          · refine wa_iconst B 0 dX12_readAmount_106 (by decide) ?_
            exact Jn_107_22 0 (show 0 = 0 ∨ 0 = 1 from by first | assumption | omega | decide)
          · refine wa_iconst B 1 dX12_readAmount_102 (by decide) ?_
            refine wa_goto B 107 dX12_readAmount_103 (by decide) ?_
            exact Jn_107_22 1 (show 1 = 0 ∨ 1 = 1 from by first | assumption | omega | decide)
      · refine wa_aload_n B dX12_readAmount_77 rfl 5 rfl ?_
        refine wa_iconst B 2 dX12_readAmount_78 (by decide) ?_
        refine wa_callVi B (x := (RX12, TX12, 51)) (As := [.int 2]) (rest := []) (k_X12_bad l dC dI h L hN q hV (a0 := a0) ha0 ka0 2  ) (cwV 1 B.1.2.2.2.2 gX12_readAmount_X12_bad rfl rfl rfl (by decide +kernel) ⟨Nat.le_of_ble_eq_true rfl, Nat.le_of_ble_eq_true rfl⟩) ha0 ka0 (by decide) rfl rfl rfl (Nat.le_of_ble_eq_true rfl) dX12_readAmount_79 (fun r_199 q_198 w_200 => ?_)
        obtain ⟨hV_q_198, h2_q_198, h3_q_198, hw_200⟩ := w_200
        have hF_q_198 : sx_fr h L (fun a => h.1 a = 12 ∨ h.1 a = 135 ∨ h.1 a = 138 ∨ h.1 a = 139 ∨ h.1 a = 140 ∨ h.1 a = 136 ∨ h.1 a = 137) q q_198 := hF.tr (h2_q_198.mono (fun a (z : h.1 a = 12) => (show h.1 a = 12 ∨ h.1 a = 135 ∨ h.1 a = 138 ∨ h.1 a = 139 ∨ h.1 a = 140 ∨ h.1 a = 136 ∨ h.1 a = 137 from by omega)))
        have hK_q_198 : sx_kf a0 [6, 7, 8, 9, 11, 12, 13, 14, 15, 32, 33] q q_198 := hK.tr (h3_q_198.mono (by decide))
        have mN_q_198 : mv_N a0 q_198 := mv_N.eq (h3_q_198.1 8 (by decide)) (h3_q_198.2 11 (by decide)) mN
        have mS_q_198 : mv_S m23 m26 m28 m29 q_198 := mv_S.eq (h2_q_198.G hm23 (show ¬ (h.1 m23 = 12) from by omega) (by rw [km23]; decide)) (h2_q_198.G hm26 (show ¬ (h.1 m26 = 12) from by omega) (by rw [km26]; decide)) (h2_q_198.G hm28 (show ¬ (h.1 m28 = 12) from by omega) (by rw [km28]; decide)) (h2_q_198.G hm29 (show ¬ (h.1 m29 = 12) from by omega) (by rw [km29]; decide)) mS
        exact hret _ _ _ _ dX12_readAmount_82 (zx_01 (by omega)) ⟨hV_q_198, hF_q_198, hK_q_198, mN_q_198, mS_q_198, (Or.inr (by omega))⟩
    refine wa_icmp_le B 61 dX12_readAmount_54 (by decide) (fun (t_201 : v_10.toInt ≤ 4) => ?_) (fun (t_201 : ¬ v_10.toInt ≤ 4) => ?_)
    · refine wa_iconst B 0 dX12_readAmount_61 (by decide) ?_
      exact Jn_62_13 0 (show 0 = 0 ∧ (q.2.2.2.1 m27 (n1).toNatClampNeg).toInt + v_4.toInt ≤ 4 ∨ 0 = 1 from by first | assumption | omega | decide)
    · refine wa_iconst B 1 dX12_readAmount_57 (by decide) ?_
      refine wa_goto B 62 dX12_readAmount_58 (by decide) ?_
      exact Jn_62_13 1 (show 1 = 0 ∧ (q.2.2.2.1 m27 (n1).toNatClampNeg).toInt + v_4.toInt ≤ 4 ∨ 1 = 1 from by first | assumption | omega | decide)
  refine wa_icmp_ne B 28 dX12_readAmount_21 (by decide) (fun (t_202 : ¬ (q.1 a0 12).toInt = 10) => ?_) (fun (t_202 : (q.1 a0 12).toInt = 10) => ?_)
  · refine wa_iconst B 0 dX12_readAmount_28 (by decide) ?_
    refine wa_iload B dX12_readAmount_29 0 rfl ?_
    refine wa_bipush B 10 dX12_readAmount_31 (by decide) ?_
    refine wa_icmp_ne B 40 dX12_readAmount_33 (by decide) (fun (t_203 : ¬ (q.1 a0 13).toInt = 10) => ?_) (fun (t_203 : (q.1 a0 13).toInt = 10) => ?_)
    · refine wa_iconst B 0 dX12_readAmount_40 (by decide) ?_
      refine wa_iadd B dX12_readAmount_41 (fun v_204 ev_204 => ?_)
      have tv_204 : v_204.toInt = 0 + 0 := by rw [ev_204]; exact zx_add (show (-2147483648 : Int) ≤ 0 + 0 by omega) (show 0 + 0 < (2147483648 : Int) by omega)
      exact Jn_42_8 v_204 (show v_204.toInt = ((mv_d (q.1 a0 12) + mv_d (q.1 a0 13) : Nat) : Int) from by exact mv_dd (by omega)) (show 0 ≤ v_204.toInt from by first | assumption | omega | decide) (show v_204.toInt ≤ 2 from by first | assumption | omega | decide)
    · refine wa_iconst B 1 dX12_readAmount_36 (by decide) ?_
      refine wa_goto B 41 dX12_readAmount_37 (by decide) ?_
      refine wa_iadd B dX12_readAmount_41 (fun v_205 ev_205 => ?_)
      have tv_205 : v_205.toInt = 0 + 1 := by rw [ev_205]; exact zx_add (show (-2147483648 : Int) ≤ 0 + 1 by omega) (show 0 + 1 < (2147483648 : Int) by omega)
      exact Jn_42_8 v_205 (show v_205.toInt = ((mv_d (q.1 a0 12) + mv_d (q.1 a0 13) : Nat) : Int) from by exact mv_dd (by omega)) (show 0 ≤ v_205.toInt from by first | assumption | omega | decide) (show v_205.toInt ≤ 2 from by first | assumption | omega | decide)
  · refine wa_iconst B 1 dX12_readAmount_24 (by decide) ?_
    refine wa_goto B 29 dX12_readAmount_25 (by decide) ?_
    refine wa_iload B dX12_readAmount_29 0 rfl ?_
    refine wa_bipush B 10 dX12_readAmount_31 (by decide) ?_
    refine wa_icmp_ne B 40 dX12_readAmount_33 (by decide) (fun (t_206 : ¬ (q.1 a0 13).toInt = 10) => ?_) (fun (t_206 : (q.1 a0 13).toInt = 10) => ?_)
    · refine wa_iconst B 0 dX12_readAmount_40 (by decide) ?_
      refine wa_iadd B dX12_readAmount_41 (fun v_207 ev_207 => ?_)
      have tv_207 : v_207.toInt = 1 + 0 := by rw [ev_207]; exact zx_add (show (-2147483648 : Int) ≤ 1 + 0 by omega) (show 1 + 0 < (2147483648 : Int) by omega)
      exact Jn_42_8 v_207 (show v_207.toInt = ((mv_d (q.1 a0 12) + mv_d (q.1 a0 13) : Nat) : Int) from by exact mv_dd (by omega)) (show 0 ≤ v_207.toInt from by first | assumption | omega | decide) (show v_207.toInt ≤ 2 from by first | assumption | omega | decide)
    · refine wa_iconst B 1 dX12_readAmount_36 (by decide) ?_
      refine wa_goto B 41 dX12_readAmount_37 (by decide) ?_
      refine wa_iadd B dX12_readAmount_41 (fun v_208 ev_208 => ?_)
      have tv_208 : v_208.toInt = 1 + 1 := by rw [ev_208]; exact zx_add (show (-2147483648 : Int) ≤ 1 + 1 by omega) (show 1 + 1 < (2147483648 : Int) by omega)
      exact Jn_42_8 v_208 (show v_208.toInt = ((mv_d (q.1 a0 12) + mv_d (q.1 a0 13) : Nat) : Int) from by exact mv_dd (by omega)) (show 0 ≤ v_208.toInt from by first | assumption | omega | decide) (show v_208.toInt ≤ 2 from by first | assumption | omega | decide)
