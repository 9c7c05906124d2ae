set_option maxHeartbeats 4000000 in
set_option maxRecDepth 100000 in
theorem k_X12_go_c (l : Launch) (dC : Nat → ClassId) (dI : Nat → Nat → Nat) (h : Sh) (L : List Nat) (hN : sx_nd L) (q : Sg) (hV : sx_V h L q) {a0 : Nat} (ha0 : a0 ∈ L) (ka0 : h.1 a0 = 12) {m3 : Nat} (em3 : q.2.2.1 a0 3 = m3)  (F : Nat → Int32) (n9 : Nat) (hn9 : (n9 : Int) = (q.1 a0 4).toInt) (hFF : ∀ j : Nat, j < n9 → q.2.2.2.1 m3 j = F j) (hm4 : (q.1 a0 5).toInt = 400) (hb0 : (q.1 a0 10).toInt = 0) (hts : (q.1 a0 6).toInt ≤ (q.1 a0 4).toInt) : CMv l dC dI h L yX12_go wsX12_go ({ frames := 2, cells := 0, slots := 0, locals := 41 } : Room) q [.ref a0] (fun q' => sx_V h L q' ∧ sx_fr h L (fun a => h.1 a = 12) q q' ∧ sx_kf a0 [6, 7, 8, 9, 11, 12, 13] q q' ∧ mv_N a0 q' ∧ ((q'.1 a0 6).toInt ≤ (q.1 a0 4).toInt ∧ pz_R F n9 (q.1 a0 6).toInt.toNat (q'.1 a0 8) (q'.1 a0 9) (q'.1 a0 7) (q'.1 a0 6) (q'.1 a0 12) (q'.1 a0 13) (q'.2.1 a0 11))) := by
  refine cm_v (cc := cX12_go) (mL := 5) (own := RX12) hN (by decide) rfl rfl (Nat.le_of_ble_eq_true rfl) (fun Z B hret => ?_)
  have hF : sx_fr h L (fun a => h.1 a = 12) q q := sx_fr.rf
  have hK : sx_kf a0 [6, 7, 8, 9, 11, 12, 13] q q := sx_kf.rf
  obtain ⟨hm3, km3, lm3⟩ : m3 ∈ L ∧ h.1 m3 = 113 ∧ h.2.1 m3 = 500 := by obtain ⟨r9, e9, z1, z2, z3⟩ := hV.refn (t := 113) (n := 500) ha0 ka0 3 rfl (by decide) rfl (by decide); rw [← em3, e9]; exact ⟨z1, z2, z3⟩
  show WA l dC dI h L ({ frames := 2, cells := 0, slots := 0, locals := 41 } : Room) 5 Z q 0 [(0, .ref a0)] []
  have Lp_0_4 : ∀ (n : Nat) (q_1 : Sg), sx_V h L q_1 → sx_fr h L (fun a => h.1 a = 12) q q_1 → sx_kf a0 [6, 7, 8, 9, 11, 12, 13] q q_1 → q_1.1 a0 4 = (q.1 a0 4) → q_1.1 a0 5 = (q.1 a0 5) → q_1.1 a0 10 = (q.1 a0 10) → q_1.2.2.1 a0 3 = m3 → q_1.2.2.2.1 m3 = (q.2.2.2.1 m3) → (q_1.1 a0 6).toInt ≤ (q_1.1 a0 4).toInt → pz_skip F n9 (q.1 a0 6).toInt.toNat = pz_skip F n9 (q_1.1 a0 6).toInt.toNat → ((q_1.1 a0 4).toInt - (q_1.1 a0 6).toInt : Int).toNat < n → WA l dC dI h L ({ frames := 2, cells := 0, slots := 0, locals := 41 } : Room) 5 Z q_1 0 [(0, .ref a0)] [] := by
    intro n
    induction n with
    | zero =>
      intro q_1 hV_q_1 hF_q_1 hK_q_1 p0_q_1 p1_q_1 p2_q_1 p3_q_1 p4_q_1 x_2 x_3 hn
      exact absurd hn (Nat.not_lt_zero _)
    | succ n ih_6 =>
      intro q_1 hV_q_1 hF_q_1 hK_q_1 p0_q_1 p1_q_1 p2_q_1 p3_q_1 p4_q_1 x_2 x_3 hn
      have y_5 : (q_1.1 a0 4).toInt = (q.1 a0 4).toInt := by rw [p0_q_1]
      refine wa_aload_n B dX12_go_0 rfl 0 rfl ?_
      refine wa_getI B (C := RX12) (T := TX12) (N := 51) iq_X12_go_X12 ha0 ka0 (by decide) rfl 6 (by decide) (by decide) (by decide +kernel) rfl (by decide) (v := (q_1.1 a0 6)) rfl dX12_go_1 ?_
      have g_7 : (0 : Int) ≤ (q_1.1 a0 6).toInt ∧ (q_1.1 a0 6).toInt ≤ 500 := hV_q_1.int ha0 ka0 6
      refine wa_aload_n B dX12_go_4 rfl 0 rfl ?_
      refine wa_getI B (C := RX12) (T := TX12) (N := 51) iq_X12_go_X12 ha0 ka0 (by decide) rfl 4 (by decide) (by decide) (by decide +kernel) rfl (by decide) (v := (q.1 a0 4)) p0_q_1 dX12_go_5 ?_
      have g_8 : (0 : Int) ≤ (q.1 a0 4).toInt ∧ (q.1 a0 4).toInt ≤ 500 := by rw [← p0_q_1]; exact hV_q_1.int ha0 ka0 4
      have Jn_52_10 : ∀ (_ : Unit), pz_skip F n9 (q.1 a0 6).toInt.toNat = (q_1.1 a0 6).toInt.toNat → WA l dC dI h L ({ frames := 2, cells := 0, slots := 0, locals := 41 } : Room) 5 Z q_1 52 [(0, .ref a0)] [] := by
        intro _ x_9
        refine wa_aload_n B dX12_go_52 rfl 0 rfl ?_
        refine wa_aload_n B dX12_go_53 rfl 0 rfl ?_
        refine wa_getI B (C := RX12) (T := TX12) (N := 51) iq_X12_go_X12 ha0 ka0 (by decide) rfl 6 (by decide) (by decide) (by decide +kernel) rfl (by decide) (v := (q_1.1 a0 6)) rfl dX12_go_54 ?_
        refine wa_putI B (C := RX12) (T := TX12) (N := 51) iq_X12_go_X12 ha0 ka0 (by decide) rfl 7 (by decide) (by decide) (by decide +kernel) rfl (by decide) (v := (q_1.1 a0 6)) (ty := .int) tyX12 tyX12_ok nmX12 rfl (by decide +kernel) rfl rfl dX12_go_57 (fun q_11 eq_11 => ?_)
        have hV_q_11 : sx_V h L q_11 := by rw [eq_11]; exact hV_q_1.pI ka0 (show sx_in (q_1.1 a0 6) (0) 500 from ⟨by omega, by omega⟩)
        have hF_q_11 : sx_fr h L (fun a => h.1 a = 12) q q_11 := hF_q_1.tr (by rw [eq_11]; exact sx_fr.pI (show h.1 a0 = 12 from ka0))
        have z_12 : q_11.1 a0 7 = (q_1.1 a0 6) := by rw [eq_11]; exact sg_pI_e
        have hK_q_11 : sx_kf a0 [6, 7, 8, 9, 11, 12, 13] q q_11 := hK_q_1.tr (by rw [eq_11]; exact sx_kf.pI (by decide))
        refine wa_aload_n B dX12_go_60 rfl 0 rfl ?_
        have z_13 : q_11.1 a0 4 = (q.1 a0 4) := ((show q_11.1 a0 4 = q_1.1 a0 4 from by rw [eq_11]; exact sg_pI_k (by decide))).trans (p0_q_1)
        refine wa_getI B (C := RX12) (T := TX12) (N := 51) iq_X12_go_X12 ha0 ka0 (by decide) rfl 4 (by decide) (by decide) (by decide +kernel) rfl (by decide) (v := (q.1 a0 4)) z_13 dX12_go_61 ?_
        refine wa_aload_n B dX12_go_64 rfl 0 rfl ?_
        have z_14 : q_11.1 a0 5 = (q.1 a0 5) := ((show q_11.1 a0 5 = q_1.1 a0 5 from by rw [eq_11]; exact sg_pI_k (by decide))).trans (p1_q_1)
        refine wa_getI B (C := RX12) (T := TX12) (N := 51) iq_X12_go_X12 ha0 ka0 (by decide) rfl 5 (by decide) (by decide) (by decide +kernel) rfl (by decide) (v := (q.1 a0 5)) z_14 dX12_go_65 ?_
        have g_15 : (0 : Int) ≤ (q.1 a0 5).toInt ∧ (q.1 a0 5).toInt ≤ 500 := by rw [← z_14]; exact hV_q_11.int ha0 ka0 5
        have Jn_96_17 : ∀ (_ : Unit), (q_11.1 a0 4).toInt ≤ 400 ∨ (q_11.1 a0 7).toInt < 400 → WA l dC dI h L ({ frames := 2, cells := 0, slots := 0, locals := 41 } : Room) 5 Z q_11 96 [(0, .ref a0)] [] := by
          intro _ x_16
          have y_18 : (q_11.1 a0 4).toInt = (q.1 a0 4).toInt := by rw [z_13]
          have y_19 : (q_11.1 a0 7).toInt = (q_1.1 a0 6).toInt := by rw [z_12]
          refine wa_aload_n B dX12_go_96 rfl 0 rfl ?_
          have z_20 : q_11.1 a0 6 = q_1.1 a0 6 := (show q_11.1 a0 6 = q_1.1 a0 6 from by rw [eq_11]; exact sg_pI_k (by decide))
          refine wa_getI B (C := RX12) (T := TX12) (N := 51) iq_X12_go_X12 ha0 ka0 (by decide) rfl 6 (by decide) (by decide) (by decide +kernel) rfl (by decide) (v := (q_1.1 a0 6)) z_20 dX12_go_97 ?_
          refine wa_aload_n B dX12_go_100 rfl 0 rfl ?_
          refine wa_getI B (C := RX12) (T := TX12) (N := 51) iq_X12_go_X12 ha0 ka0 (by decide) rfl 4 (by decide) (by decide) (by decide +kernel) rfl (by decide) (v := (q.1 a0 4)) z_13 dX12_go_101 ?_
          refine wa_icmp_lt B 113 dX12_go_104 (by decide) (fun (t_21 : (q_1.1 a0 6).toInt < (q.1 a0 4).toInt) => ?_) (fun (t_21 : ¬ (q_1.1 a0 6).toInt < (q.1 a0 4).toInt) => ?_)
          · refine wa_aload_n B dX12_go_113 rfl 0 rfl ?_
            have z_22 : q_11.2.2.1 a0 3 = m3 := ((show q_11.2.2.1 a0 3 = q_1.2.2.1 a0 3 from by rw [eq_11]; rfl)).trans (p3_q_1)
            refine wa_getR B (C := RX12) (T := TX12) (N := 51) iq_X12_go_X12 ha0 ka0 (by decide) rfl 3 (by decide) (by decide) (by decide +kernel) rfl (fun _ _ _ => rfl) (v := m3) z_22 dX12_go_114 ?_
            refine wa_aload_n B dX12_go_117 rfl 0 rfl ?_
            refine wa_getI B (C := RX12) (T := TX12) (N := 51) iq_X12_go_X12 ha0 ka0 (by decide) rfl 6 (by decide) (by decide) (by decide +kernel) rfl (by decide) (v := (q_1.1 a0 6)) z_20 dX12_go_118 ?_
            have u_23 : (q.2.2.2.1 m3 ((q_1.1 a0 6) : Int32).toNatClampNeg) = F ((q_1.1 a0 6) : Int32).toInt.toNat := by rw [zx_nc]; exact hFF _ (by omega)
            have u_24 := congrArg Int32.toInt u_23
            have hp9 : ((q_1.1 a0 6) : Int32).toInt.toNat < min n9 400 := by omega
            clear x_16
            have z_25 : q_11.2.2.2.1 m3 = (q.2.2.2.1 m3) := ((show q_11.2.2.2.1 m3 = q_1.2.2.2.1 m3 from by rw [eq_11]; rfl)).trans (p4_q_1)
            have z_26 : q_11.2.2.2.1 m3 ((q_1.1 a0 6) : Int32).toNatClampNeg = (q.2.2.2.1 m3 ((q_1.1 a0 6) : Int32).toNatClampNeg) := congrFun z_25 _
            refine wa_iaload B hm3 km3 (by decide) (by decide) (show 0 ≤ (q_1.1 a0 6).toInt by omega) (show (q_1.1 a0 6).toInt < (h.2.1 m3 : Int) by omega) (v := (q.2.2.2.1 m3 ((q_1.1 a0 6) : Int32).toNatClampNeg)) z_26 dX12_go_121 ?_
            have g_27 : (0 : Int) ≤ ((q.2.2.2.1 m3 ((q_1.1 a0 6) : Int32).toNatClampNeg)).toInt ∧ ((q.2.2.2.1 m3 ((q_1.1 a0 6) : Int32).toNatClampNeg)).toInt ≤ 255 := by rw [← z_26]; exact hV_q_11.cnt hm3 km3 _
            refine wa_istore_n B [(1, .int ((q.2.2.2.1 m3 ((q_1.1 a0 6) : Int32).toNatClampNeg))), (0, .ref a0)] dX12_go_122 rfl (by decide) rfl ?_
            refine wa_iload_n B dX12_go_123 rfl 0 rfl ?_
            refine wa_callSi B (As := [.int ((q.2.2.2.1 m3 ((q_1.1 a0 6) : Int32).toNatClampNeg))]) (rest := []) (k_X12_isLetter_c l dC dI h L hN q_11 hV_q_11 ((q.2.2.2.1 m3 ((q_1.1 a0 6) : Int32).toNatClampNeg))  ) (va_cwS 1 B.1.2.2.2.2 gX12_go_X12_isLetter rfl rfl rfl (by decide +kernel) ⟨Nat.le_of_ble_eq_true rfl, Nat.le_of_ble_eq_true rfl⟩) rfl rfl (Nat.le_of_ble_eq_true rfl) dX12_go_124 (fun r_29 q_28 w_30 => ?_)
            obtain ⟨ew_30, hw_30⟩ := w_30
            subst ew_30
            have Jn_175_32 : ∀ (_ : Unit), 97 ≤ ((q.2.2.2.1 m3 ((q_1.1 a0 6) : Int32).toNatClampNeg)).toInt ∧ ((q.2.2.2.1 m3 ((q_1.1 a0 6) : Int32).toNatClampNeg)).toInt ≤ 122 ∨ 48 ≤ ((q.2.2.2.1 m3 ((q_1.1 a0 6) : Int32).toNatClampNeg)).toInt ∧ ((q.2.2.2.1 m3 ((q_1.1 a0 6) : Int32).toNatClampNeg)).toInt ≤ 57 → WA l dC dI h L ({ frames := 2, cells := 0, slots := 0, locals := 41 } : Room) 5 Z q_11 175 [(1, .int ((q.2.2.2.1 m3 ((q_1.1 a0 6) : Int32).toNatClampNeg))), (0, .ref a0)] [] := by
              intro _ x_31
              refine wa_iload_n B dX12_go_175 rfl 0 rfl ?_
              refine wa_callSi B (As := [.int ((q.2.2.2.1 m3 ((q_1.1 a0 6) : Int32).toNatClampNeg))]) (rest := []) (k_X12_isLetter_c l dC dI h L hN q_11 hV_q_11 ((q.2.2.2.1 m3 ((q_1.1 a0 6) : Int32).toNatClampNeg))  ) (va_cwS 1 B.1.2.2.2.2 gX12_go_X12_isLetter rfl rfl rfl (by decide +kernel) ⟨Nat.le_of_ble_eq_true rfl, Nat.le_of_ble_eq_true rfl⟩) rfl rfl (Nat.le_of_ble_eq_true rfl) dX12_go_176 (fun r_34 q_33 w_35 => ?_)
              obtain ⟨ew_35, hw_35⟩ := w_35
              subst ew_35
              refine wa_istore_n B [(2, .int r_34), (1, .int ((q.2.2.2.1 m3 ((q_1.1 a0 6) : Int32).toNatClampNeg))), (0, .ref a0)] dX12_go_179 rfl (by decide) rfl ?_
              obtain ⟨hL9, hL0⟩ := pg_L hw_35 x_31 u_23
              clear hw_35 x_31 hw_30
              refine wa_iconst B 1 dX12_go_180 (by decide) ?_
              refine wa_istore_n B [(3, .int 1), (2, .int r_34), (1, .int ((q.2.2.2.1 m3 ((q_1.1 a0 6) : Int32).toNatClampNeg))), (0, .ref a0)] dX12_go_181 rfl (by decide) rfl ?_
              refine wa_aload_n B dX12_go_182 rfl 3 rfl ?_
              refine wa_lconst B 0 dX12_go_183 (by decide) ?_
              refine wa_putJ B (C := RX12) (T := TX12) (N := 51) iq_X12_go_X12 ha0 ka0 (by decide) rfl 11 (by decide) (by decide) (by decide +kernel) rfl (by decide) (v := 0) (ty := .long) tyX12 tyX12_ok nmX12 rfl (by decide +kernel) rfl rfl dX12_go_184 (fun q_36 eq_36 => ?_)
              have hV_q_36 : sx_V h L q_36 := by rw [eq_36]; exact hV_q_11.pJ
              have hF_q_36 : sx_fr h L (fun a => h.1 a = 12) q q_36 := hF_q_11.tr (by rw [eq_36]; exact sx_fr.pJ (show h.1 a0 = 12 from ka0))
              have z_37 : q_36.2.1 a0 11 = 0 := by rw [eq_36]; exact sg_pJ_e
              have hK_q_36 : sx_kf a0 [6, 7, 8, 9, 11, 12, 13] q q_36 := hK_q_11.tr (by rw [eq_36]; exact sx_kf.pJ (by decide))
              have z_38 : q_36.1 a0 7 = (q_1.1 a0 6) := ((show q_36.1 a0 7 = q_11.1 a0 7 from by rw [eq_36]; rfl)).trans (z_12)
              have z_41 : q_36.1 a0 4 = (q.1 a0 4) := ((show q_36.1 a0 4 = q_11.1 a0 4 from by rw [eq_36]; rfl)).trans (z_13)
              have z_42 : q_36.1 a0 5 = (q.1 a0 5) := ((show q_36.1 a0 5 = q_11.1 a0 5 from by rw [eq_36]; rfl)).trans (z_14)
              have z_43 : q_36.1 a0 10 = (q.1 a0 10) := ((show q_36.1 a0 10 = q_11.1 a0 10 from by rw [eq_36]; rfl)).trans (((show q_11.1 a0 10 = q_1.1 a0 10 from by rw [eq_11]; exact sg_pI_k (by decide))).trans (p2_q_1))
              have z_44 : q_36.1 a0 6 = (q_1.1 a0 6) := ((show q_36.1 a0 6 = q_11.1 a0 6 from by rw [eq_36]; rfl)).trans (z_20)
              have z_45 : q_36.2.2.1 a0 3 = m3 := ((show q_36.2.2.1 a0 3 = q_11.2.2.1 a0 3 from by rw [eq_36]; rfl)).trans (z_22)
              have z_46 : q_36.2.2.2.1 m3 = (q.2.2.2.1 m3) := ((show q_36.2.2.2.1 m3 = q_11.2.2.2.1 m3 from by rw [eq_36]; rfl)).trans (z_25)
              have Lp_187_52 : ∀ (n : Nat) (v_39 : Int32) (q_40 : Sg), sx_V h L q_40 → sx_fr h L (fun a => h.1 a = 12) q q_40 → sx_kf a0 [6, 7, 8, 9, 11, 12, 13] q q_40 → q_40.1 a0 4 = (q.1 a0 4) → q_40.1 a0 5 = (q.1 a0 5) → q_40.1 a0 10 = (q.1 a0 10) → q_40.1 a0 7 = (q_1.1 a0 6) → q_40.2.2.1 a0 3 = m3 → q_40.2.2.2.1 m3 = (q.2.2.2.1 m3) → (q_40.1 a0 7).toInt ≤ (q_40.1 a0 6).toInt → (q_40.1 a0 6).toInt ≤ (q_40.1 a0 4).toInt → (q_40.1 a0 7).toInt < (q_40.1 a0 4).toInt → v_39.toInt = 0 ∨ v_39.toInt = 1 → tg_I F n9 ((q_1.1 a0 6)).toInt.toNat (q_40.1 a0 6) v_39 (q_40.2.1 a0 11) r_34 → ((q_40.1 a0 4).toInt - (q_40.1 a0 6).toInt : Int).toNat < n → WA l dC dI h L ({ frames := 2, cells := 0, slots := 0, locals := 41 } : Room) 5 Z q_40 187 [(3, .int v_39), (2, .int r_34), (1, .int ((q.2.2.2.1 m3 ((q_1.1 a0 6) : Int32).toNatClampNeg))), (0, .ref a0)] [] := by
                intro n
                induction n with
                | zero =>
                  intro v_39 q_40 hV_q_40 hF_q_40 hK_q_40 p0_q_40 p1_q_40 p2_q_40 p3_q_40 p4_q_40 p5_q_40 x_47 x_48 x_49 x_50 x_51 hn
                  exact absurd hn (Nat.not_lt_zero _)
                | succ n ih_55 =>
                  intro v_39 q_40 hV_q_40 hF_q_40 hK_q_40 p0_q_40 p1_q_40 p2_q_40 p3_q_40 p4_q_40 p5_q_40 x_47 x_48 x_49 x_50 x_51 hn
                  have y_53 : (q_40.1 a0 4).toInt = (q.1 a0 4).toInt := by rw [p0_q_40]
                  have y_54 : (q_40.1 a0 7).toInt = (q_1.1 a0 6).toInt := by rw [p3_q_40]
                  refine wa_aload_n B dX12_go_187 rfl 3 rfl ?_
                  refine wa_aload_n B dX12_go_188 rfl 3 rfl ?_
                  refine wa_getI B (C := RX12) (T := TX12) (N := 51) iq_X12_go_X12 ha0 ka0 (by decide) rfl 6 (by decide) (by decide) (by decide +kernel) rfl (by decide) (v := (q_40.1 a0 6)) rfl dX12_go_189 ?_
                  have g_56 : (0 : Int) ≤ (q_40.1 a0 6).toInt ∧ (q_40.1 a0 6).toInt ≤ 500 := hV_q_40.int ha0 ka0 6
                  have y_57 : (q_40.1 a0 4).toInt = (q.1 a0 4).toInt := by rw [p0_q_40]
                  refine wa_callVi B (x := (RX12, TX12, 51)) (As := [.int (q_40.1 a0 6)]) (rest := []) (k_X12_at_c l dC dI h L hN q_40 hV_q_40 (a0 := a0) ha0 ka0 (q_40.1 a0 6) (m3 := m3) p4_q_40  (by first | assumption | omega | decide)) (cwV 1 B.1.2.2.2.2 gX12_go_X12_at rfl rfl rfl (by decide +kernel) ⟨Nat.le_of_ble_eq_true rfl, Nat.le_of_ble_eq_true rfl⟩) ha0 ka0 (by decide) rfl rfl rfl (Nat.le_of_ble_eq_true rfl) dX12_go_192 (fun r_59 q_58 w_60 => ?_)
                  obtain ⟨ew_60, hw_60⟩ := w_60
                  subst ew_60
                  have y_61 : (q_40.1 a0 4).toInt = (q.1 a0 4).toInt := by rw [p0_q_40]
                  have u_62 : (q_40.1 a0 6).toInt < (n9 : Int) ∧ (F (q_40.1 a0 6).toInt.toNat).toInt = r_59.toInt ∨ (n9 : Int) ≤ (q_40.1 a0 6).toInt ∧ r_59.toInt = 0 := hw_60.elim (fun z => Or.inl ⟨by omega, by rw [z.2, zx_nc, p5_q_40, hFF _ (by omega)]⟩) (fun z => Or.inr ⟨by omega, z.2⟩)
                  refine wa_callSi B (As := [.int r_59]) (rest := []) (k_X12_isLetter_c l dC dI h L hN q_40 hV_q_40 r_59  ) (va_cwS 1 B.1.2.2.2.2 gX12_go_X12_isLetter rfl rfl rfl (by decide +kernel) ⟨Nat.le_of_ble_eq_true rfl, Nat.le_of_ble_eq_true rfl⟩) rfl rfl (Nat.le_of_ble_eq_true rfl) dX12_go_195 (fun r_64 q_63 w_65 => ?_)
                  obtain ⟨ew_65, hw_65⟩ := w_65
                  subst ew_65
                  have Jn_216_68 : ∀ (_ : Unit), (q_40.1 a0 6).toInt < (q_40.1 a0 4).toInt → pz_hd (pz_l (F (q_40.1 a0 6).toInt.toNat) ∨ pz_d (F (q_40.1 a0 6).toInt.toNat)) → WA l dC dI h L ({ frames := 2, cells := 0, slots := 0, locals := 41 } : Room) 5 Z q_40 216 [(3, .int v_39), (2, .int r_34), (1, .int ((q.2.2.2.1 m3 ((q_1.1 a0 6) : Int32).toNatClampNeg))), (0, .ref a0)] [] := by
                    intro _ x_66 x_67
                    have y_69 : (q_40.1 a0 4).toInt = (q.1 a0 4).toInt := by rw [p0_q_40]
                    refine wa_aload_n B dX12_go_216 rfl 3 rfl ?_
                    clear hw_60 u_62 hw_65
                    refine wa_getR B (C := RX12) (T := TX12) (N := 51) iq_X12_go_X12 ha0 ka0 (by decide) rfl 3 (by decide) (by decide) (by decide +kernel) rfl (fun _ _ _ => rfl) (v := m3) p4_q_40 dX12_go_217 ?_
                    refine wa_aload_n B dX12_go_220 rfl 3 rfl ?_
                    refine wa_getI B (C := RX12) (T := TX12) (N := 51) iq_X12_go_X12 ha0 ka0 (by decide) rfl 6 (by decide) (by decide) (by decide +kernel) rfl (by decide) (v := (q_40.1 a0 6)) rfl dX12_go_221 ?_
                    have u_70 : (q.2.2.2.1 m3 ((q_40.1 a0 6) : Int32).toNatClampNeg) = F ((q_40.1 a0 6) : Int32).toInt.toNat := by rw [zx_nc]; exact hFF _ (by omega)
                    have u_71 := congrArg Int32.toInt u_70
                    have z_72 : q_40.2.2.2.1 m3 ((q_40.1 a0 6) : Int32).toNatClampNeg = (q.2.2.2.1 m3 ((q_40.1 a0 6) : Int32).toNatClampNeg) := congrFun p5_q_40 _
                    refine wa_iaload B hm3 km3 (by decide) (by decide) (show 0 ≤ (q_40.1 a0 6).toInt by omega) (show (q_40.1 a0 6).toInt < (h.2.1 m3 : Int) by omega) (v := (q.2.2.2.1 m3 ((q_40.1 a0 6) : Int32).toNatClampNeg)) z_72 dX12_go_224 ?_
                    have g_73 : (0 : Int) ≤ ((q.2.2.2.1 m3 ((q_40.1 a0 6) : Int32).toNatClampNeg)).toInt ∧ ((q.2.2.2.1 m3 ((q_40.1 a0 6) : Int32).toNatClampNeg)).toInt ≤ 255 := by rw [← z_72]; exact hV_q_40.cnt hm3 km3 _
                    refine wa_istore B [(4, .int ((q.2.2.2.1 m3 ((q_40.1 a0 6) : Int32).toNatClampNeg))), (3, .int v_39), (2, .int r_34), (1, .int ((q.2.2.2.1 m3 ((q_1.1 a0 6) : Int32).toNatClampNeg))), (0, .ref a0)] dX12_go_225 (by decide) rfl ?_
                    refine wa_iload_n B dX12_go_227 rfl 1 rfl ?_
                    have Jn_245_76 : ∀  (v_74 : Int32), pg_G v_74 v_39 r_34 ((q.2.2.2.1 m3 ((q_40.1 a0 6) : Int32).toNatClampNeg)) → WA l dC dI h L ({ frames := 2, cells := 0, slots := 0, locals := 41 } : Room) 5 Z q_40 245 [(4, .int ((q.2.2.2.1 m3 ((q_40.1 a0 6) : Int32).toNatClampNeg))), (3, .int v_39), (2, .int r_34), (1, .int ((q.2.2.2.1 m3 ((q_1.1 a0 6) : Int32).toNatClampNeg))), (0, .ref a0)] [.int v_74] := by
                      intro v_74 x_75
                      refine wa_istore_n B [(3, .int v_74), (4, .int ((q.2.2.2.1 m3 ((q_40.1 a0 6) : Int32).toNatClampNeg))), (2, .int r_34), (1, .int ((q.2.2.2.1 m3 ((q_1.1 a0 6) : Int32).toNatClampNeg))), (0, .ref a0)] dX12_go_245 rfl (by decide) rfl ?_
                      refine wa_aload_n B dX12_go_246 rfl 4 rfl ?_
                      refine wa_getI B (C := RX12) (T := TX12) (N := 51) iq_X12_go_X12 ha0 ka0 (by decide) rfl 6 (by decide) (by decide) (by decide +kernel) rfl (by decide) (v := (q_40.1 a0 6)) rfl dX12_go_247 ?_
                      refine wa_aload_n B dX12_go_250 rfl 4 rfl ?_
                      refine wa_getI B (C := RX12) (T := TX12) (N := 51) iq_X12_go_X12 ha0 ka0 (by decide) rfl 7 (by decide) (by decide) (by decide +kernel) rfl (by decide) (v := (q_1.1 a0 6)) p3_q_40 dX12_go_251 ?_
                      have g_77 : (0 : Int) ≤ (q_1.1 a0 6).toInt ∧ (q_1.1 a0 6).toInt ≤ 500 := by rw [← p3_q_40]; exact hV_q_40.int ha0 ka0 7
                      refine wa_isub B dX12_go_254 (fun v_78 ev_78 => ?_)
                      refine wa_bipush B 8 dX12_go_255 (by decide) ?_
                      have tv_78 : v_78.toInt = (q_40.1 a0 6).toInt - (q_1.1 a0 6).toInt := by have b0 := zx_bd (q_40.1 a0 6); have b1 := zx_bd (q_1.1 a0 6); rw [ev_78]; exact zx_sub (show (-2147483648 : Int) ≤ (q_40.1 a0 6).toInt - (q_1.1 a0 6).toInt by omega) (show (q_40.1 a0 6).toInt - (q_1.1 a0 6).toInt < (2147483648 : Int) by omega)
                      refine wa_icmp_ge B 280 dX12_go_257 (by decide) (fun (t_79 : 8 ≤ v_78.toInt) => ?_) (fun (t_79 : ¬ 8 ≤ v_78.toInt) => ?_)
                      · refine wa_aload_n B dX12_go_280 rfl 4 rfl ?_
                        refine wa_dup B dX12_go_281 rfl ?_
                        refine wa_getI B (C := RX12) (T := TX12) (N := 51) iq_X12_go_X12 ha0 ka0 (by decide) rfl 6 (by decide) (by decide) (by decide +kernel) rfl (by decide) (v := (q_40.1 a0 6)) rfl dX12_go_282 ?_
                        refine wa_iconst B 1 dX12_go_285 (by decide) ?_
                        refine wa_iadd B dX12_go_286 (fun v_80 ev_80 => ?_)
                        have tv_80 : v_80.toInt = (q_40.1 a0 6).toInt + 1 := by have b0 := zx_bd (q_40.1 a0 6); rw [ev_80]; exact zx_add (show (-2147483648 : Int) ≤ (q_40.1 a0 6).toInt + 1 by omega) (show (q_40.1 a0 6).toInt + 1 < (2147483648 : Int) by omega)
                        refine wa_putI B (C := RX12) (T := TX12) (N := 51) iq_X12_go_X12 ha0 ka0 (by decide) rfl 6 (by decide) (by decide) (by decide +kernel) rfl (by decide) (v := v_80) (ty := .int) tyX12 tyX12_ok nmX12 rfl (by decide +kernel) rfl rfl dX12_go_287 (fun q_81 eq_81 => ?_)
                        have hV_q_81 : sx_V h L q_81 := by rw [eq_81]; exact hV_q_40.pI ka0 (show sx_in v_80 (0) 500 from ⟨by omega, by omega⟩)
                        have hF_q_81 : sx_fr h L (fun a => h.1 a = 12) q q_81 := hF_q_40.tr (by rw [eq_81]; exact sx_fr.pI (show h.1 a0 = 12 from ka0))
                        have z_82 : q_81.1 a0 6 = v_80 := by rw [eq_81]; exact sg_pI_e
                        have hK_q_81 : sx_kf a0 [6, 7, 8, 9, 11, 12, 13] q q_81 := hK_q_40.tr (by rw [eq_81]; exact sx_kf.pI (by decide))
                        refine wa_goto B 187 dX12_go_290 (by decide) ?_
                        have z_83 : q_81.1 a0 4 = (q.1 a0 4) := ((show q_81.1 a0 4 = q_40.1 a0 4 from by rw [eq_81]; exact sg_pI_k (by decide))).trans (p0_q_40)
                        have y_84 : (q_81.1 a0 4).toInt = (q.1 a0 4).toInt := by rw [z_83]
                        have y_85 : (q_81.1 a0 6).toInt = v_80.toInt := by rw [z_82]
                        have z_86 : q_81.1 a0 7 = (q_1.1 a0 6) := ((show q_81.1 a0 7 = q_40.1 a0 7 from by rw [eq_81]; exact sg_pI_k (by decide))).trans (p3_q_40)
                        have y_87 : (q_81.1 a0 7).toInt = (q_1.1 a0 6).toInt := by rw [z_86]
                        have z_88 : q_81.1 a0 5 = (q.1 a0 5) := ((show q_81.1 a0 5 = q_40.1 a0 5 from by rw [eq_81]; exact sg_pI_k (by decide))).trans (p1_q_40)
                        have z_89 : q_81.1 a0 10 = (q.1 a0 10) := ((show q_81.1 a0 10 = q_40.1 a0 10 from by rw [eq_81]; exact sg_pI_k (by decide))).trans (p2_q_40)
                        have z_90 : q_81.2.2.1 a0 3 = m3 := ((show q_81.2.2.1 a0 3 = q_40.2.2.1 a0 3 from by rw [eq_81]; rfl)).trans (p4_q_40)
                        have z_91 : q_81.2.2.2.1 m3 = (q.2.2.2.1 m3) := ((show q_81.2.2.2.1 m3 = q_40.2.2.2.1 m3 from by rw [eq_81]; rfl)).trans (p5_q_40)
                        have z_92 : q_81.2.1 a0 11 = q_40.2.1 a0 11 := (show q_81.2.1 a0 11 = q_40.2.1 a0 11 from by rw [eq_81]; rfl)
                        refine WA.sub [0, 2, 3, 4] rfl ?_
                        exact ih_55 v_74 q_81 hV_q_81 hF_q_81 hK_q_81 z_83 z_88 z_89 z_86 z_90 z_91 (show (q_81.1 a0 7).toInt ≤ (q_81.1 a0 6).toInt from by first | assumption | omega | decide) (show (q_81.1 a0 6).toInt ≤ (q_81.1 a0 4).toInt from by first | assumption | omega | decide) (show (q_81.1 a0 7).toInt < (q_81.1 a0 4).toInt from by first | assumption | omega | decide) (show v_74.toInt = 0 ∨ v_74.toInt = 1 from by exact pg_01 x_75) (show tg_I F n9 ((q_1.1 a0 6)).toInt.toNat (q_81.1 a0 6) v_74 (q_81.2.1 a0 11) r_34 from by rw [z_82, z_92]; exact tg_s x_51 (by omega) u_70 (by rw [u_70]; exact x_67) (by omega) x_75 (Or.inr ⟨by omega, rfl⟩)) (show ((q_81.1 a0 4).toInt - (q_81.1 a0 6).toInt : Int).toNat < _ from by omega)
                      · refine wa_aload_n B dX12_go_260 rfl 4 rfl ?_
                        refine wa_ldc2 B 27 (by decide +kernel) dX12_go_261 ?_
                        refine wa_aload_n B dX12_go_264 rfl 4 rfl ?_
                        refine wa_getJ B (C := RX12) (T := TX12) (N := 51) iq_X12_go_X12 ha0 ka0 (by decide) rfl 11 (by decide) (by decide) (by decide +kernel) rfl (by decide) (v := (q_40.2.1 a0 11)) rfl dX12_go_265 ?_
                        refine wa_lmul B dX12_go_268 (fun v_93 ev_93 => ?_)
                        refine wa_iload B dX12_go_269 1 rfl ?_
                        refine wa_i2l B dX12_go_271 (fun v_94 ev_94 => ?_)
                        refine wa_ladd B dX12_go_272 (fun v_95 ev_95 => ?_)
                        refine wa_ldc2 B 96 (by decide +kernel) dX12_go_273 ?_
                        refine wa_lsub B dX12_go_276 (fun v_96 ev_96 => ?_)
                        refine wa_putJ B (C := RX12) (T := TX12) (N := 51) iq_X12_go_X12 ha0 ka0 (by decide) rfl 11 (by decide) (by decide) (by decide +kernel) rfl (by decide) (v := v_96) (ty := .long) tyX12 tyX12_ok nmX12 rfl (by decide +kernel) rfl rfl dX12_go_277 (fun q_97 eq_97 => ?_)
                        have hV_q_97 : sx_V h L q_97 := by rw [eq_97]; exact hV_q_40.pJ
                        have hF_q_97 : sx_fr h L (fun a => h.1 a = 12) q q_97 := hF_q_40.tr (by rw [eq_97]; exact sx_fr.pJ (show h.1 a0 = 12 from ka0))
                        have z_98 : q_97.2.1 a0 11 = v_96 := by rw [eq_97]; exact sg_pJ_e
                        have hK_q_97 : sx_kf a0 [6, 7, 8, 9, 11, 12, 13] q q_97 := hK_q_40.tr (by rw [eq_97]; exact sx_kf.pJ (by decide))
                        refine wa_aload_n B dX12_go_280 rfl 4 rfl ?_
                        refine wa_dup B dX12_go_281 rfl ?_
                        have z_99 : q_97.1 a0 6 = q_40.1 a0 6 := (show q_97.1 a0 6 = q_40.1 a0 6 from by rw [eq_97]; rfl)
                        refine wa_getI B (C := RX12) (T := TX12) (N := 51) iq_X12_go_X12 ha0 ka0 (by decide) rfl 6 (by decide) (by decide) (by decide +kernel) rfl (by decide) (v := (q_40.1 a0 6)) z_99 dX12_go_282 ?_
                        refine wa_iconst B 1 dX12_go_285 (by decide) ?_
                        refine wa_iadd B dX12_go_286 (fun v_100 ev_100 => ?_)
                        have tv_100 : v_100.toInt = (q_40.1 a0 6).toInt + 1 := by have b0 := zx_bd (q_40.1 a0 6); rw [ev_100]; exact zx_add (show (-2147483648 : Int) ≤ (q_40.1 a0 6).toInt + 1 by omega) (show (q_40.1 a0 6).toInt + 1 < (2147483648 : Int) by omega)
                        refine wa_putI B (C := RX12) (T := TX12) (N := 51) iq_X12_go_X12 ha0 ka0 (by decide) rfl 6 (by decide) (by decide) (by decide +kernel) rfl (by decide) (v := v_100) (ty := .int) tyX12 tyX12_ok nmX12 rfl (by decide +kernel) rfl rfl dX12_go_287 (fun q_101 eq_101 => ?_)
                        have hV_q_101 : sx_V h L q_101 := by rw [eq_101]; exact hV_q_97.pI ka0 (show sx_in v_100 (0) 500 from ⟨by omega, by omega⟩)
                        have hF_q_101 : sx_fr h L (fun a => h.1 a = 12) q q_101 := hF_q_97.tr (by rw [eq_101]; exact sx_fr.pI (show h.1 a0 = 12 from ka0))
                        have z_102 : q_101.1 a0 6 = v_100 := by rw [eq_101]; exact sg_pI_e
                        have hK_q_101 : sx_kf a0 [6, 7, 8, 9, 11, 12, 13] q q_101 := hK_q_97.tr (by rw [eq_101]; exact sx_kf.pI (by decide))
                        refine wa_goto B 187 dX12_go_290 (by decide) ?_
                        have z_103 : q_101.1 a0 4 = (q.1 a0 4) := ((show q_101.1 a0 4 = q_97.1 a0 4 from by rw [eq_101]; exact sg_pI_k (by decide))).trans (((show q_97.1 a0 4 = q_40.1 a0 4 from by rw [eq_97]; rfl)).trans (p0_q_40))
                        have y_104 : (q_101.1 a0 4).toInt = (q.1 a0 4).toInt := by rw [z_103]
                        have y_105 : (q_101.1 a0 6).toInt = v_100.toInt := by rw [z_102]
                        have z_106 : q_101.1 a0 7 = (q_1.1 a0 6) := ((show q_101.1 a0 7 = q_97.1 a0 7 from by rw [eq_101]; exact sg_pI_k (by decide))).trans (((show q_97.1 a0 7 = q_40.1 a0 7 from by rw [eq_97]; rfl)).trans (p3_q_40))
                        have y_107 : (q_101.1 a0 7).toInt = (q_1.1 a0 6).toInt := by rw [z_106]
                        have z_108 : q_101.1 a0 5 = (q.1 a0 5) := ((show q_101.1 a0 5 = q_97.1 a0 5 from by rw [eq_101]; exact sg_pI_k (by decide))).trans (((show q_97.1 a0 5 = q_40.1 a0 5 from by rw [eq_97]; rfl)).trans (p1_q_40))
                        have z_109 : q_101.1 a0 10 = (q.1 a0 10) := ((show q_101.1 a0 10 = q_97.1 a0 10 from by rw [eq_101]; exact sg_pI_k (by decide))).trans (((show q_97.1 a0 10 = q_40.1 a0 10 from by rw [eq_97]; rfl)).trans (p2_q_40))
                        have z_110 : q_101.2.2.1 a0 3 = m3 := ((show q_101.2.2.1 a0 3 = q_97.2.2.1 a0 3 from by rw [eq_101]; rfl)).trans (((show q_97.2.2.1 a0 3 = q_40.2.2.1 a0 3 from by rw [eq_97]; rfl)).trans (p4_q_40))
                        have z_111 : q_101.2.2.2.1 m3 = (q.2.2.2.1 m3) := ((show q_101.2.2.2.1 m3 = q_97.2.2.2.1 m3 from by rw [eq_101]; rfl)).trans (((show q_97.2.2.2.1 m3 = q_40.2.2.2.1 m3 from by rw [eq_97]; rfl)).trans (p5_q_40))
                        have z_112 : q_101.2.1 a0 11 = v_96 := ((show q_101.2.1 a0 11 = q_97.2.1 a0 11 from by rw [eq_101]; rfl)).trans (z_98)
                        refine WA.sub [0, 2, 3, 4] rfl ?_
                        exact ih_55 v_74 q_101 hV_q_101 hF_q_101 hK_q_101 z_103 z_108 z_109 z_106 z_110 z_111 (show (q_101.1 a0 7).toInt ≤ (q_101.1 a0 6).toInt from by first | assumption | omega | decide) (show (q_101.1 a0 6).toInt ≤ (q_101.1 a0 4).toInt from by first | assumption | omega | decide) (show (q_101.1 a0 7).toInt < (q_101.1 a0 4).toInt from by first | assumption | omega | decide) (show v_74.toInt = 0 ∨ v_74.toInt = 1 from by exact pg_01 x_75) (show tg_I F n9 ((q_1.1 a0 6)).toInt.toNat (q_101.1 a0 6) v_74 (q_101.2.1 a0 11) r_34 from by rw [z_102, z_112]; exact tg_s x_51 (by omega) u_70 (by rw [u_70]; exact x_67) (by omega) x_75 (Or.inl ⟨by omega, by rw [ev_96, ev_95, ev_93, ev_94]⟩)) (show ((q_101.1 a0 4).toInt - (q_101.1 a0 6).toInt : Int).toNat < _ from by omega)
                    refine wa_if_eq B 244 dX12_go_228 (by decide) (fun (t_113 : v_39.toInt = 0) => ?_) (fun (t_113 : ¬ v_39.toInt = 0) => ?_)
                    · refine wa_iconst B 0 dX12_go_244 (by decide) ?_
                      exact Jn_245_76 0 (show pg_G (0 : Int32) v_39 r_34 ((q.2.2.2.1 m3 ((q_40.1 a0 6) : Int32).toNatClampNeg)) from by exact pg_gA (by omega) rfl)
                    · refine wa_iload B dX12_go_231 0 rfl ?_
                      refine wa_callSi B (As := [.int ((q.2.2.2.1 m3 ((q_40.1 a0 6) : Int32).toNatClampNeg))]) (rest := []) (k_X12_isLetter_c l dC dI h L hN q_40 hV_q_40 ((q.2.2.2.1 m3 ((q_40.1 a0 6) : Int32).toNatClampNeg))  ) (va_cwS 1 B.1.2.2.2.2 gX12_go_X12_isLetter rfl rfl rfl (by decide +kernel) ⟨Nat.le_of_ble_eq_true rfl, Nat.le_of_ble_eq_true rfl⟩) rfl rfl (Nat.le_of_ble_eq_true rfl) dX12_go_233 (fun r_115 q_114 w_116 => ?_)
                      obtain ⟨ew_116, hw_116⟩ := w_116
                      subst ew_116
                      refine wa_iload_n B dX12_go_236 rfl 2 rfl ?_
                      refine wa_icmp_ne B 244 dX12_go_237 (by decide) (fun (t_117 : ¬ r_115.toInt = r_34.toInt) => ?_) (fun (t_117 : r_115.toInt = r_34.toInt) => ?_)
                      · refine wa_iconst B 0 dX12_go_244 (by decide) ?_
                        exact Jn_245_76 0 (show pg_G (0 : Int32) v_39 r_34 ((q.2.2.2.1 m3 ((q_40.1 a0 6) : Int32).toNatClampNeg)) from by exact pg_gB hw_116 (by omega) rfl)
                      · refine wa_iconst B 1 dX12_go_240 (by decide) ?_
                        refine wa_goto B 245 dX12_go_241 (by decide) ?_
                        exact Jn_245_76 1 (show pg_G (1 : Int32) v_39 r_34 ((q.2.2.2.1 m3 ((q_40.1 a0 6) : Int32).toNatClampNeg)) from by exact pg_gC hw_116 (by omega) (by omega) x_50 rfl)
                  refine wa_if_ne B 216 dX12_go_198 (by decide) (fun (t_118 : ¬ r_64.toInt = 0) => ?_) (fun (t_118 : r_64.toInt = 0) => ?_)
                  · have y_119 : (q_40.1 a0 4).toInt = (q.1 a0 4).toInt := by rw [p0_q_40]
                    have y_120 : (q_40.1 a0 4).toInt = (q.1 a0 4).toInt := by rw [p0_q_40]
                    exact Jn_216_68 () (show (q_40.1 a0 6).toInt < (q_40.1 a0 4).toInt from by have y9 := (pg_lt1 u_62 hw_65 (by omega)).1; omega) (show pz_hd (pz_l (F (q_40.1 a0 6).toInt.toNat) ∨ pz_d (F (q_40.1 a0 6).toInt.toNat)) from by exact (pg_lt1 u_62 hw_65 (by omega)).2)
                  · refine wa_aload_n B dX12_go_201 rfl 3 rfl ?_
                    refine wa_aload_n B dX12_go_202 rfl 3 rfl ?_
                    refine wa_aload_n B dX12_go_203 rfl 3 rfl ?_
                    refine wa_getI B (C := RX12) (T := TX12) (N := 51) iq_X12_go_X12 ha0 ka0 (by decide) rfl 6 (by decide) (by decide) (by decide +kernel) rfl (by decide) (v := (q_40.1 a0 6)) rfl dX12_go_204 ?_
                    have y_121 : (q_40.1 a0 4).toInt = (q.1 a0 4).toInt := by rw [p0_q_40]
                    refine wa_callVi B (x := (RX12, TX12, 51)) (As := [.int (q_40.1 a0 6)]) (rest := [.ref a0]) (k_X12_at_c l dC dI h L hN q_40 hV_q_40 (a0 := a0) ha0 ka0 (q_40.1 a0 6) (m3 := m3) p4_q_40  (by first | assumption | omega | decide)) (cwV 1 B.1.2.2.2.2 gX12_go_X12_at rfl rfl rfl (by decide +kernel) ⟨Nat.le_of_ble_eq_true rfl, Nat.le_of_ble_eq_true rfl⟩) ha0 ka0 (by decide) rfl rfl rfl (Nat.le_of_ble_eq_true rfl) dX12_go_207 (fun r_123 q_122 w_124 => ?_)
                    obtain ⟨ew_124, hw_124⟩ := w_124
                    subst ew_124
                    have y_125 : (q_40.1 a0 4).toInt = (q.1 a0 4).toInt := by rw [p0_q_40]
                    have u_126 : (q_40.1 a0 6).toInt < (n9 : Int) ∧ (F (q_40.1 a0 6).toInt.toNat).toInt = r_123.toInt ∨ (n9 : Int) ≤ (q_40.1 a0 6).toInt ∧ r_123.toInt = 0 := hw_124.elim (fun z => Or.inl ⟨by omega, by rw [z.2, zx_nc, p5_q_40, hFF _ (by omega)]⟩) (fun z => Or.inr ⟨by omega, z.2⟩)
                    have y_127 : (q_40.1 a0 10).toInt = (q.1 a0 10).toInt := by rw [p2_q_40]
                    refine wa_callVi B (x := (RX12, TX12, 51)) (As := [.int r_123]) (rest := []) (k_X12_isCount_c l dC dI h L hN q_40 hV_q_40 (a0 := a0) ha0 ka0 r_123  (by first | assumption | omega | decide)) (cwV 1 B.1.2.2.2.2 gX12_go_X12_isCount rfl rfl rfl (by decide +kernel) ⟨Nat.le_of_ble_eq_true rfl, Nat.le_of_ble_eq_true rfl⟩) ha0 ka0 (by decide) rfl rfl rfl (Nat.le_of_ble_eq_true rfl) dX12_go_210 (fun r_129 q_128 w_130 => ?_)
                    obtain ⟨ew_130, hw_130⟩ := w_130
                    subst ew_130
                    refine wa_if_eq B 293 dX12_go_213 (by decide) (fun (t_131 : r_129.toInt = 0) => ?_) (fun (t_131 : ¬ r_129.toInt = 0) => ?_)
                    · have hex := pg_ex u_62 u_126 hw_65 (by omega) hw_130 (by omega)
                      clear hw_60 u_62 hw_65 hw_124 u_126 hw_130
                      refine wa_aload_n B dX12_go_293 rfl 3 rfl ?_
                      refine wa_getI B (C := RX12) (T := TX12) (N := 51) iq_X12_go_X12 ha0 ka0 (by decide) rfl 6 (by decide) (by decide) (by decide +kernel) rfl (by decide) (v := (q_40.1 a0 6)) rfl dX12_go_294 ?_
                      refine wa_aload_n B dX12_go_297 rfl 3 rfl ?_
                      refine wa_getI B (C := RX12) (T := TX12) (N := 51) iq_X12_go_X12 ha0 ka0 (by decide) rfl 7 (by decide) (by decide) (by decide +kernel) rfl (by decide) (v := (q_1.1 a0 6)) p3_q_40 dX12_go_298 ?_
                      have g_132 : (0 : Int) ≤ (q_1.1 a0 6).toInt ∧ (q_1.1 a0 6).toInt ≤ 500 := by rw [← p3_q_40]; exact hV_q_40.int ha0 ka0 7
                      refine wa_isub B dX12_go_301 (fun v_133 ev_133 => ?_)
                      refine wa_istore B [(4, .int v_133), (3, .int v_39), (2, .int r_34), (1, .int ((q.2.2.2.1 m3 ((q_1.1 a0 6) : Int32).toNatClampNeg))), (0, .ref a0)] dX12_go_302 (by decide) rfl ?_
                      have tv_133 : v_133.toInt = (q_40.1 a0 6).toInt - (q_1.1 a0 6).toInt := by have b0 := zx_bd (q_40.1 a0 6); have b1 := zx_bd (q_1.1 a0 6); rw [ev_133]; exact zx_sub (show (-2147483648 : Int) ≤ (q_40.1 a0 6).toInt - (q_1.1 a0 6).toInt by omega) (show (q_40.1 a0 6).toInt - (q_1.1 a0 6).toInt < (2147483648 : Int) by omega)
                      have u_134 : (q.2.2.2.1 m3 ((q_1.1 a0 6) : Int32).toNatClampNeg) = F (q_1.1 a0 6).toInt.toNat := by rw [zx_nc]; exact hFF _ (by omega)
                      have u_135 := congrArg Int32.toInt u_134
                      refine wa_aload_n B dX12_go_304 rfl 4 rfl ?_
                      refine wa_aload_n B dX12_go_305 rfl 4 rfl ?_
                      refine wa_getR B (C := RX12) (T := TX12) (N := 51) iq_X12_go_X12 ha0 ka0 (by decide) rfl 3 (by decide) (by decide) (by decide +kernel) rfl (fun _ _ _ => rfl) (v := m3) p4_q_40 dX12_go_306 ?_
                      refine wa_aload_n B dX12_go_309 rfl 4 rfl ?_
                      refine wa_getI B (C := RX12) (T := TX12) (N := 51) iq_X12_go_X12 ha0 ka0 (by decide) rfl 7 (by decide) (by decide) (by decide +kernel) rfl (by decide) (v := (q_1.1 a0 6)) p3_q_40 dX12_go_310 ?_
                      have z_136 : q_40.2.2.2.1 m3 ((q_1.1 a0 6) : Int32).toNatClampNeg = (q.2.2.2.1 m3 ((q_1.1 a0 6) : Int32).toNatClampNeg) := congrFun p5_q_40 _
                      refine wa_iaload B hm3 km3 (by decide) (by decide) (show 0 ≤ (q_1.1 a0 6).toInt by omega) (show (q_1.1 a0 6).toInt < (h.2.1 m3 : Int) by omega) (v := (q.2.2.2.1 m3 ((q_1.1 a0 6) : Int32).toNatClampNeg)) z_136 dX12_go_313 ?_
                      refine wa_callSi B (As := [.int ((q.2.2.2.1 m3 ((q_1.1 a0 6) : Int32).toNatClampNeg))]) (rest := [.ref a0]) (k_X12_digitOf_c l dC dI h L hN q_40 hV_q_40 ((q.2.2.2.1 m3 ((q_1.1 a0 6) : Int32).toNatClampNeg))  (by first | assumption | omega | decide) (by first | assumption | omega | decide)) (va_cwS 1 B.1.2.2.2.2 gX12_go_X12_digitOf rfl rfl rfl (by decide +kernel) ⟨Nat.le_of_ble_eq_true rfl, Nat.le_of_ble_eq_true rfl⟩) rfl rfl (Nat.le_of_ble_eq_true rfl) dX12_go_314 (fun r_138 q_137 w_139 => ?_)
                      obtain ⟨ew_139, hw_139⟩ := w_139
                      subst ew_139
                      have hd1 := pg_d hL9 u_134 hw_139
                      clear hw_139
                      refine wa_putI B (C := RX12) (T := TX12) (N := 51) iq_X12_go_X12 ha0 ka0 (by decide) rfl 12 (by decide) (by decide) (by decide +kernel) rfl (by decide) (v := r_138) (ty := .int) tyX12 tyX12_ok nmX12 rfl (by decide +kernel) rfl rfl dX12_go_317 (fun q_140 eq_140 => ?_)
                      have hV_q_140 : sx_V h L q_140 := by rw [eq_140]; exact hV_q_40.pI ka0 (show sx_in r_138 (-48) 207 from ⟨by omega, by omega⟩)
                      have hF_q_140 : sx_fr h L (fun a => h.1 a = 12) q q_140 := hF_q_40.tr (by rw [eq_140]; exact sx_fr.pI (show h.1 a0 = 12 from ka0))
                      have z_141 : q_140.1 a0 12 = r_138 := by rw [eq_140]; exact sg_pI_e
                      have hK_q_140 : sx_kf a0 [6, 7, 8, 9, 11, 12, 13] q q_140 := hK_q_40.tr (by rw [eq_140]; exact sx_kf.pI (by decide))
                      refine wa_aload_n B dX12_go_320 rfl 4 rfl ?_
                      refine wa_iload B dX12_go_321 0 rfl ?_
                      refine wa_iconst B 1 dX12_go_323 (by decide) ?_
                      have z_142 : q_140.1 a0 7 = (q_1.1 a0 6) := ((show q_140.1 a0 7 = q_40.1 a0 7 from by rw [eq_140]; exact sg_pI_k (by decide))).trans (p3_q_40)
                      have Jn_345_147 : ∀  (v_143 : Int32), (-48) ≤ v_143.toInt → v_143.toInt ≤ 207 → pz_hd (v_133.toInt ≤ 1 ∧ v_143.toInt = -1 ∨ 1 < v_133.toInt ∧ ((F (((q_1.1 a0 6)).toInt.toNat + 1)).toInt = 63 ∧ v_143.toInt = 10 ∨ ¬ (F (((q_1.1 a0 6)).toInt.toNat + 1)).toInt = 63 ∧ v_143.toInt = (F (((q_1.1 a0 6)).toInt.toNat + 1)).toInt - 48)) → WA l dC dI h L ({ frames := 2, cells := 0, slots := 0, locals := 41 } : Room) 5 Z q_140 345 [(4, .int v_133), (3, .int v_39), (2, .int r_34), (1, .int ((q.2.2.2.1 m3 ((q_1.1 a0 6) : Int32).toNatClampNeg))), (0, .ref a0)] [.int v_143, .ref a0] := by
                        intro v_143 x_144 x_145 x_146
                        refine wa_putI B (C := RX12) (T := TX12) (N := 51) iq_X12_go_X12 ha0 ka0 (by decide) rfl 13 (by decide) (by decide) (by decide +kernel) rfl (by decide) (v := v_143) (ty := .int) tyX12 tyX12_ok nmX12 rfl (by decide +kernel) rfl rfl dX12_go_345 (fun q_148 eq_148 => ?_)
                        have hV_q_148 : sx_V h L q_148 := by rw [eq_148]; exact hV_q_140.pI ka0 (show sx_in v_143 (-48) 207 from ⟨by omega, by omega⟩)
                        have hF_q_148 : sx_fr h L (fun a => h.1 a = 12) q q_148 := hF_q_140.tr (by rw [eq_148]; exact sx_fr.pI (show h.1 a0 = 12 from ka0))
                        have z_149 : q_148.1 a0 13 = v_143 := by rw [eq_148]; exact sg_pI_e
                        have hK_q_148 : sx_kf a0 [6, 7, 8, 9, 11, 12, 13] q q_148 := hK_q_140.tr (by rw [eq_148]; exact sx_kf.pI (by decide))
                        refine wa_aload_n B dX12_go_348 rfl 4 rfl ?_
                        refine wa_iload_n B dX12_go_349 rfl 1 rfl ?_
                        have Jn_381_152 : ∀  (v_150 : Int32), pg_K v_39 v_133 r_34 v_150 → WA l dC dI h L ({ frames := 2, cells := 0, slots := 0, locals := 41 } : Room) 5 Z q_148 381 [(4, .int v_133), (3, .int v_39), (2, .int r_34), (1, .int ((q.2.2.2.1 m3 ((q_1.1 a0 6) : Int32).toNatClampNeg))), (0, .ref a0)] [.int v_150, .ref a0] := by
                          intro v_150 x_151
                          refine wa_putI B (C := RX12) (T := TX12) (N := 51) iq_X12_go_X12 ha0 ka0 (by decide) rfl 8 (by decide) (by decide) (by decide +kernel) rfl (by decide) (v := v_150) (ty := .int) tyX12 tyX12_ok nmX12 rfl (by decide +kernel) rfl rfl dX12_go_381 (fun q_153 eq_153 => ?_)
                          have hV_q_153 : sx_V h L q_153 := by rw [eq_153]; exact hV_q_148.pI ka0 trivial
                          have hF_q_153 : sx_fr h L (fun a => h.1 a = 12) q q_153 := hF_q_148.tr (by rw [eq_153]; exact sx_fr.pI (show h.1 a0 = 12 from ka0))
                          have z_154 : q_153.1 a0 8 = v_150 := by rw [eq_153]; exact sg_pI_e
                          have hK_q_153 : sx_kf a0 [6, 7, 8, 9, 11, 12, 13] q q_153 := hK_q_148.tr (by rw [eq_153]; exact sx_kf.pI (by decide))
                          have z_156 : q_153.2.1 a0 11 = q_40.2.1 a0 11 := ((show q_153.2.1 a0 11 = q_148.2.1 a0 11 from by rw [eq_153]; rfl)).trans (((show q_148.2.1 a0 11 = q_140.2.1 a0 11 from by rw [eq_148]; rfl)).trans ((show q_140.2.1 a0 11 = q_40.2.1 a0 11 from by rw [eq_140]; rfl)))
                          have mN_155 : mv_N a0 q_153 := fun h9 => by rw [z_154] at h9; rw [z_156]; exact pg_N x_51 (m := v_133) (by omega) x_151 hL0 h9
                          have z_157 : q_153.1 a0 12 = r_138 := ((show q_153.1 a0 12 = q_148.1 a0 12 from by rw [eq_153]; exact sg_pI_k (by decide))).trans (((show q_148.1 a0 12 = q_140.1 a0 12 from by rw [eq_148]; exact sg_pI_k (by decide))).trans (z_141))
                          have y_158 : (q_153.1 a0 12).toInt = r_138.toInt := by rw [z_157]
                          have z_159 : q_153.1 a0 13 = v_143 := ((show q_153.1 a0 13 = q_148.1 a0 13 from by rw [eq_153]; exact sg_pI_k (by decide))).trans (z_149)
                          have y_160 : (q_153.1 a0 13).toInt = v_143.toInt := by rw [z_159]
                          have z_161 : q_153.1 a0 6 = q_40.1 a0 6 := ((show q_153.1 a0 6 = q_148.1 a0 6 from by rw [eq_153]; exact sg_pI_k (by decide))).trans (((show q_148.1 a0 6 = q_140.1 a0 6 from by rw [eq_148]; exact sg_pI_k (by decide))).trans ((show q_140.1 a0 6 = q_40.1 a0 6 from by rw [eq_140]; exact sg_pI_k (by decide))))
                          have y_162 : (q_153.1 a0 6).toInt = (q_40.1 a0 6).toInt := by rw [z_161]
                          have z_163 : q_153.1 a0 7 = (q_1.1 a0 6) := ((show q_153.1 a0 7 = q_148.1 a0 7 from by rw [eq_153]; exact sg_pI_k (by decide))).trans (((show q_148.1 a0 7 = q_140.1 a0 7 from by rw [eq_148]; exact sg_pI_k (by decide))).trans (z_142))
                          have y_164 : (q_153.1 a0 7).toInt = (q_1.1 a0 6).toInt := by rw [z_163]
                          have y_165 : (q_153.1 a0 8).toInt = v_150.toInt := by rw [z_154]
                          have y_166 : (q_153.1 a0 12).toInt = r_138.toInt := by rw [z_157]
                          have y_167 : (q_153.1 a0 13).toInt = v_143.toInt := by rw [z_159]
                          have z_168 : q_153.1 a0 4 = (q.1 a0 4) := ((show q_153.1 a0 4 = q_148.1 a0 4 from by rw [eq_153]; exact sg_pI_k (by decide))).trans (((show q_148.1 a0 4 = q_140.1 a0 4 from by rw [eq_148]; exact sg_pI_k (by decide))).trans (((show q_140.1 a0 4 = q_40.1 a0 4 from by rw [eq_140]; exact sg_pI_k (by decide))).trans (p0_q_40)))
                          have y_169 : (q_153.1 a0 4).toInt = (q.1 a0 4).toInt := by rw [z_168]
                          have y_170 : (q_153.1 a0 6).toInt = (q_40.1 a0 6).toInt := by rw [z_161]
                          have y_171 : (q_153.1 a0 7).toInt = (q_1.1 a0 6).toInt := by rw [z_163]
                          have y_172 : (q_153.1 a0 8).toInt = v_150.toInt := by rw [z_154]
                          exact hret _ _ _ dX12_go_384 ⟨hV_q_153, hF_q_153, hK_q_153, mN_155, ⟨by omega, by rw [z_154, z_161, z_156, z_159]; rcases hL9 with ⟨z9, z8⟩ | ⟨z9, z8⟩; (exact pr_n x_9 hp9 z8 x_51 hex z9 (mm := v_133) (by omega) x_151 (by omega)); exact pr_u x_9 hp9 z8 x_51 hex z9 (mm := v_133) (by omega) x_151 (by omega) (by omega) x_146⟩⟩
                        refine wa_if_eq B 368 dX12_go_350 (by decide) (fun (t_173 : v_39.toInt = 0) => ?_) (fun (t_173 : ¬ v_39.toInt = 0) => ?_)
                        · refine wa_iconst B 1 dX12_go_368 (by decide) ?_
                          refine wa_goto B 381 dX12_go_369 (by decide) ?_
                          exact Jn_381_152 1 (show pg_K v_39 v_133 r_34 (1 : Int32) from by exact pg_k1 (by omega) rfl)
                        · refine wa_iload B dX12_go_353 0 rfl ?_
                          refine wa_iload_n B dX12_go_355 rfl 2 rfl ?_
                          refine wa_if_eq B 364 dX12_go_356 (by decide) (fun (t_174 : r_34.toInt = 0) => ?_) (fun (t_174 : ¬ r_34.toInt = 0) => ?_)
                          · refine wa_iconst B 2 dX12_go_364 (by decide) ?_
                            refine wa_icmp_le B 372 dX12_go_365 (by decide) (fun (t_175 : v_133.toInt ≤ 2) => ?_) (fun (t_175 : ¬ v_133.toInt ≤ 2) => ?_)
                            · refine wa_iload_n B dX12_go_372 rfl 2 rfl ?_
                              refine wa_if_eq B 380 dX12_go_373 (by decide) (fun (t_176 : r_34.toInt = 0) => ?_) (fun (t_176 : ¬ r_34.toInt = 0) => ?_)
                              · refine wa_iconst B 3 dX12_go_380 (by decide) ?_
                                exact Jn_381_152 3 (show pg_K v_39 v_133 r_34 (3 : Int32) from by exact pg_k3 (by omega) (by omega) (by omega) rfl)
                              · refine wa_iconst B 2 dX12_go_376 (by decide) ?_
                                refine wa_goto B 381 dX12_go_377 (by decide) ?_
                                exact Jn_381_152 2 (show pg_K v_39 v_133 r_34 (2 : Int32) from by exact pg_k2 (by omega) (by omega) (by omega) rfl)
                            · refine wa_iconst B 1 dX12_go_368 (by decide) ?_
                              refine wa_goto B 381 dX12_go_369 (by decide) ?_
                              exact Jn_381_152 1 (show pg_K v_39 v_133 r_34 (1 : Int32) from by exact pg_k1 (by omega) rfl)
                          · refine wa_bipush B 8 dX12_go_359 (by decide) ?_
                            refine wa_goto B 365 dX12_go_361 (by decide) ?_
                            refine wa_icmp_le B 372 dX12_go_365 (by decide) (fun (t_177 : v_133.toInt ≤ 8) => ?_) (fun (t_177 : ¬ v_133.toInt ≤ 8) => ?_)
                            · refine wa_iload_n B dX12_go_372 rfl 2 rfl ?_
                              refine wa_if_eq B 380 dX12_go_373 (by decide) (fun (t_178 : r_34.toInt = 0) => ?_) (fun (t_178 : ¬ r_34.toInt = 0) => ?_)
                              · refine wa_iconst B 3 dX12_go_380 (by decide) ?_
                                exact Jn_381_152 3 (show pg_K v_39 v_133 r_34 (3 : Int32) from by exact pg_k3 (by omega) (by omega) (by omega) rfl)
                              · refine wa_iconst B 2 dX12_go_376 (by decide) ?_
                                refine wa_goto B 381 dX12_go_377 (by decide) ?_
                                exact Jn_381_152 2 (show pg_K v_39 v_133 r_34 (2 : Int32) from by exact pg_k2 (by omega) (by omega) (by omega) rfl)
                            · refine wa_iconst B 1 dX12_go_368 (by decide) ?_
                              refine wa_goto B 381 dX12_go_369 (by decide) ?_
                              exact Jn_381_152 1 (show pg_K v_39 v_133 r_34 (1 : Int32) from by exact pg_k1 (by omega) rfl)
                      refine wa_icmp_le B 344 dX12_go_324 (by decide) (fun (t_179 : v_133.toInt ≤ 1) => ?_) (fun (t_179 : ¬ v_133.toInt ≤ 1) => ?_)
                      · refine wa_iconst B (-1) dX12_go_344 (by decide) ?_
                        exact Jn_345_147 (-1) (show (-48) ≤ (-1) from by first | assumption | omega | decide) (show (-1) ≤ 207 from by first | assumption | omega | decide) (show pz_hd (v_133.toInt ≤ 1 ∧ (-1) = -1 ∨ 1 < v_133.toInt ∧ ((F (((q_1.1 a0 6)).toInt.toNat + 1)).toInt = 63 ∧ (-1) = 10 ∨ ¬ (F (((q_1.1 a0 6)).toInt.toNat + 1)).toInt = 63 ∧ (-1) = (F (((q_1.1 a0 6)).toInt.toNat + 1)).toInt - 48)) from by exact pg_d20 (by omega) rfl)
                      · refine wa_aload_n B dX12_go_327 rfl 4 rfl ?_
                        have z_180 : q_140.2.2.1 a0 3 = m3 := ((show q_140.2.2.1 a0 3 = q_40.2.2.1 a0 3 from by rw [eq_140]; rfl)).trans (p4_q_40)
                        refine wa_getR B (C := RX12) (T := TX12) (N := 51) iq_X12_go_X12 ha0 ka0 (by decide) rfl 3 (by decide) (by decide) (by decide +kernel) rfl (fun _ _ _ => rfl) (v := m3) z_180 dX12_go_328 ?_
                        refine wa_aload_n B dX12_go_331 rfl 4 rfl ?_
                        refine wa_getI B (C := RX12) (T := TX12) (N := 51) iq_X12_go_X12 ha0 ka0 (by decide) rfl 7 (by decide) (by decide) (by decide +kernel) rfl (by decide) (v := (q_1.1 a0 6)) z_142 dX12_go_332 ?_
                        refine wa_iconst B 1 dX12_go_335 (by decide) ?_
                        refine wa_iadd B dX12_go_336 (fun v_181 ev_181 => ?_)
                        have tv_181 : v_181.toInt = (q_1.1 a0 6).toInt + 1 := by have b0 := zx_bd (q_1.1 a0 6); rw [ev_181]; exact zx_add (show (-2147483648 : Int) ≤ (q_1.1 a0 6).toInt + 1 by omega) (show (q_1.1 a0 6).toInt + 1 < (2147483648 : Int) by omega)
                        have z_182 : q_140.2.2.2.1 m3 = (q.2.2.2.1 m3) := ((show q_140.2.2.2.1 m3 = q_40.2.2.2.1 m3 from by rw [eq_140]; rfl)).trans (p5_q_40)
                        have z_183 : q_140.2.2.2.1 m3 (v_181 : Int32).toNatClampNeg = (q.2.2.2.1 m3 (v_181 : Int32).toNatClampNeg) := congrFun z_182 _
                        refine wa_iaload B hm3 km3 (by decide) (by decide) (show 0 ≤ v_181.toInt by omega) (show v_181.toInt < (h.2.1 m3 : Int) by omega) (v := (q.2.2.2.1 m3 (v_181 : Int32).toNatClampNeg)) z_183 dX12_go_337 ?_
                        have g_184 : (0 : Int) ≤ ((q.2.2.2.1 m3 (v_181 : Int32).toNatClampNeg)).toInt ∧ ((q.2.2.2.1 m3 (v_181 : Int32).toNatClampNeg)).toInt ≤ 255 := by rw [← z_183]; exact hV_q_140.cnt hm3 km3 _
                        refine wa_callSi B (As := [.int ((q.2.2.2.1 m3 (v_181 : Int32).toNatClampNeg))]) (rest := [.ref a0]) (k_X12_digitOf_c l dC dI h L hN q_140 hV_q_140 ((q.2.2.2.1 m3 (v_181 : Int32).toNatClampNeg))  (by first | assumption | omega | decide) (by first | assumption | omega | decide)) (va_cwS 1 B.1.2.2.2.2 gX12_go_X12_digitOf rfl rfl rfl (by decide +kernel) ⟨Nat.le_of_ble_eq_true rfl, Nat.le_of_ble_eq_true rfl⟩) rfl rfl (Nat.le_of_ble_eq_true rfl) dX12_go_338 (fun r_186 q_185 w_187 => ?_)
                        obtain ⟨ew_187, hw_187⟩ := w_187
                        subst ew_187
                        refine wa_goto B 345 dX12_go_341 (by decide) ?_
                        exact Jn_345_147 r_186 (show (-48) ≤ r_186.toInt from by first | assumption | omega | decide) (show r_186.toInt ≤ 207 from by first | assumption | omega | decide) (show pz_hd (v_133.toInt ≤ 1 ∧ r_186.toInt = -1 ∨ 1 < v_133.toInt ∧ ((F (((q_1.1 a0 6)).toInt.toNat + 1)).toInt = 63 ∧ r_186.toInt = 10 ∨ ¬ (F (((q_1.1 a0 6)).toInt.toNat + 1)).toInt = 63 ∧ r_186.toInt = (F (((q_1.1 a0 6)).toInt.toNat + 1)).toInt - 48)) from by have y8 : (q.2.2.2.1 m3 (v_181 : Int32).toNatClampNeg) = F ((q_1.1 a0 6).toInt.toNat + 1) := (by rw [zx_nc, show (v_181 : Int32).toInt.toNat = (q_1.1 a0 6).toInt.toNat + 1 by omega]; exact hFF _ (by omega)); exact pg_d21 (by omega) y8 hw_187)
                    · have y_188 : (q_40.1 a0 4).toInt = (q.1 a0 4).toInt := by rw [p0_q_40]
                      have y_189 : (q_40.1 a0 4).toInt = (q.1 a0 4).toInt := by rw [p0_q_40]
                      exact Jn_216_68 () (show (q_40.1 a0 6).toInt < (q_40.1 a0 4).toInt from by have y9 := (pg_lt2 u_126 hw_130 (by omega)).1; omega) (show pz_hd (pz_l (F (q_40.1 a0 6).toInt.toNat) ∨ pz_d (F (q_40.1 a0 6).toInt.toNat)) from by exact (pg_lt2 u_126 hw_130 (by omega)).2)
              have y_190 : (q_36.1 a0 4).toInt = (q.1 a0 4).toInt := by rw [z_41]
              have y_191 : (q_36.1 a0 6).toInt = (q_1.1 a0 6).toInt := by rw [z_44]
              have y_192 : (q_36.1 a0 7).toInt = (q_1.1 a0 6).toInt := by rw [z_38]
              exact Lp_187_52 _ 1 q_36 hV_q_36 hF_q_36 hK_q_36 z_41 z_42 z_43 z_38 z_45 z_46 (show (q_36.1 a0 7).toInt ≤ (q_36.1 a0 6).toInt from by first | assumption | omega | decide) (show (q_36.1 a0 6).toInt ≤ (q_36.1 a0 4).toInt from by first | assumption | omega | decide) (show (q_36.1 a0 7).toInt < (q_36.1 a0 4).toInt from by first | assumption | omega | decide) (show 1 = 0 ∨ 1 = 1 from by decide) (show tg_I F n9 ((q_1.1 a0 6)).toInt.toNat (q_36.1 a0 6) (1 : Int32) (q_36.2.1 a0 11) r_34 from by rw [z_44, z_37]; exact tg_0 (by omega) (by omega) rfl rfl hL0) (Nat.lt_succ_self _)
            refine wa_if_ne B 175 dX12_go_127 (by decide) (fun (t_193 : ¬ r_29.toInt = 0) => ?_) (fun (t_193 : r_29.toInt = 0) => ?_)
            · exact Jn_175_32 () (show 97 ≤ ((q.2.2.2.1 m3 ((q_1.1 a0 6) : Int32).toNatClampNeg)).toInt ∧ ((q.2.2.2.1 m3 ((q_1.1 a0 6) : Int32).toNatClampNeg)).toInt ≤ 122 ∨ 48 ≤ ((q.2.2.2.1 m3 ((q_1.1 a0 6) : Int32).toNatClampNeg)).toInt ∧ ((q.2.2.2.1 m3 ((q_1.1 a0 6) : Int32).toNatClampNeg)).toInt ≤ 57 from by first | assumption | omega | decide)
            · refine wa_aload_n B dX12_go_130 rfl 1 rfl ?_
              refine wa_iload_n B dX12_go_131 rfl 0 rfl ?_
              have z_194 : q_11.1 a0 10 = (q.1 a0 10) := ((show q_11.1 a0 10 = q_1.1 a0 10 from by rw [eq_11]; exact sg_pI_k (by decide))).trans (p2_q_1)
              have y_195 : (q_11.1 a0 10).toInt = (q.1 a0 10).toInt := by rw [z_194]
              refine wa_callVi B (x := (RX12, TX12, 51)) (As := [.int ((q.2.2.2.1 m3 ((q_1.1 a0 6) : Int32).toNatClampNeg))]) (rest := []) (k_X12_isCount_c l dC dI h L hN q_11 hV_q_11 (a0 := a0) ha0 ka0 ((q.2.2.2.1 m3 ((q_1.1 a0 6) : Int32).toNatClampNeg))  (by first | assumption | omega | decide)) (cwV 1 B.1.2.2.2.2 gX12_go_X12_isCount rfl rfl rfl (by decide +kernel) ⟨Nat.le_of_ble_eq_true rfl, Nat.le_of_ble_eq_true rfl⟩) ha0 ka0 (by decide) rfl rfl rfl (Nat.le_of_ble_eq_true rfl) dX12_go_132 (fun r_197 q_196 w_198 => ?_)
              obtain ⟨ew_198, hw_198⟩ := w_198
              subst ew_198
              refine wa_if_ne B 175 dX12_go_135 (by decide) (fun (t_199 : ¬ r_197.toInt = 0) => ?_) (fun (t_199 : r_197.toInt = 0) => ?_)
              · exact Jn_175_32 () (show 97 ≤ ((q.2.2.2.1 m3 ((q_1.1 a0 6) : Int32).toNatClampNeg)).toInt ∧ ((q.2.2.2.1 m3 ((q_1.1 a0 6) : Int32).toNatClampNeg)).toInt ≤ 122 ∨ 48 ≤ ((q.2.2.2.1 m3 ((q_1.1 a0 6) : Int32).toNatClampNeg)).toInt ∧ ((q.2.2.2.1 m3 ((q_1.1 a0 6) : Int32).toNatClampNeg)).toInt ≤ 57 from by first | assumption | omega | decide)
              · refine wa_aload_n B dX12_go_138 rfl 1 rfl ?_
                refine wa_iload_n B dX12_go_139 rfl 0 rfl ?_
                refine wa_bipush B 58 dX12_go_140 (by decide) ?_
                refine wa_icmp_eq B 151 dX12_go_142 (by decide) (fun (t_200 : ((q.2.2.2.1 m3 ((q_1.1 a0 6) : Int32).toNatClampNeg)).toInt = 58) => ?_) (fun (t_200 : ¬ ((q.2.2.2.1 m3 ((q_1.1 a0 6) : Int32).toNatClampNeg)).toInt = 58) => ?_)
                · refine wa_iconst B 4 dX12_go_151 (by decide) ?_
                  refine wa_goto B 156 dX12_go_152 (by decide) ?_
                  refine wa_putI B (C := RX12) (T := TX12) (N := 51) iq_X12_go_X12 ha0 ka0 (by decide) rfl 8 (by decide) (by decide) (by decide +kernel) rfl (by decide) (v := 4) (ty := .int) tyX12 tyX12_ok nmX12 rfl (by decide +kernel) rfl rfl dX12_go_156 (fun q_201 eq_201 => ?_)
                  have hV_q_201 : sx_V h L q_201 := by rw [eq_201]; exact hV_q_11.pI ka0 trivial
                  have hF_q_201 : sx_fr h L (fun a => h.1 a = 12) q q_201 := hF_q_11.tr (by rw [eq_201]; exact sx_fr.pI (show h.1 a0 = 12 from ka0))
                  have z_202 : q_201.1 a0 8 = 4 := by rw [eq_201]; exact sg_pI_e
                  have hK_q_201 : sx_kf a0 [6, 7, 8, 9, 11, 12, 13] q q_201 := hK_q_11.tr (by rw [eq_201]; exact sx_kf.pI (by decide))
                  refine wa_aload_n B dX12_go_159 rfl 1 rfl ?_
                  refine wa_iload_n B dX12_go_160 rfl 0 rfl ?_
                  refine wa_putI B (C := RX12) (T := TX12) (N := 51) iq_X12_go_X12 ha0 ka0 (by decide) rfl 9 (by decide) (by decide) (by decide +kernel) rfl (by decide) (v := (q.2.2.2.1 m3 ((q_1.1 a0 6) : Int32).toNatClampNeg)) (ty := .int) tyX12 tyX12_ok nmX12 rfl (by decide +kernel) rfl rfl dX12_go_161 (fun q_203 eq_203 => ?_)
                  have hV_q_203 : sx_V h L q_203 := by rw [eq_203]; exact hV_q_201.pI ka0 trivial
                  have hF_q_203 : sx_fr h L (fun a => h.1 a = 12) q q_203 := hF_q_201.tr (by rw [eq_203]; exact sx_fr.pI (show h.1 a0 = 12 from ka0))
                  have z_204 : q_203.1 a0 9 = (q.2.2.2.1 m3 ((q_1.1 a0 6) : Int32).toNatClampNeg) := by rw [eq_203]; exact sg_pI_e
                  have hK_q_203 : sx_kf a0 [6, 7, 8, 9, 11, 12, 13] q q_203 := hK_q_201.tr (by rw [eq_203]; exact sx_kf.pI (by decide))
                  refine wa_aload_n B dX12_go_164 rfl 1 rfl ?_
                  refine wa_dup B dX12_go_165 rfl ?_
                  have z_205 : q_203.1 a0 6 = (q_1.1 a0 6) := ((show q_203.1 a0 6 = q_201.1 a0 6 from by rw [eq_203]; exact sg_pI_k (by decide))).trans (((show q_201.1 a0 6 = q_11.1 a0 6 from by rw [eq_201]; exact sg_pI_k (by decide))).trans (z_20))
                  refine wa_getI B (C := RX12) (T := TX12) (N := 51) iq_X12_go_X12 ha0 ka0 (by decide) rfl 6 (by decide) (by decide) (by decide +kernel) rfl (by decide) (v := (q_1.1 a0 6)) z_205 dX12_go_166 ?_
                  refine wa_iconst B 1 dX12_go_169 (by decide) ?_
                  refine wa_iadd B dX12_go_170 (fun v_206 ev_206 => ?_)
                  have tv_206 : v_206.toInt = (q_1.1 a0 6).toInt + 1 := by have b0 := zx_bd (q_1.1 a0 6); rw [ev_206]; exact zx_add (show (-2147483648 : Int) ≤ (q_1.1 a0 6).toInt + 1 by omega) (show (q_1.1 a0 6).toInt + 1 < (2147483648 : Int) by omega)
                  refine wa_putI B (C := RX12) (T := TX12) (N := 51) iq_X12_go_X12 ha0 ka0 (by decide) rfl 6 (by decide) (by decide) (by decide +kernel) rfl (by decide) (v := v_206) (ty := .int) tyX12 tyX12_ok nmX12 rfl (by decide +kernel) rfl rfl dX12_go_171 (fun q_207 eq_207 => ?_)
                  have hV_q_207 : sx_V h L q_207 := by rw [eq_207]; exact hV_q_203.pI ka0 (show sx_in v_206 (0) 500 from ⟨by omega, by omega⟩)
                  have hF_q_207 : sx_fr h L (fun a => h.1 a = 12) q q_207 := hF_q_203.tr (by rw [eq_207]; exact sx_fr.pI (show h.1 a0 = 12 from ka0))
                  have z_208 : q_207.1 a0 6 = v_206 := by rw [eq_207]; exact sg_pI_e
                  have hK_q_207 : sx_kf a0 [6, 7, 8, 9, 11, 12, 13] q q_207 := hK_q_203.tr (by rw [eq_207]; exact sx_kf.pI (by decide))
                  have z_209 : q_207.1 a0 8 = 4 := ((show q_207.1 a0 8 = q_203.1 a0 8 from by rw [eq_207]; exact sg_pI_k (by decide))).trans (((show q_203.1 a0 8 = q_201.1 a0 8 from by rw [eq_203]; exact sg_pI_k (by decide))).trans (z_202))
                  have mN_210 : mv_N a0 q_207 := mv_N.ne z_209 (by decide)
                  have y_211 : (q_207.1 a0 6).toInt = v_206.toInt := by rw [z_208]
                  have z_212 : q_207.1 a0 7 = (q_1.1 a0 6) := ((show q_207.1 a0 7 = q_203.1 a0 7 from by rw [eq_207]; exact sg_pI_k (by decide))).trans (((show q_203.1 a0 7 = q_201.1 a0 7 from by rw [eq_203]; exact sg_pI_k (by decide))).trans (((show q_201.1 a0 7 = q_11.1 a0 7 from by rw [eq_201]; exact sg_pI_k (by decide))).trans (z_12)))
                  have y_213 : (q_207.1 a0 7).toInt = (q_1.1 a0 6).toInt := by rw [z_212]
                  have y_214 : (q_207.1 a0 8).toInt = 4 := by rw [z_209]; rfl
                  have z_215 : q_207.1 a0 9 = (q.2.2.2.1 m3 ((q_1.1 a0 6) : Int32).toNatClampNeg) := ((show q_207.1 a0 9 = q_203.1 a0 9 from by rw [eq_207]; exact sg_pI_k (by decide))).trans (z_204)
                  have y_216 : (q_207.1 a0 9).toInt = ((q.2.2.2.1 m3 ((q_1.1 a0 6) : Int32).toNatClampNeg)).toInt := by rw [z_215]
                  have z_217 : q_207.1 a0 4 = (q.1 a0 4) := ((show q_207.1 a0 4 = q_203.1 a0 4 from by rw [eq_207]; exact sg_pI_k (by decide))).trans (((show q_203.1 a0 4 = q_201.1 a0 4 from by rw [eq_203]; exact sg_pI_k (by decide))).trans (((show q_201.1 a0 4 = q_11.1 a0 4 from by rw [eq_201]; exact sg_pI_k (by decide))).trans (z_13)))
                  have y_218 : (q_207.1 a0 4).toInt = (q.1 a0 4).toInt := by rw [z_217]
                  have y_219 : (q_207.1 a0 6).toInt = v_206.toInt := by rw [z_208]
                  have y_220 : (q_207.1 a0 7).toInt = (q_1.1 a0 6).toInt := by rw [z_212]
                  have y_221 : (q_207.1 a0 8).toInt = 4 := by rw [z_209]; rfl
                  exact hret _ _ _ dX12_go_174 ⟨hV_q_207, hF_q_207, hK_q_207, mN_210, ⟨by omega, pr_g x_9 (by omega) (by omega) (by omega) (by omega) (by rw [z_215]; exact u_23) (by omega) (by omega)⟩⟩
                · refine wa_iload_n B dX12_go_145 rfl 0 rfl ?_
                  refine wa_bipush B 59 dX12_go_146 (by decide) ?_
                  refine wa_icmp_ne B 155 dX12_go_148 (by decide) (fun (t_222 : ¬ ((q.2.2.2.1 m3 ((q_1.1 a0 6) : Int32).toNatClampNeg)).toInt = 59) => ?_) (fun (t_222 : ((q.2.2.2.1 m3 ((q_1.1 a0 6) : Int32).toNatClampNeg)).toInt = 59) => ?_)
                  · refine wa_iconst B 1 dX12_go_155 (by decide) ?_
                    refine wa_putI B (C := RX12) (T := TX12) (N := 51) iq_X12_go_X12 ha0 ka0 (by decide) rfl 8 (by decide) (by decide) (by decide +kernel) rfl (by decide) (v := 1) (ty := .int) tyX12 tyX12_ok nmX12 rfl (by decide +kernel) rfl rfl dX12_go_156 (fun q_223 eq_223 => ?_)
                    have hV_q_223 : sx_V h L q_223 := by rw [eq_223]; exact hV_q_11.pI ka0 trivial
                    have hF_q_223 : sx_fr h L (fun a => h.1 a = 12) q q_223 := hF_q_11.tr (by rw [eq_223]; exact sx_fr.pI (show h.1 a0 = 12 from ka0))
                    have z_224 : q_223.1 a0 8 = 1 := by rw [eq_223]; exact sg_pI_e
                    have hK_q_223 : sx_kf a0 [6, 7, 8, 9, 11, 12, 13] q q_223 := hK_q_11.tr (by rw [eq_223]; exact sx_kf.pI (by decide))
                    refine wa_aload_n B dX12_go_159 rfl 1 rfl ?_
                    refine wa_iload_n B dX12_go_160 rfl 0 rfl ?_
                    refine wa_putI B (C := RX12) (T := TX12) (N := 51) iq_X12_go_X12 ha0 ka0 (by decide) rfl 9 (by decide) (by decide) (by decide +kernel) rfl (by decide) (v := (q.2.2.2.1 m3 ((q_1.1 a0 6) : Int32).toNatClampNeg)) (ty := .int) tyX12 tyX12_ok nmX12 rfl (by decide +kernel) rfl rfl dX12_go_161 (fun q_225 eq_225 => ?_)
                    have hV_q_225 : sx_V h L q_225 := by rw [eq_225]; exact hV_q_223.pI ka0 trivial
                    have hF_q_225 : sx_fr h L (fun a => h.1 a = 12) q q_225 := hF_q_223.tr (by rw [eq_225]; exact sx_fr.pI (show h.1 a0 = 12 from ka0))
                    have z_226 : q_225.1 a0 9 = (q.2.2.2.1 m3 ((q_1.1 a0 6) : Int32).toNatClampNeg) := by rw [eq_225]; exact sg_pI_e
                    have hK_q_225 : sx_kf a0 [6, 7, 8, 9, 11, 12, 13] q q_225 := hK_q_223.tr (by rw [eq_225]; exact sx_kf.pI (by decide))
                    refine wa_aload_n B dX12_go_164 rfl 1 rfl ?_
                    refine wa_dup B dX12_go_165 rfl ?_
                    have z_227 : q_225.1 a0 6 = (q_1.1 a0 6) := ((show q_225.1 a0 6 = q_223.1 a0 6 from by rw [eq_225]; exact sg_pI_k (by decide))).trans (((show q_223.1 a0 6 = q_11.1 a0 6 from by rw [eq_223]; exact sg_pI_k (by decide))).trans (z_20))
                    refine wa_getI B (C := RX12) (T := TX12) (N := 51) iq_X12_go_X12 ha0 ka0 (by decide) rfl 6 (by decide) (by decide) (by decide +kernel) rfl (by decide) (v := (q_1.1 a0 6)) z_227 dX12_go_166 ?_
                    refine wa_iconst B 1 dX12_go_169 (by decide) ?_
                    refine wa_iadd B dX12_go_170 (fun v_228 ev_228 => ?_)
                    have tv_228 : v_228.toInt = (q_1.1 a0 6).toInt + 1 := by have b0 := zx_bd (q_1.1 a0 6); rw [ev_228]; exact zx_add (show (-2147483648 : Int) ≤ (q_1.1 a0 6).toInt + 1 by omega) (show (q_1.1 a0 6).toInt + 1 < (2147483648 : Int) by omega)
                    refine wa_putI B (C := RX12) (T := TX12) (N := 51) iq_X12_go_X12 ha0 ka0 (by decide) rfl 6 (by decide) (by decide) (by decide +kernel) rfl (by decide) (v := v_228) (ty := .int) tyX12 tyX12_ok nmX12 rfl (by decide +kernel) rfl rfl dX12_go_171 (fun q_229 eq_229 => ?_)
                    have hV_q_229 : sx_V h L q_229 := by rw [eq_229]; exact hV_q_225.pI ka0 (show sx_in v_228 (0) 500 from ⟨by omega, by omega⟩)
                    have hF_q_229 : sx_fr h L (fun a => h.1 a = 12) q q_229 := hF_q_225.tr (by rw [eq_229]; exact sx_fr.pI (show h.1 a0 = 12 from ka0))
                    have z_230 : q_229.1 a0 6 = v_228 := by rw [eq_229]; exact sg_pI_e
                    have hK_q_229 : sx_kf a0 [6, 7, 8, 9, 11, 12, 13] q q_229 := hK_q_225.tr (by rw [eq_229]; exact sx_kf.pI (by decide))
                    have z_231 : q_229.1 a0 8 = 1 := ((show q_229.1 a0 8 = q_225.1 a0 8 from by rw [eq_229]; exact sg_pI_k (by decide))).trans (((show q_225.1 a0 8 = q_223.1 a0 8 from by rw [eq_225]; exact sg_pI_k (by decide))).trans (z_224))
                    have mN_232 : mv_N a0 q_229 := mv_N.ne z_231 (by decide)
                    have y_233 : (q_229.1 a0 6).toInt = v_228.toInt := by rw [z_230]
                    have z_234 : q_229.1 a0 7 = (q_1.1 a0 6) := ((show q_229.1 a0 7 = q_225.1 a0 7 from by rw [eq_229]; exact sg_pI_k (by decide))).trans (((show q_225.1 a0 7 = q_223.1 a0 7 from by rw [eq_225]; exact sg_pI_k (by decide))).trans (((show q_223.1 a0 7 = q_11.1 a0 7 from by rw [eq_223]; exact sg_pI_k (by decide))).trans (z_12)))
                    have y_235 : (q_229.1 a0 7).toInt = (q_1.1 a0 6).toInt := by rw [z_234]
                    have y_236 : (q_229.1 a0 8).toInt = 1 := by rw [z_231]; rfl
                    have z_237 : q_229.1 a0 9 = (q.2.2.2.1 m3 ((q_1.1 a0 6) : Int32).toNatClampNeg) := ((show q_229.1 a0 9 = q_225.1 a0 9 from by rw [eq_229]; exact sg_pI_k (by decide))).trans (z_226)
                    have y_238 : (q_229.1 a0 9).toInt = ((q.2.2.2.1 m3 ((q_1.1 a0 6) : Int32).toNatClampNeg)).toInt := by rw [z_237]
                    have z_239 : q_229.1 a0 4 = (q.1 a0 4) := ((show q_229.1 a0 4 = q_225.1 a0 4 from by rw [eq_229]; exact sg_pI_k (by decide))).trans (((show q_225.1 a0 4 = q_223.1 a0 4 from by rw [eq_225]; exact sg_pI_k (by decide))).trans (((show q_223.1 a0 4 = q_11.1 a0 4 from by rw [eq_223]; exact sg_pI_k (by decide))).trans (z_13)))
                    have y_240 : (q_229.1 a0 4).toInt = (q.1 a0 4).toInt := by rw [z_239]
                    have y_241 : (q_229.1 a0 6).toInt = v_228.toInt := by rw [z_230]
                    have y_242 : (q_229.1 a0 7).toInt = (q_1.1 a0 6).toInt := by rw [z_234]
                    have y_243 : (q_229.1 a0 8).toInt = 1 := by rw [z_231]; rfl
                    exact hret _ _ _ dX12_go_174 ⟨hV_q_229, hF_q_229, hK_q_229, mN_232, ⟨by omega, pr_g x_9 (by omega) (by omega) (by omega) (by omega) (by rw [z_237]; exact u_23) (by omega) (by omega)⟩⟩
                  · refine wa_iconst B 4 dX12_go_151 (by decide) ?_
                    refine wa_goto B 156 dX12_go_152 (by decide) ?_
                    refine wa_putI B (C := RX12) (T := TX12) (N := 51) iq_X12_go_X12 ha0 ka0 (by decide) rfl 8 (by decide) (by decide) (by decide +kernel) rfl (by decide) (v := 4) (ty := .int) tyX12 tyX12_ok nmX12 rfl (by decide +kernel) rfl rfl dX12_go_156 (fun q_244 eq_244 => ?_)
                    have hV_q_244 : sx_V h L q_244 := by rw [eq_244]; exact hV_q_11.pI ka0 trivial
                    have hF_q_244 : sx_fr h L (fun a => h.1 a = 12) q q_244 := hF_q_11.tr (by rw [eq_244]; exact sx_fr.pI (show h.1 a0 = 12 from ka0))
                    have z_245 : q_244.1 a0 8 = 4 := by rw [eq_244]; exact sg_pI_e
                    have hK_q_244 : sx_kf a0 [6, 7, 8, 9, 11, 12, 13] q q_244 := hK_q_11.tr (by rw [eq_244]; exact sx_kf.pI (by decide))
                    refine wa_aload_n B dX12_go_159 rfl 1 rfl ?_
                    refine wa_iload_n B dX12_go_160 rfl 0 rfl ?_
                    refine wa_putI B (C := RX12) (T := TX12) (N := 51) iq_X12_go_X12 ha0 ka0 (by decide) rfl 9 (by decide) (by decide) (by decide +kernel) rfl (by decide) (v := (q.2.2.2.1 m3 ((q_1.1 a0 6) : Int32).toNatClampNeg)) (ty := .int) tyX12 tyX12_ok nmX12 rfl (by decide +kernel) rfl rfl dX12_go_161 (fun q_246 eq_246 => ?_)
                    have hV_q_246 : sx_V h L q_246 := by rw [eq_246]; exact hV_q_244.pI ka0 trivial
                    have hF_q_246 : sx_fr h L (fun a => h.1 a = 12) q q_246 := hF_q_244.tr (by rw [eq_246]; exact sx_fr.pI (show h.1 a0 = 12 from ka0))
                    have z_247 : q_246.1 a0 9 = (q.2.2.2.1 m3 ((q_1.1 a0 6) : Int32).toNatClampNeg) := by rw [eq_246]; exact sg_pI_e
                    have hK_q_246 : sx_kf a0 [6, 7, 8, 9, 11, 12, 13] q q_246 := hK_q_244.tr (by rw [eq_246]; exact sx_kf.pI (by decide))
                    refine wa_aload_n B dX12_go_164 rfl 1 rfl ?_
                    refine wa_dup B dX12_go_165 rfl ?_
                    have z_248 : q_246.1 a0 6 = (q_1.1 a0 6) := ((show q_246.1 a0 6 = q_244.1 a0 6 from by rw [eq_246]; exact sg_pI_k (by decide))).trans (((show q_244.1 a0 6 = q_11.1 a0 6 from by rw [eq_244]; exact sg_pI_k (by decide))).trans (z_20))
                    refine wa_getI B (C := RX12) (T := TX12) (N := 51) iq_X12_go_X12 ha0 ka0 (by decide) rfl 6 (by decide) (by decide) (by decide +kernel) rfl (by decide) (v := (q_1.1 a0 6)) z_248 dX12_go_166 ?_
                    refine wa_iconst B 1 dX12_go_169 (by decide) ?_
                    refine wa_iadd B dX12_go_170 (fun v_249 ev_249 => ?_)
                    have tv_249 : v_249.toInt = (q_1.1 a0 6).toInt + 1 := by have b0 := zx_bd (q_1.1 a0 6); rw [ev_249]; exact zx_add (show (-2147483648 : Int) ≤ (q_1.1 a0 6).toInt + 1 by omega) (show (q_1.1 a0 6).toInt + 1 < (2147483648 : Int) by omega)
                    refine wa_putI B (C := RX12) (T := TX12) (N := 51) iq_X12_go_X12 ha0 ka0 (by decide) rfl 6 (by decide) (by decide) (by decide +kernel) rfl (by decide) (v := v_249) (ty := .int) tyX12 tyX12_ok nmX12 rfl (by decide +kernel) rfl rfl dX12_go_171 (fun q_250 eq_250 => ?_)
                    have hV_q_250 : sx_V h L q_250 := by rw [eq_250]; exact hV_q_246.pI ka0 (show sx_in v_249 (0) 500 from ⟨by omega, by omega⟩)
                    have hF_q_250 : sx_fr h L (fun a => h.1 a = 12) q q_250 := hF_q_246.tr (by rw [eq_250]; exact sx_fr.pI (show h.1 a0 = 12 from ka0))
                    have z_251 : q_250.1 a0 6 = v_249 := by rw [eq_250]; exact sg_pI_e
                    have hK_q_250 : sx_kf a0 [6, 7, 8, 9, 11, 12, 13] q q_250 := hK_q_246.tr (by rw [eq_250]; exact sx_kf.pI (by decide))
                    have z_252 : q_250.1 a0 8 = 4 := ((show q_250.1 a0 8 = q_246.1 a0 8 from by rw [eq_250]; exact sg_pI_k (by decide))).trans (((show q_246.1 a0 8 = q_244.1 a0 8 from by rw [eq_246]; exact sg_pI_k (by decide))).trans (z_245))
                    have mN_253 : mv_N a0 q_250 := mv_N.ne z_252 (by decide)
                    have y_254 : (q_250.1 a0 6).toInt = v_249.toInt := by rw [z_251]
                    have z_255 : q_250.1 a0 7 = (q_1.1 a0 6) := ((show q_250.1 a0 7 = q_246.1 a0 7 from by rw [eq_250]; exact sg_pI_k (by decide))).trans (((show q_246.1 a0 7 = q_244.1 a0 7 from by rw [eq_246]; exact sg_pI_k (by decide))).trans (((show q_244.1 a0 7 = q_11.1 a0 7 from by rw [eq_244]; exact sg_pI_k (by decide))).trans (z_12)))
                    have y_256 : (q_250.1 a0 7).toInt = (q_1.1 a0 6).toInt := by rw [z_255]
                    have y_257 : (q_250.1 a0 8).toInt = 4 := by rw [z_252]; rfl
                    have z_258 : q_250.1 a0 9 = (q.2.2.2.1 m3 ((q_1.1 a0 6) : Int32).toNatClampNeg) := ((show q_250.1 a0 9 = q_246.1 a0 9 from by rw [eq_250]; exact sg_pI_k (by decide))).trans (z_247)
                    have y_259 : (q_250.1 a0 9).toInt = ((q.2.2.2.1 m3 ((q_1.1 a0 6) : Int32).toNatClampNeg)).toInt := by rw [z_258]
                    have z_260 : q_250.1 a0 4 = (q.1 a0 4) := ((show q_250.1 a0 4 = q_246.1 a0 4 from by rw [eq_250]; exact sg_pI_k (by decide))).trans (((show q_246.1 a0 4 = q_244.1 a0 4 from by rw [eq_246]; exact sg_pI_k (by decide))).trans (((show q_244.1 a0 4 = q_11.1 a0 4 from by rw [eq_244]; exact sg_pI_k (by decide))).trans (z_13)))
                    have y_261 : (q_250.1 a0 4).toInt = (q.1 a0 4).toInt := by rw [z_260]
                    have y_262 : (q_250.1 a0 6).toInt = v_249.toInt := by rw [z_251]
                    have y_263 : (q_250.1 a0 7).toInt = (q_1.1 a0 6).toInt := by rw [z_255]
                    have y_264 : (q_250.1 a0 8).toInt = 4 := by rw [z_252]; rfl
                    exact hret _ _ _ dX12_go_174 ⟨hV_q_250, hF_q_250, hK_q_250, mN_253, ⟨by omega, pr_g x_9 (by omega) (by omega) (by omega) (by omega) (by rw [z_258]; exact u_23) (by omega) (by omega)⟩⟩
          · refine wa_aload_n B dX12_go_107 rfl 0 rfl ?_
            refine wa_iconst B 0 dX12_go_108 (by decide) ?_
            refine wa_putI B (C := RX12) (T := TX12) (N := 51) iq_X12_go_X12 ha0 ka0 (by decide) rfl 8 (by decide) (by decide) (by decide +kernel) rfl (by decide) (v := 0) (ty := .int) tyX12 tyX12_ok nmX12 rfl (by decide +kernel) rfl rfl dX12_go_109 (fun q_265 eq_265 => ?_)
            have hV_q_265 : sx_V h L q_265 := by rw [eq_265]; exact hV_q_11.pI ka0 trivial
            have hF_q_265 : sx_fr h L (fun a => h.1 a = 12) q q_265 := hF_q_11.tr (by rw [eq_265]; exact sx_fr.pI (show h.1 a0 = 12 from ka0))
            have z_266 : q_265.1 a0 8 = 0 := by rw [eq_265]; exact sg_pI_e
            have hK_q_265 : sx_kf a0 [6, 7, 8, 9, 11, 12, 13] q q_265 := hK_q_11.tr (by rw [eq_265]; exact sx_kf.pI (by decide))
            have mN_267 : mv_N a0 q_265 := mv_N.ne z_266 (by decide)
            have z_268 : q_265.1 a0 6 = (q_1.1 a0 6) := ((show q_265.1 a0 6 = q_11.1 a0 6 from by rw [eq_265]; exact sg_pI_k (by decide))).trans (z_20)
            have y_269 : (q_265.1 a0 6).toInt = (q_1.1 a0 6).toInt := by rw [z_268]
            have z_270 : q_265.1 a0 7 = (q_1.1 a0 6) := ((show q_265.1 a0 7 = q_11.1 a0 7 from by rw [eq_265]; exact sg_pI_k (by decide))).trans (z_12)
            have y_271 : (q_265.1 a0 7).toInt = (q_1.1 a0 6).toInt := by rw [z_270]
            have y_272 : (q_265.1 a0 8).toInt = 0 := by rw [z_266]; rfl
            have z_273 : q_265.1 a0 4 = (q.1 a0 4) := ((show q_265.1 a0 4 = q_11.1 a0 4 from by rw [eq_265]; exact sg_pI_k (by decide))).trans (z_13)
            have y_274 : (q_265.1 a0 4).toInt = (q.1 a0 4).toInt := by rw [z_273]
            have y_275 : (q_265.1 a0 6).toInt = (q_1.1 a0 6).toInt := by rw [z_268]
            have y_276 : (q_265.1 a0 7).toInt = (q_1.1 a0 6).toInt := by rw [z_270]
            have y_277 : (q_265.1 a0 8).toInt = 0 := by rw [z_266]; rfl
            exact hret _ _ _ dX12_go_112 ⟨hV_q_265, hF_q_265, hK_q_265, mN_267, ⟨by omega, pr_s x_9 (by omega) (by omega) (by omega) (by omega)⟩⟩
        refine wa_icmp_le B 96 dX12_go_68 (by decide) (fun (t_278 : (q.1 a0 4).toInt ≤ (q.1 a0 5).toInt) => ?_) (fun (t_278 : ¬ (q.1 a0 4).toInt ≤ (q.1 a0 5).toInt) => ?_)
        · have y_279 : (q_11.1 a0 4).toInt = (q.1 a0 4).toInt := by rw [z_13]
          have y_280 : (q_11.1 a0 7).toInt = (q_1.1 a0 6).toInt := by rw [z_12]
          exact Jn_96_17 () (show (q_11.1 a0 4).toInt ≤ 400 ∨ (q_11.1 a0 7).toInt < 400 from by first | assumption | omega | decide)
        · refine wa_aload_n B dX12_go_71 rfl 0 rfl ?_
          refine wa_getI B (C := RX12) (T := TX12) (N := 51) iq_X12_go_X12 ha0 ka0 (by decide) rfl 7 (by decide) (by decide) (by decide +kernel) rfl (by decide) (v := (q_1.1 a0 6)) z_12 dX12_go_72 ?_
          refine wa_aload_n B dX12_go_75 rfl 0 rfl ?_
          refine wa_getI B (C := RX12) (T := TX12) (N := 51) iq_X12_go_X12 ha0 ka0 (by decide) rfl 5 (by decide) (by decide) (by decide +kernel) rfl (by decide) (v := (q.1 a0 5)) z_14 dX12_go_76 ?_
          refine wa_icmp_lt B 96 dX12_go_79 (by decide) (fun (t_281 : (q_1.1 a0 6).toInt < (q.1 a0 5).toInt) => ?_) (fun (t_281 : ¬ (q_1.1 a0 6).toInt < (q.1 a0 5).toInt) => ?_)
          · have y_282 : (q_11.1 a0 4).toInt = (q.1 a0 4).toInt := by rw [z_13]
            have y_283 : (q_11.1 a0 7).toInt = (q_1.1 a0 6).toInt := by rw [z_12]
            exact Jn_96_17 () (show (q_11.1 a0 4).toInt ≤ 400 ∨ (q_11.1 a0 7).toInt < 400 from by first | assumption | omega | decide)
          · refine wa_aload_n B dX12_go_82 rfl 0 rfl ?_
            refine wa_aload_n B dX12_go_83 rfl 0 rfl ?_
            refine wa_getI B (C := RX12) (T := TX12) (N := 51) iq_X12_go_X12 ha0 ka0 (by decide) rfl 5 (by decide) (by decide) (by decide +kernel) rfl (by decide) (v := (q.1 a0 5)) z_14 dX12_go_84 ?_
            refine wa_putI B (C := RX12) (T := TX12) (N := 51) iq_X12_go_X12 ha0 ka0 (by decide) rfl 7 (by decide) (by decide) (by decide +kernel) rfl (by decide) (v := (q.1 a0 5)) (ty := .int) tyX12 tyX12_ok nmX12 rfl (by decide +kernel) rfl rfl dX12_go_87 (fun q_284 eq_284 => ?_)
            have hV_q_284 : sx_V h L q_284 := by rw [eq_284]; exact hV_q_11.pI ka0 (show sx_in (q.1 a0 5) (0) 500 from ⟨by omega, by omega⟩)
            have hF_q_284 : sx_fr h L (fun a => h.1 a = 12) q q_284 := hF_q_11.tr (by rw [eq_284]; exact sx_fr.pI (show h.1 a0 = 12 from ka0))
            have z_285 : q_284.1 a0 7 = (q.1 a0 5) := by rw [eq_284]; exact sg_pI_e
            have hK_q_284 : sx_kf a0 [6, 7, 8, 9, 11, 12, 13] q q_284 := hK_q_11.tr (by rw [eq_284]; exact sx_kf.pI (by decide))
            refine wa_aload_n B dX12_go_90 rfl 0 rfl ?_
            refine wa_iconst B 1 dX12_go_91 (by decide) ?_
            refine wa_putI B (C := RX12) (T := TX12) (N := 51) iq_X12_go_X12 ha0 ka0 (by decide) rfl 8 (by decide) (by decide) (by decide +kernel) rfl (by decide) (v := 1) (ty := .int) tyX12 tyX12_ok nmX12 rfl (by decide +kernel) rfl rfl dX12_go_92 (fun q_286 eq_286 => ?_)
            have hV_q_286 : sx_V h L q_286 := by rw [eq_286]; exact hV_q_284.pI ka0 trivial
            have hF_q_286 : sx_fr h L (fun a => h.1 a = 12) q q_286 := hF_q_284.tr (by rw [eq_286]; exact sx_fr.pI (show h.1 a0 = 12 from ka0))
            have z_287 : q_286.1 a0 8 = 1 := by rw [eq_286]; exact sg_pI_e
            have hK_q_286 : sx_kf a0 [6, 7, 8, 9, 11, 12, 13] q q_286 := hK_q_284.tr (by rw [eq_286]; exact sx_kf.pI (by decide))
            have mN_288 : mv_N a0 q_286 := mv_N.ne z_287 (by decide)
            have z_289 : q_286.1 a0 6 = q_1.1 a0 6 := ((show q_286.1 a0 6 = q_284.1 a0 6 from by rw [eq_286]; exact sg_pI_k (by decide))).trans (((show q_284.1 a0 6 = q_11.1 a0 6 from by rw [eq_284]; exact sg_pI_k (by decide))).trans ((show q_11.1 a0 6 = q_1.1 a0 6 from by rw [eq_11]; exact sg_pI_k (by decide))))
            have y_290 : (q_286.1 a0 6).toInt = (q_1.1 a0 6).toInt := by rw [z_289]
            have z_291 : q_286.1 a0 7 = (q.1 a0 5) := ((show q_286.1 a0 7 = q_284.1 a0 7 from by rw [eq_286]; exact sg_pI_k (by decide))).trans (z_285)
            have y_292 : (q_286.1 a0 7).toInt = (q.1 a0 5).toInt := by rw [z_291]
            have y_293 : (q_286.1 a0 8).toInt = 1 := by rw [z_287]; rfl
            have z_294 : q_286.1 a0 4 = (q.1 a0 4) := ((show q_286.1 a0 4 = q_284.1 a0 4 from by rw [eq_286]; exact sg_pI_k (by decide))).trans (((show q_284.1 a0 4 = q_11.1 a0 4 from by rw [eq_284]; exact sg_pI_k (by decide))).trans (z_13))
            have y_295 : (q_286.1 a0 4).toInt = (q.1 a0 4).toInt := by rw [z_294]
            have y_296 : (q_286.1 a0 6).toInt = (q_1.1 a0 6).toInt := by rw [z_289]
            have y_297 : (q_286.1 a0 7).toInt = (q.1 a0 5).toInt := by rw [z_291]
            have y_298 : (q_286.1 a0 8).toInt = 1 := by rw [z_287]; rfl
            exact hret _ _ _ dX12_go_95 ⟨hV_q_286, hF_q_286, hK_q_286, mN_288, ⟨by omega, pr_w x_9 (by omega) (by omega) (by omega) (by omega)⟩⟩
      refine wa_icmp_ge B 52 dX12_go_8 (by decide) (fun (t_299 : (q.1 a0 4).toInt ≤ (q_1.1 a0 6).toInt) => ?_) (fun (t_299 : ¬ (q.1 a0 4).toInt ≤ (q_1.1 a0 6).toInt) => ?_)
      · exact Jn_52_10 () (show pz_skip F n9 (q.1 a0 6).toInt.toNat = (q_1.1 a0 6).toInt.toNat from by exact x_3.trans (pz_skip_e (fun z9 => by omega)))
      · refine wa_aload_n B dX12_go_11 rfl 0 rfl ?_
        refine wa_getR B (C := RX12) (T := TX12) (N := 51) iq_X12_go_X12 ha0 ka0 (by decide) rfl 3 (by decide) (by decide) (by decide +kernel) rfl (fun _ _ _ => rfl) (v := m3) p3_q_1 dX12_go_12 ?_
        refine wa_aload_n B dX12_go_15 rfl 0 rfl ?_
        refine wa_getI B (C := RX12) (T := TX12) (N := 51) iq_X12_go_X12 ha0 ka0 (by decide) rfl 6 (by decide) (by decide) (by decide +kernel) rfl (by decide) (v := (q_1.1 a0 6)) rfl dX12_go_16 ?_
        have u_300 : (q.2.2.2.1 m3 ((q_1.1 a0 6) : Int32).toNatClampNeg) = F ((q_1.1 a0 6) : Int32).toInt.toNat := by rw [zx_nc]; exact hFF _ (by omega)
        have u_301 := congrArg Int32.toInt u_300
        have z_302 : q_1.2.2.2.1 m3 ((q_1.1 a0 6) : Int32).toNatClampNeg = (q.2.2.2.1 m3 ((q_1.1 a0 6) : Int32).toNatClampNeg) := congrFun p4_q_1 _
        refine wa_iaload B hm3 km3 (by decide) (by decide) (show 0 ≤ (q_1.1 a0 6).toInt by omega) (show (q_1.1 a0 6).toInt < (h.2.1 m3 : Int) by omega) (v := (q.2.2.2.1 m3 ((q_1.1 a0 6) : Int32).toNatClampNeg)) z_302 dX12_go_19 ?_
        have g_303 : (0 : Int) ≤ ((q.2.2.2.1 m3 ((q_1.1 a0 6) : Int32).toNatClampNeg)).toInt ∧ ((q.2.2.2.1 m3 ((q_1.1 a0 6) : Int32).toNatClampNeg)).toInt ≤ 255 := by rw [← z_302]; exact hV_q_1.cnt hm3 km3 _
        refine wa_bipush B 32 dX12_go_20 (by decide) ?_
        have Jn_39_305 : ∀ (_ : Unit), (q.2.2.2.1 m3 (q_1.1 a0 6).toNatClampNeg).toInt = 32 ∨ (q.2.2.2.1 m3 (q_1.1 a0 6).toNatClampNeg).toInt = 10 → WA l dC dI h L ({ frames := 2, cells := 0, slots := 0, locals := 41 } : Room) 5 Z q_1 39 [(0, .ref a0)] [] := by
          intro _ x_304
          refine wa_aload_n B dX12_go_39 rfl 0 rfl ?_
          refine wa_dup B dX12_go_40 rfl ?_
          refine wa_getI B (C := RX12) (T := TX12) (N := 51) iq_X12_go_X12 ha0 ka0 (by decide) rfl 6 (by decide) (by decide) (by decide +kernel) rfl (by decide) (v := (q_1.1 a0 6)) rfl dX12_go_41 ?_
          refine wa_iconst B 1 dX12_go_44 (by decide) ?_
          refine wa_iadd B dX12_go_45 (fun v_306 ev_306 => ?_)
          have tv_306 : v_306.toInt = (q_1.1 a0 6).toInt + 1 := by have b0 := zx_bd (q_1.1 a0 6); rw [ev_306]; exact zx_add (show (-2147483648 : Int) ≤ (q_1.1 a0 6).toInt + 1 by omega) (show (q_1.1 a0 6).toInt + 1 < (2147483648 : Int) by omega)
          refine wa_putI B (C := RX12) (T := TX12) (N := 51) iq_X12_go_X12 ha0 ka0 (by decide) rfl 6 (by decide) (by decide) (by decide +kernel) rfl (by decide) (v := v_306) (ty := .int) tyX12 tyX12_ok nmX12 rfl (by decide +kernel) rfl rfl dX12_go_46 (fun q_307 eq_307 => ?_)
          have hV_q_307 : sx_V h L q_307 := by rw [eq_307]; exact hV_q_1.pI ka0 (show sx_in v_306 (0) 500 from ⟨by omega, by omega⟩)
          have hF_q_307 : sx_fr h L (fun a => h.1 a = 12) q q_307 := hF_q_1.tr (by rw [eq_307]; exact sx_fr.pI (show h.1 a0 = 12 from ka0))
          have z_308 : q_307.1 a0 6 = v_306 := by rw [eq_307]; exact sg_pI_e
          have hK_q_307 : sx_kf a0 [6, 7, 8, 9, 11, 12, 13] q q_307 := hK_q_1.tr (by rw [eq_307]; exact sx_kf.pI (by decide))
          refine wa_goto B 0 dX12_go_49 (by decide) ?_
          have z_309 : q_307.1 a0 4 = (q.1 a0 4) := ((show q_307.1 a0 4 = q_1.1 a0 4 from by rw [eq_307]; exact sg_pI_k (by decide))).trans (p0_q_1)
          have y_310 : (q_307.1 a0 4).toInt = (q.1 a0 4).toInt := by rw [z_309]
          have y_311 : (q_307.1 a0 6).toInt = v_306.toInt := by rw [z_308]
          have z_312 : q_307.1 a0 5 = (q.1 a0 5) := ((show q_307.1 a0 5 = q_1.1 a0 5 from by rw [eq_307]; exact sg_pI_k (by decide))).trans (p1_q_1)
          have z_313 : q_307.1 a0 10 = (q.1 a0 10) := ((show q_307.1 a0 10 = q_1.1 a0 10 from by rw [eq_307]; exact sg_pI_k (by decide))).trans (p2_q_1)
          have z_314 : q_307.2.2.1 a0 3 = m3 := ((show q_307.2.2.1 a0 3 = q_1.2.2.1 a0 3 from by rw [eq_307]; rfl)).trans (p3_q_1)
          have z_315 : q_307.2.2.2.1 m3 = (q.2.2.2.1 m3) := ((show q_307.2.2.2.1 m3 = q_1.2.2.2.1 m3 from by rw [eq_307]; rfl)).trans (p4_q_1)
          exact ih_6 q_307 hV_q_307 hF_q_307 hK_q_307 z_309 z_312 z_313 z_314 z_315 (show (q_307.1 a0 6).toInt ≤ (q_307.1 a0 4).toInt from by first | assumption | omega | decide) (show pz_skip F n9 (q.1 a0 6).toInt.toNat = pz_skip F n9 (q_307.1 a0 6).toInt.toNat from by rw [z_308]; exact x_3.trans ((pz_skip_s (by omega) (by omega)).trans (by rw [show (v_306 : Int32).toInt.toNat = (q_1.1 a0 6).toInt.toNat + 1 by omega]))) (show ((q_307.1 a0 4).toInt - (q_307.1 a0 6).toInt : Int).toNat < _ from by omega)
        refine wa_icmp_eq B 39 dX12_go_22 (by decide) (fun (t_316 : ((q.2.2.2.1 m3 ((q_1.1 a0 6) : Int32).toNatClampNeg)).toInt = 32) => ?_) (fun (t_316 : ¬ ((q.2.2.2.1 m3 ((q_1.1 a0 6) : Int32).toNatClampNeg)).toInt = 32) => ?_)
        · exact Jn_39_305 () (show (q.2.2.2.1 m3 (q_1.1 a0 6).toNatClampNeg).toInt = 32 ∨ (q.2.2.2.1 m3 (q_1.1 a0 6).toNatClampNeg).toInt = 10 from by first | assumption | omega | decide)
        · refine wa_aload_n B dX12_go_25 rfl 0 rfl ?_
          refine wa_getR B (C := RX12) (T := TX12) (N := 51) iq_X12_go_X12 ha0 ka0 (by decide) rfl 3 (by decide) (by decide) (by decide +kernel) rfl (fun _ _ _ => rfl) (v := m3) p3_q_1 dX12_go_26 ?_
          refine wa_aload_n B dX12_go_29 rfl 0 rfl ?_
          refine wa_getI B (C := RX12) (T := TX12) (N := 51) iq_X12_go_X12 ha0 ka0 (by decide) rfl 6 (by decide) (by decide) (by decide +kernel) rfl (by decide) (v := (q_1.1 a0 6)) rfl dX12_go_30 ?_
          refine wa_iaload B hm3 km3 (by decide) (by decide) (show 0 ≤ (q_1.1 a0 6).toInt by omega) (show (q_1.1 a0 6).toInt < (h.2.1 m3 : Int) by omega) (v := (q.2.2.2.1 m3 ((q_1.1 a0 6) : Int32).toNatClampNeg)) z_302 dX12_go_33 ?_
          refine wa_bipush B 10 dX12_go_34 (by decide) ?_
          refine wa_icmp_ne B 52 dX12_go_36 (by decide) (fun (t_317 : ¬ ((q.2.2.2.1 m3 ((q_1.1 a0 6) : Int32).toNatClampNeg)).toInt = 10) => ?_) (fun (t_317 : ((q.2.2.2.1 m3 ((q_1.1 a0 6) : Int32).toNatClampNeg)).toInt = 10) => ?_)
          · exact Jn_52_10 () (show pz_skip F n9 (q.1 a0 6).toInt.toNat = (q_1.1 a0 6).toInt.toNat from by exact x_3.trans (pz_skip_e (fun z9 => by omega)))
          · exact Jn_39_305 () (show (q.2.2.2.1 m3 (q_1.1 a0 6).toNatClampNeg).toInt = 32 ∨ (q.2.2.2.1 m3 (q_1.1 a0 6).toNatClampNeg).toInt = 10 from by first | assumption | omega | decide)
  exact Lp_0_4 _ q hV hF hK rfl rfl rfl em3 rfl (show (q.1 a0 6).toInt ≤ (q.1 a0 4).toInt from by first | assumption | omega | decide) (show pz_skip F n9 (q.1 a0 6).toInt.toNat = pz_skip F n9 (q.1 a0 6).toInt.toNat from by rfl) (Nat.lt_succ_self _)
