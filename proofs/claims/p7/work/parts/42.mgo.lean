theorem iq_X12_go_X12 : ∀ w ∈ wsX120, w ∈ wsX12_go := fun _ h => List.mem_cons_of_mem _ (List.mem_append_right _ h)
set_option maxHeartbeats 4000000 in
set_option maxRecDepth 100000 in
theorem k_X12_go (l : Launch) (dC : Nat → ClassId) (dI : Nat → Nat → Nat) (h : Sh) (L : List Nat) (hN : sx_nd L) (q : Sg) (hV : sx_V h L q) {a0 : Nat} (ha0 : a0 ∈ L) (ka0 : h.1 a0 = 12)    : CMv l dC dI h L yX12_go wsX12_go ({ frames := 2, cells := 0, slots := 0, locals := 41 } : Room) q [.ref a0] (fun q' => sx_V h L q' ∧ sx_fr h L (fun a => h.1 a = 12) q q' ∧ sx_kf a0 [6, 7, 8, 9, 11, 12, 13] q q' ∧ mv_N a0 q') := by
  refine cm_v (cc := cX12_go) (mL := 5) (own := RX12) hN (by decide) rfl rfl (Nat.le_of_ble_eq_true rfl) (fun Z B hret => ?_)
  have hF : sx_fr h L (fun a => h.1 a = 12) q q := sx_fr.rf
  have hK : sx_kf a0 [6, 7, 8, 9, 11, 12, 13] q q := sx_kf.rf
  show WA l dC dI h L ({ frames := 2, cells := 0, slots := 0, locals := 41 } : Room) 5 Z q 0 [(0, .ref a0)] []
  have Lp_0_2 : ∀ (n : Nat) (q_1 : Sg), sx_V h L q_1 → sx_fr h L (fun a => h.1 a = 12) q q_1 → sx_kf a0 [6, 7, 8, 9, 11, 12, 13] q q_1 → ((q_1.1 a0 4).toInt - (q_1.1 a0 6).toInt : Int).toNat < n → WA l dC dI h L ({ frames := 2, cells := 0, slots := 0, locals := 41 } : Room) 5 Z q_1 0 [(0, .ref a0)] [] := by
    intro n
    induction n with
    | zero =>
      intro q_1 hV_q_1 hF_q_1 hK_q_1 hn
      exact absurd hn (Nat.not_lt_zero _)
    | succ n ih_3 =>
      intro q_1 hV_q_1 hF_q_1 hK_q_1 hn
      refine wa_aload_n B dX12_go_0 rfl 0 rfl ?_
      refine wa_getI B (C := RX12) (T := TX12) (N := 51) iq_X12_go_X12 ha0 ka0 (by decide) rfl 6 (by decide) (by decide) (by decide +kernel) rfl (by decide) (v := (q_1.1 a0 6)) rfl dX12_go_1 ?_
      have g_4 : (0 : Int) ≤ (q_1.1 a0 6).toInt ∧ (q_1.1 a0 6).toInt ≤ 500 := hV_q_1.int ha0 ka0 6
      refine wa_aload_n B dX12_go_4 rfl 0 rfl ?_
      refine wa_getI B (C := RX12) (T := TX12) (N := 51) iq_X12_go_X12 ha0 ka0 (by decide) rfl 4 (by decide) (by decide) (by decide +kernel) rfl (by decide) (v := (q_1.1 a0 4)) rfl dX12_go_5 ?_
      have g_5 : (0 : Int) ≤ (q_1.1 a0 4).toInt ∧ (q_1.1 a0 4).toInt ≤ 500 := hV_q_1.int ha0 ka0 4
      have Jn_52_6 : ∀ (_ : Unit), WA l dC dI h L ({ frames := 2, cells := 0, slots := 0, locals := 41 } : Room) 5 Z q_1 52 [(0, .ref a0)] [] := by
        intro _
        refine wa_aload_n B dX12_go_52 rfl 0 rfl ?_
        refine wa_aload_n B dX12_go_53 rfl 0 rfl ?_
        refine wa_getI B (C := RX12) (T := TX12) (N := 51) iq_X12_go_X12 ha0 ka0 (by decide) rfl 6 (by decide) (by decide) (by decide +kernel) rfl (by decide) (v := (q_1.1 a0 6)) rfl dX12_go_54 ?_
        refine wa_putI B (C := RX12) (T := TX12) (N := 51) iq_X12_go_X12 ha0 ka0 (by decide) rfl 7 (by decide) (by decide) (by decide +kernel) rfl (by decide) (v := (q_1.1 a0 6)) (ty := .int) tyX12 tyX12_ok nmX12 rfl (by decide +kernel) rfl rfl dX12_go_57 (fun q_7 eq_7 => ?_)
        have hV_q_7 : sx_V h L q_7 := by rw [eq_7]; exact hV_q_1.pI ka0 (show sx_in (q_1.1 a0 6) (0) 500 from ⟨by omega, by omega⟩)
        have hF_q_7 : sx_fr h L (fun a => h.1 a = 12) q q_7 := hF_q_1.tr (by rw [eq_7]; exact sx_fr.pI (show h.1 a0 = 12 from by omega))
        have z_8 : q_7.1 a0 7 = (q_1.1 a0 6) := by rw [eq_7]; exact sg_pI_e
        have hK_q_7 : sx_kf a0 [6, 7, 8, 9, 11, 12, 13] q q_7 := hK_q_1.tr (by rw [eq_7]; exact sx_kf.pI (by decide))
        refine wa_aload_n B dX12_go_60 rfl 0 rfl ?_
        have z_9 : q_7.1 a0 4 = q_1.1 a0 4 := (show q_7.1 a0 4 = q_1.1 a0 4 from by rw [eq_7]; exact sg_pI_k (by decide))
        refine wa_getI B (C := RX12) (T := TX12) (N := 51) iq_X12_go_X12 ha0 ka0 (by decide) rfl 4 (by decide) (by decide) (by decide +kernel) rfl (by decide) (v := (q_1.1 a0 4)) z_9 dX12_go_61 ?_
        refine wa_aload_n B dX12_go_64 rfl 0 rfl ?_
        refine wa_getI B (C := RX12) (T := TX12) (N := 51) iq_X12_go_X12 ha0 ka0 (by decide) rfl 5 (by decide) (by decide) (by decide +kernel) rfl (by decide) (v := (q_7.1 a0 5)) rfl dX12_go_65 ?_
        have g_10 : (0 : Int) ≤ (q_7.1 a0 5).toInt ∧ (q_7.1 a0 5).toInt ≤ 500 := hV_q_7.int ha0 ka0 5
        have Jn_96_11 : ∀ (_ : Unit), WA l dC dI h L ({ frames := 2, cells := 0, slots := 0, locals := 41 } : Room) 5 Z q_7 96 [(0, .ref a0)] [] := by
          intro _
          refine wa_aload_n B dX12_go_96 rfl 0 rfl ?_
          have z_12 : q_7.1 a0 6 = q_1.1 a0 6 := (show q_7.1 a0 6 = q_1.1 a0 6 from by rw [eq_7]; exact sg_pI_k (by decide))
          refine wa_getI B (C := RX12) (T := TX12) (N := 51) iq_X12_go_X12 ha0 ka0 (by decide) rfl 6 (by decide) (by decide) (by decide +kernel) rfl (by decide) (v := (q_1.1 a0 6)) z_12 dX12_go_97 ?_
          refine wa_aload_n B dX12_go_100 rfl 0 rfl ?_
          refine wa_getI B (C := RX12) (T := TX12) (N := 51) iq_X12_go_X12 ha0 ka0 (by decide) rfl 4 (by decide) (by decide) (by decide +kernel) rfl (by decide) (v := (q_1.1 a0 4)) z_9 dX12_go_101 ?_
          refine wa_icmp_lt B 113 dX12_go_104 (by decide) (fun (t_13 : (q_1.1 a0 6).toInt < (q_1.1 a0 4).toInt) => ?_) (fun (t_13 : ¬ (q_1.1 a0 6).toInt < (q_1.1 a0 4).toInt) => ?_)
          · refine wa_aload_n B dX12_go_113 rfl 0 rfl ?_
            obtain ⟨a_14, ea_14, ha_14, ka_14, la_14⟩ := hV_q_7.refn (n := 500) (t := 113) ha0 ka0 3 rfl (by decide) rfl (by decide)
            refine wa_getR B (C := RX12) (T := TX12) (N := 51) iq_X12_go_X12 ha0 ka0 (by decide) rfl 3 (by decide) (by decide) (by decide +kernel) rfl (fun _ _ _ => rfl) (v := a_14) ea_14 dX12_go_114 ?_
            refine wa_aload_n B dX12_go_117 rfl 0 rfl ?_
            refine wa_getI B (C := RX12) (T := TX12) (N := 51) iq_X12_go_X12 ha0 ka0 (by decide) rfl 6 (by decide) (by decide) (by decide +kernel) rfl (by decide) (v := (q_1.1 a0 6)) z_12 dX12_go_118 ?_
            refine wa_iaload B ha_14 ka_14 (by decide) (by decide) (show 0 ≤ (q_1.1 a0 6).toInt by omega) (show (q_1.1 a0 6).toInt < (h.2.1 a_14 : Int) by omega) (v := (q_7.2.2.2.1 a_14 ((q_1.1 a0 6) : Int32).toNatClampNeg)) rfl dX12_go_121 ?_
            have g_15 : (0 : Int) ≤ ((q_7.2.2.2.1 a_14 ((q_1.1 a0 6) : Int32).toNatClampNeg)).toInt ∧ ((q_7.2.2.2.1 a_14 ((q_1.1 a0 6) : Int32).toNatClampNeg)).toInt ≤ 255 := hV_q_7.cnt ha_14 ka_14 _
            refine wa_istore_n B [(1, .int ((q_7.2.2.2.1 a_14 ((q_1.1 a0 6) : Int32).toNatClampNeg))), (0, .ref a0)] dX12_go_122 rfl (by decide) rfl ?_
            refine wa_iload_n B dX12_go_123 rfl 0 rfl ?_
            refine wa_callSi B (As := [.int ((q_7.2.2.2.1 a_14 ((q_1.1 a0 6) : Int32).toNatClampNeg))]) (rest := []) (k_X12_isLetter l dC dI h L hN q_7 hV_q_7 ((q_7.2.2.2.1 a_14 ((q_1.1 a0 6) : Int32).toNatClampNeg))  ) (va_cwS 1 B.1.2.2.2.2 gX12_go_X12_isLetter rfl rfl rfl (by decide +kernel) ⟨Nat.le_of_ble_eq_true rfl, Nat.le_of_ble_eq_true rfl⟩) rfl rfl (Nat.le_of_ble_eq_true rfl) dX12_go_124 (fun r_17 q_16 w_18 => ?_)
            obtain ⟨ew_18, hw_18⟩ := w_18
            subst ew_18
            have Jn_175_19 : ∀ (_ : Unit), WA l dC dI h L ({ frames := 2, cells := 0, slots := 0, locals := 41 } : Room) 5 Z q_7 175 [(1, .int ((q_7.2.2.2.1 a_14 ((q_1.1 a0 6) : Int32).toNatClampNeg))), (0, .ref a0)] [] := by
              intro _
              refine wa_iload_n B dX12_go_175 rfl 0 rfl ?_
              refine wa_callSi B (As := [.int ((q_7.2.2.2.1 a_14 ((q_1.1 a0 6) : Int32).toNatClampNeg))]) (rest := []) (k_X12_isLetter l dC dI h L hN q_7 hV_q_7 ((q_7.2.2.2.1 a_14 ((q_1.1 a0 6) : Int32).toNatClampNeg))  ) (va_cwS 1 B.1.2.2.2.2 gX12_go_X12_isLetter rfl rfl rfl (by decide +kernel) ⟨Nat.le_of_ble_eq_true rfl, Nat.le_of_ble_eq_true rfl⟩) rfl rfl (Nat.le_of_ble_eq_true rfl) dX12_go_176 (fun r_21 q_20 w_22 => ?_)
              obtain ⟨ew_22, hw_22⟩ := w_22
              subst ew_22
              refine wa_istore_n B [(2, .int r_21), (1, .int ((q_7.2.2.2.1 a_14 ((q_1.1 a0 6) : Int32).toNatClampNeg))), (0, .ref a0)] dX12_go_179 rfl (by decide) rfl ?_
              refine wa_iconst B 1 dX12_go_180 (by decide) ?_
              refine wa_istore_n B [(3, .int 1), (2, .int r_21), (1, .int ((q_7.2.2.2.1 a_14 ((q_1.1 a0 6) : Int32).toNatClampNeg))), (0, .ref a0)] dX12_go_181 rfl (by decide) rfl ?_
              refine wa_aload_n B dX12_go_182 rfl 3 rfl ?_
              refine wa_lconst B 0 dX12_go_183 (by decide) ?_
              refine wa_putJ B (C := RX12) (T := TX12) (N := 51) iq_X12_go_X12 ha0 ka0 (by decide) rfl 11 (by decide) (by decide) (by decide +kernel) rfl (by decide) (v := 0) (ty := .long) tyX12 tyX12_ok nmX12 rfl (by decide +kernel) rfl rfl dX12_go_184 (fun q_23 eq_23 => ?_)
              have hV_q_23 : sx_V h L q_23 := by rw [eq_23]; exact hV_q_7.pJ
              have hF_q_23 : sx_fr h L (fun a => h.1 a = 12) q q_23 := hF_q_7.tr (by rw [eq_23]; exact sx_fr.pJ (show h.1 a0 = 12 from by omega))
              have z_24 : q_23.2.1 a0 11 = 0 := by rw [eq_23]; exact sg_pJ_e
              have hK_q_23 : sx_kf a0 [6, 7, 8, 9, 11, 12, 13] q q_23 := hK_q_7.tr (by rw [eq_23]; exact sx_kf.pJ (by decide))
              have z_27 : q_23.1 a0 4 = (q_1.1 a0 4) := ((show q_23.1 a0 4 = q_7.1 a0 4 from by rw [eq_23]; rfl)).trans (z_9)
              have z_28 : q_23.1 a0 6 = (q_1.1 a0 6) := ((show q_23.1 a0 6 = q_7.1 a0 6 from by rw [eq_23]; rfl)).trans (z_12)
              have z_29 : q_23.1 a0 7 = (q_1.1 a0 6) := ((show q_23.1 a0 7 = q_7.1 a0 7 from by rw [eq_23]; rfl)).trans (z_8)
              have z_30 : q_23.1 a0 5 = q_7.1 a0 5 := (show q_23.1 a0 5 = q_7.1 a0 5 from by rw [eq_23]; rfl)
              have z_31 : q_23.2.2.1 a0 3 = a_14 := ((show q_23.2.2.1 a0 3 = q_7.2.2.1 a0 3 from by rw [eq_23]; rfl)).trans (ea_14)
              have z_32 : q_23.2.2.2.1 a_14 = q_7.2.2.2.1 a_14 := (show q_23.2.2.2.1 a_14 = q_7.2.2.2.1 a_14 from by rw [eq_23]; rfl)
              have Lp_187_38 : ∀ (n : Nat) (v_25 : Int32) (q_26 : Sg), sx_V h L q_26 → sx_fr h L (fun a => h.1 a = 12) q q_26 → sx_kf a0 [6, 7, 8, 9, 11, 12, 13] q q_26 → q_26.1 a0 4 = (q_1.1 a0 4) → q_26.1 a0 7 = (q_1.1 a0 6) → q_26.1 a0 5 = (q_7.1 a0 5) → q_26.2.2.1 a0 3 = a_14 → q_26.2.2.2.1 a_14 = (q_7.2.2.2.1 a_14) → (q_26.1 a0 7).toInt ≤ (q_26.1 a0 6).toInt → (q_26.1 a0 6).toInt ≤ (q_26.1 a0 4).toInt → (q_26.1 a0 7).toInt < (q_26.1 a0 4).toInt → v_25.toInt = 0 ∨ v_25.toInt = 1 → ((v_25.toInt = 1 → r_21.toInt = 1 → 0 ≤ (q_26.2.1 a0 11).toInt ∧ (q_26.2.1 a0 11).toInt < zx_q ((q_26.1 a0 6).toInt - (q_26.1 a0 7).toInt))) → ((q_26.1 a0 4).toInt - (q_26.1 a0 6).toInt : Int).toNat < n → WA l dC dI h L ({ frames := 2, cells := 0, slots := 0, locals := 41 } : Room) 5 Z q_26 187 [(3, .int v_25), (2, .int r_21), (1, .int ((q_7.2.2.2.1 a_14 ((q_1.1 a0 6) : Int32).toNatClampNeg))), (0, .ref a0)] [] := by
                intro n
                induction n with
                | zero =>
                  intro v_25 q_26 hV_q_26 hF_q_26 hK_q_26 p0_q_26 p1_q_26 p2_q_26 p3_q_26 p4_q_26 x_33 x_34 x_35 x_36 x_37 hn
                  exact absurd hn (Nat.not_lt_zero _)
                | succ n ih_41 =>
                  intro v_25 q_26 hV_q_26 hF_q_26 hK_q_26 p0_q_26 p1_q_26 p2_q_26 p3_q_26 p4_q_26 x_33 x_34 x_35 x_36 x_37 hn
                  have y_39 : (q_26.1 a0 4).toInt = (q_1.1 a0 4).toInt := by rw [p0_q_26]
                  have y_40 : (q_26.1 a0 7).toInt = (q_1.1 a0 6).toInt := by rw [p1_q_26]
                  refine wa_aload_n B dX12_go_187 rfl 3 rfl ?_
                  refine wa_aload_n B dX12_go_188 rfl 3 rfl ?_
                  refine wa_getI B (C := RX12) (T := TX12) (N := 51) iq_X12_go_X12 ha0 ka0 (by decide) rfl 6 (by decide) (by decide) (by decide +kernel) rfl (by decide) (v := (q_26.1 a0 6)) rfl dX12_go_189 ?_
                  have g_42 : (0 : Int) ≤ (q_26.1 a0 6).toInt ∧ (q_26.1 a0 6).toInt ≤ 500 := hV_q_26.int ha0 ka0 6
                  have y_43 : (q_26.1 a0 4).toInt = (q_1.1 a0 4).toInt := by rw [p0_q_26]
                  refine wa_callVi B (x := (RX12, TX12, 51)) (As := [.int (q_26.1 a0 6)]) (rest := []) (k_X12_at l dC dI h L hN q_26 hV_q_26 (a0 := a0) ha0 ka0 (q_26.1 a0 6)  (by first | assumption | omega | decide)) (cwV 1 B.1.2.2.2.2 gX12_go_X12_at rfl rfl rfl (by decide +kernel) ⟨Nat.le_of_ble_eq_true rfl, Nat.le_of_ble_eq_true rfl⟩) ha0 ka0 (by decide) rfl rfl rfl (Nat.le_of_ble_eq_true rfl) dX12_go_192 (fun r_45 q_44 w_46 => ?_)
                  obtain ⟨ew_46, hw_46⟩ := w_46
                  subst ew_46
                  refine wa_callSi B (As := [.int r_45]) (rest := []) (k_X12_isLetter l dC dI h L hN q_26 hV_q_26 r_45  ) (va_cwS 1 B.1.2.2.2.2 gX12_go_X12_isLetter rfl rfl rfl (by decide +kernel) ⟨Nat.le_of_ble_eq_true rfl, Nat.le_of_ble_eq_true rfl⟩) rfl rfl (Nat.le_of_ble_eq_true rfl) dX12_go_195 (fun r_48 q_47 w_49 => ?_)
                  obtain ⟨ew_49, hw_49⟩ := w_49
                  subst ew_49
                  have Jn_216_51 : ∀ (_ : Unit), (q_26.1 a0 6).toInt < (q_26.1 a0 4).toInt → WA l dC dI h L ({ frames := 2, cells := 0, slots := 0, locals := 41 } : Room) 5 Z q_26 216 [(3, .int v_25), (2, .int r_21), (1, .int ((q_7.2.2.2.1 a_14 ((q_1.1 a0 6) : Int32).toNatClampNeg))), (0, .ref a0)] [] := by
                    intro _ x_50
                    have y_52 : (q_26.1 a0 4).toInt = (q_1.1 a0 4).toInt := by rw [p0_q_26]
                    refine wa_aload_n B dX12_go_216 rfl 3 rfl ?_
                    refine wa_getR B (C := RX12) (T := TX12) (N := 51) iq_X12_go_X12 ha0 ka0 (by decide) rfl 3 (by decide) (by decide) (by decide +kernel) rfl (fun _ _ _ => rfl) (v := a_14) p3_q_26 dX12_go_217 ?_
                    refine wa_aload_n B dX12_go_220 rfl 3 rfl ?_
                    refine wa_getI B (C := RX12) (T := TX12) (N := 51) iq_X12_go_X12 ha0 ka0 (by decide) rfl 6 (by decide) (by decide) (by decide +kernel) rfl (by decide) (v := (q_26.1 a0 6)) rfl dX12_go_221 ?_
                    have z_53 : q_26.2.2.2.1 a_14 ((q_26.1 a0 6) : Int32).toNatClampNeg = (q_7.2.2.2.1 a_14 ((q_26.1 a0 6) : Int32).toNatClampNeg) := congrFun p4_q_26 _
                    refine wa_iaload B ha_14 ka_14 (by decide) (by decide) (show 0 ≤ (q_26.1 a0 6).toInt by omega) (show (q_26.1 a0 6).toInt < (h.2.1 a_14 : Int) by omega) (v := (q_7.2.2.2.1 a_14 ((q_26.1 a0 6) : Int32).toNatClampNeg)) z_53 dX12_go_224 ?_
                    have g_54 : (0 : Int) ≤ ((q_7.2.2.2.1 a_14 ((q_26.1 a0 6) : Int32).toNatClampNeg)).toInt ∧ ((q_7.2.2.2.1 a_14 ((q_26.1 a0 6) : Int32).toNatClampNeg)).toInt ≤ 255 := by rw [← z_53]; exact hV_q_26.cnt ha_14 ka_14 _
                    refine wa_istore B [(4, .int ((q_7.2.2.2.1 a_14 ((q_26.1 a0 6) : Int32).toNatClampNeg))), (3, .int v_25), (2, .int r_21), (1, .int ((q_7.2.2.2.1 a_14 ((q_1.1 a0 6) : Int32).toNatClampNeg))), (0, .ref a0)] dX12_go_225 (by decide) rfl ?_
                    refine wa_iload_n B dX12_go_227 rfl 1 rfl ?_
                    refine wa_if_eq B 244 dX12_go_228 (by decide) (fun (t_55 : v_25.toInt = 0) => ?_) (fun (t_55 : ¬ v_25.toInt = 0) => ?_)
                    · refine wa_iconst B 0 dX12_go_244 (by decide) ?_
                      refine wa_istore_n B [(3, .int 0), (4, .int ((q_7.2.2.2.1 a_14 ((q_26.1 a0 6) : Int32).toNatClampNeg))), (2, .int r_21), (1, .int ((q_7.2.2.2.1 a_14 ((q_1.1 a0 6) : Int32).toNatClampNeg))), (0, .ref a0)] dX12_go_245 rfl (by decide) rfl ?_
                      refine wa_aload_n B dX12_go_246 rfl 4 rfl ?_
                      refine wa_getI B (C := RX12) (T := TX12) (N := 51) iq_X12_go_X12 ha0 ka0 (by decide) rfl 6 (by decide) (by decide) (by decide +kernel) rfl (by decide) (v := (q_26.1 a0 6)) rfl dX12_go_247 ?_
                      refine wa_aload_n B dX12_go_250 rfl 4 rfl ?_
                      refine wa_getI B (C := RX12) (T := TX12) (N := 51) iq_X12_go_X12 ha0 ka0 (by decide) rfl 7 (by decide) (by decide) (by decide +kernel) rfl (by decide) (v := (q_1.1 a0 6)) p1_q_26 dX12_go_251 ?_
                      have g_56 : (0 : Int) ≤ (q_1.1 a0 6).toInt ∧ (q_1.1 a0 6).toInt ≤ 500 := by rw [← p1_q_26]; exact hV_q_26.int ha0 ka0 7
                      refine wa_isub B dX12_go_254 (fun v_57 ev_57 => ?_)
                      refine wa_bipush B 8 dX12_go_255 (by decide) ?_
                      have tv_57 : v_57.toInt = (q_26.1 a0 6).toInt - (q_1.1 a0 6).toInt := by have b0 := zx_bd (q_26.1 a0 6); have b1 := zx_bd (q_1.1 a0 6); rw [ev_57]; exact zx_sub (show (-2147483648 : Int) ≤ (q_26.1 a0 6).toInt - (q_1.1 a0 6).toInt by omega) (show (q_26.1 a0 6).toInt - (q_1.1 a0 6).toInt < (2147483648 : Int) by omega)
                      refine wa_icmp_ge B 280 dX12_go_257 (by decide) (fun (t_58 : 8 ≤ v_57.toInt) => ?_) (fun (t_58 : ¬ 8 ≤ v_57.toInt) => ?_)
                      · refine wa_aload_n B dX12_go_280 rfl 4 rfl ?_
                        refine wa_dup B dX12_go_281 rfl ?_
                        refine wa_getI B (C := RX12) (T := TX12) (N := 51) iq_X12_go_X12 ha0 ka0 (by decide) rfl 6 (by decide) (by decide) (by decide +kernel) rfl (by decide) (v := (q_26.1 a0 6)) rfl dX12_go_282 ?_
                        refine wa_iconst B 1 dX12_go_285 (by decide) ?_
                        refine wa_iadd B dX12_go_286 (fun v_59 ev_59 => ?_)
                        have tv_59 : v_59.toInt = (q_26.1 a0 6).toInt + 1 := by have b0 := zx_bd (q_26.1 a0 6); rw [ev_59]; exact zx_add (show (-2147483648 : Int) ≤ (q_26.1 a0 6).toInt + 1 by omega) (show (q_26.1 a0 6).toInt + 1 < (2147483648 : Int) by omega)
                        refine wa_putI B (C := RX12) (T := TX12) (N := 51) iq_X12_go_X12 ha0 ka0 (by decide) rfl 6 (by decide) (by decide) (by decide +kernel) rfl (by decide) (v := v_59) (ty := .int) tyX12 tyX12_ok nmX12 rfl (by decide +kernel) rfl rfl dX12_go_287 (fun q_60 eq_60 => ?_)
                        have hV_q_60 : sx_V h L q_60 := by rw [eq_60]; exact hV_q_26.pI ka0 (show sx_in v_59 (0) 500 from ⟨by omega, by omega⟩)
                        have hF_q_60 : sx_fr h L (fun a => h.1 a = 12) q q_60 := hF_q_26.tr (by rw [eq_60]; exact sx_fr.pI (show h.1 a0 = 12 from by omega))
                        have z_61 : q_60.1 a0 6 = v_59 := by rw [eq_60]; exact sg_pI_e
                        have hK_q_60 : sx_kf a0 [6, 7, 8, 9, 11, 12, 13] q q_60 := hK_q_26.tr (by rw [eq_60]; exact sx_kf.pI (by decide))
                        refine wa_goto B 187 dX12_go_290 (by decide) ?_
                        have z_62 : q_60.1 a0 4 = (q_1.1 a0 4) := ((show q_60.1 a0 4 = q_26.1 a0 4 from by rw [eq_60]; exact sg_pI_k (by decide))).trans (p0_q_26)
                        have y_63 : (q_60.1 a0 4).toInt = (q_1.1 a0 4).toInt := by rw [z_62]
                        have y_64 : (q_60.1 a0 6).toInt = v_59.toInt := by rw [z_61]
                        have z_65 : q_60.1 a0 7 = (q_1.1 a0 6) := ((show q_60.1 a0 7 = q_26.1 a0 7 from by rw [eq_60]; exact sg_pI_k (by decide))).trans (p1_q_26)
                        have y_66 : (q_60.1 a0 7).toInt = (q_1.1 a0 6).toInt := by rw [z_65]
                        have z_67 : q_60.1 a0 5 = (q_7.1 a0 5) := ((show q_60.1 a0 5 = q_26.1 a0 5 from by rw [eq_60]; exact sg_pI_k (by decide))).trans (p2_q_26)
                        have z_68 : q_60.2.2.1 a0 3 = a_14 := ((show q_60.2.2.1 a0 3 = q_26.2.2.1 a0 3 from by rw [eq_60]; rfl)).trans (p3_q_26)
                        have z_69 : q_60.2.2.2.1 a_14 = (q_7.2.2.2.1 a_14) := ((show q_60.2.2.2.1 a_14 = q_26.2.2.2.1 a_14 from by rw [eq_60]; rfl)).trans (p4_q_26)
                        have z_70 : q_60.2.1 a0 11 = q_26.2.1 a0 11 := (show q_60.2.1 a0 11 = q_26.2.1 a0 11 from by rw [eq_60]; rfl)
                        refine WA.sub [0, 2, 3, 4] rfl ?_
                        exact ih_41 0 q_60 hV_q_60 hF_q_60 hK_q_60 z_62 z_65 z_67 z_68 z_69 (show (q_60.1 a0 7).toInt ≤ (q_60.1 a0 6).toInt from by first | assumption | omega | decide) (show (q_60.1 a0 6).toInt ≤ (q_60.1 a0 4).toInt from by first | assumption | omega | decide) (show (q_60.1 a0 7).toInt < (q_60.1 a0 4).toInt from by first | assumption | omega | decide) (show 0 = 0 ∨ 0 = 1 from by first | assumption | omega | decide) (show (0 = 1 → r_21.toInt = 1 → 0 ≤ (q_60.2.1 a0 11).toInt ∧ (q_60.2.1 a0 11).toInt < zx_q ((q_60.1 a0 6).toInt - (q_60.1 a0 7).toInt)) from by exact fun h9 => absurd h9 (by decide)) (show ((q_60.1 a0 4).toInt - (q_60.1 a0 6).toInt : Int).toNat < _ from by omega)
                      · refine wa_aload_n B dX12_go_260 rfl 4 rfl ?_
                        refine wa_ldc2 B 27 (by decide +kernel) dX12_go_261 ?_
                        refine wa_aload_n B dX12_go_264 rfl 4 rfl ?_
                        refine wa_getJ B (C := RX12) (T := TX12) (N := 51) iq_X12_go_X12 ha0 ka0 (by decide) rfl 11 (by decide) (by decide) (by decide +kernel) rfl (by decide) (v := (q_26.2.1 a0 11)) rfl dX12_go_265 ?_
                        refine wa_lmul B dX12_go_268 (fun v_71 ev_71 => ?_)
                        refine wa_iload B dX12_go_269 1 rfl ?_
                        refine wa_i2l B dX12_go_271 (fun v_72 ev_72 => ?_)
                        refine wa_ladd B dX12_go_272 (fun v_73 ev_73 => ?_)
                        refine wa_ldc2 B 96 (by decide +kernel) dX12_go_273 ?_
                        refine wa_lsub B dX12_go_276 (fun v_74 ev_74 => ?_)
                        refine wa_putJ B (C := RX12) (T := TX12) (N := 51) iq_X12_go_X12 ha0 ka0 (by decide) rfl 11 (by decide) (by decide) (by decide +kernel) rfl (by decide) (v := v_74) (ty := .long) tyX12 tyX12_ok nmX12 rfl (by decide +kernel) rfl rfl dX12_go_277 (fun q_75 eq_75 => ?_)
                        have hV_q_75 : sx_V h L q_75 := by rw [eq_75]; exact hV_q_26.pJ
                        have hF_q_75 : sx_fr h L (fun a => h.1 a = 12) q q_75 := hF_q_26.tr (by rw [eq_75]; exact sx_fr.pJ (show h.1 a0 = 12 from by omega))
                        have z_76 : q_75.2.1 a0 11 = v_74 := by rw [eq_75]; exact sg_pJ_e
                        have hK_q_75 : sx_kf a0 [6, 7, 8, 9, 11, 12, 13] q q_75 := hK_q_26.tr (by rw [eq_75]; exact sx_kf.pJ (by decide))
                        refine wa_aload_n B dX12_go_280 rfl 4 rfl ?_
                        refine wa_dup B dX12_go_281 rfl ?_
                        have z_77 : q_75.1 a0 6 = q_26.1 a0 6 := (show q_75.1 a0 6 = q_26.1 a0 6 from by rw [eq_75]; rfl)
                        refine wa_getI B (C := RX12) (T := TX12) (N := 51) iq_X12_go_X12 ha0 ka0 (by decide) rfl 6 (by decide) (by decide) (by decide +kernel) rfl (by decide) (v := (q_26.1 a0 6)) z_77 dX12_go_282 ?_
                        refine wa_iconst B 1 dX12_go_285 (by decide) ?_
                        refine wa_iadd B dX12_go_286 (fun v_78 ev_78 => ?_)
                        have tv_78 : v_78.toInt = (q_26.1 a0 6).toInt + 1 := by have b0 := zx_bd (q_26.1 a0 6); rw [ev_78]; exact zx_add (show (-2147483648 : Int) ≤ (q_26.1 a0 6).toInt + 1 by omega) (show (q_26.1 a0 6).toInt + 1 < (2147483648 : Int) by omega)
                        refine wa_putI B (C := RX12) (T := TX12) (N := 51) iq_X12_go_X12 ha0 ka0 (by decide) rfl 6 (by decide) (by decide) (by decide +kernel) rfl (by decide) (v := v_78) (ty := .int) tyX12 tyX12_ok nmX12 rfl (by decide +kernel) rfl rfl dX12_go_287 (fun q_79 eq_79 => ?_)
                        have hV_q_79 : sx_V h L q_79 := by rw [eq_79]; exact hV_q_75.pI ka0 (show sx_in v_78 (0) 500 from ⟨by omega, by omega⟩)
                        have hF_q_79 : sx_fr h L (fun a => h.1 a = 12) q q_79 := hF_q_75.tr (by rw [eq_79]; exact sx_fr.pI (show h.1 a0 = 12 from by omega))
                        have z_80 : q_79.1 a0 6 = v_78 := by rw [eq_79]; exact sg_pI_e
                        have hK_q_79 : sx_kf a0 [6, 7, 8, 9, 11, 12, 13] q q_79 := hK_q_75.tr (by rw [eq_79]; exact sx_kf.pI (by decide))
                        refine wa_goto B 187 dX12_go_290 (by decide) ?_
                        have z_81 : q_79.1 a0 4 = (q_1.1 a0 4) := ((show q_79.1 a0 4 = q_75.1 a0 4 from by rw [eq_79]; exact sg_pI_k (by decide))).trans (((show q_75.1 a0 4 = q_26.1 a0 4 from by rw [eq_75]; rfl)).trans (p0_q_26))
                        have y_82 : (q_79.1 a0 4).toInt = (q_1.1 a0 4).toInt := by rw [z_81]
                        have y_83 : (q_79.1 a0 6).toInt = v_78.toInt := by rw [z_80]
                        have z_84 : q_79.1 a0 7 = (q_1.1 a0 6) := ((show q_79.1 a0 7 = q_75.1 a0 7 from by rw [eq_79]; exact sg_pI_k (by decide))).trans (((show q_75.1 a0 7 = q_26.1 a0 7 from by rw [eq_75]; rfl)).trans (p1_q_26))
                        have y_85 : (q_79.1 a0 7).toInt = (q_1.1 a0 6).toInt := by rw [z_84]
                        have z_86 : q_79.1 a0 5 = (q_7.1 a0 5) := ((show q_79.1 a0 5 = q_75.1 a0 5 from by rw [eq_79]; exact sg_pI_k (by decide))).trans (((show q_75.1 a0 5 = q_26.1 a0 5 from by rw [eq_75]; rfl)).trans (p2_q_26))
                        have z_87 : q_79.2.2.1 a0 3 = a_14 := ((show q_79.2.2.1 a0 3 = q_75.2.2.1 a0 3 from by rw [eq_79]; rfl)).trans (((show q_75.2.2.1 a0 3 = q_26.2.2.1 a0 3 from by rw [eq_75]; rfl)).trans (p3_q_26))
                        have z_88 : q_79.2.2.2.1 a_14 = (q_7.2.2.2.1 a_14) := ((show q_79.2.2.2.1 a_14 = q_75.2.2.2.1 a_14 from by rw [eq_79]; rfl)).trans (((show q_75.2.2.2.1 a_14 = q_26.2.2.2.1 a_14 from by rw [eq_75]; rfl)).trans (p4_q_26))
                        have z_89 : q_79.2.1 a0 11 = v_74 := ((show q_79.2.1 a0 11 = q_75.2.1 a0 11 from by rw [eq_79]; rfl)).trans (z_76)
                        refine WA.sub [0, 2, 3, 4] rfl ?_
                        exact ih_41 0 q_79 hV_q_79 hF_q_79 hK_q_79 z_81 z_84 z_86 z_87 z_88 (show (q_79.1 a0 7).toInt ≤ (q_79.1 a0 6).toInt from by first | assumption | omega | decide) (show (q_79.1 a0 6).toInt ≤ (q_79.1 a0 4).toInt from by first | assumption | omega | decide) (show (q_79.1 a0 7).toInt < (q_79.1 a0 4).toInt from by first | assumption | omega | decide) (show 0 = 0 ∨ 0 = 1 from by first | assumption | omega | decide) (show (0 = 1 → r_21.toInt = 1 → 0 ≤ (q_79.2.1 a0 11).toInt ∧ (q_79.2.1 a0 11).toInt < zx_q ((q_79.1 a0 6).toInt - (q_79.1 a0 7).toInt)) from by exact fun h9 => absurd h9 (by decide)) (show ((q_79.1 a0 4).toInt - (q_79.1 a0 6).toInt : Int).toNat < _ from by omega)
                    · refine wa_iload B dX12_go_231 0 rfl ?_
                      refine wa_callSi B (As := [.int ((q_7.2.2.2.1 a_14 ((q_26.1 a0 6) : Int32).toNatClampNeg))]) (rest := []) (k_X12_isLetter l dC dI h L hN q_26 hV_q_26 ((q_7.2.2.2.1 a_14 ((q_26.1 a0 6) : Int32).toNatClampNeg))  ) (va_cwS 1 B.1.2.2.2.2 gX12_go_X12_isLetter rfl rfl rfl (by decide +kernel) ⟨Nat.le_of_ble_eq_true rfl, Nat.le_of_ble_eq_true rfl⟩) rfl rfl (Nat.le_of_ble_eq_true rfl) dX12_go_233 (fun r_91 q_90 w_92 => ?_)
                      obtain ⟨ew_92, hw_92⟩ := w_92
                      subst ew_92
                      refine wa_iload_n B dX12_go_236 rfl 2 rfl ?_
                      refine wa_icmp_ne B 244 dX12_go_237 (by decide) (fun (t_93 : ¬ r_91.toInt = r_21.toInt) => ?_) (fun (t_93 : r_91.toInt = r_21.toInt) => ?_)
                      · refine wa_iconst B 0 dX12_go_244 (by decide) ?_
                        refine wa_istore_n B [(3, .int 0), (4, .int ((q_7.2.2.2.1 a_14 ((q_26.1 a0 6) : Int32).toNatClampNeg))), (2, .int r_21), (1, .int ((q_7.2.2.2.1 a_14 ((q_1.1 a0 6) : Int32).toNatClampNeg))), (0, .ref a0)] dX12_go_245 rfl (by decide) rfl ?_
                        refine wa_aload_n B dX12_go_246 rfl 4 rfl ?_
                        refine wa_getI B (C := RX12) (T := TX12) (N := 51) iq_X12_go_X12 ha0 ka0 (by decide) rfl 6 (by decide) (by decide) (by decide +kernel) rfl (by decide) (v := (q_26.1 a0 6)) rfl dX12_go_247 ?_
                        refine wa_aload_n B dX12_go_250 rfl 4 rfl ?_
                        refine wa_getI B (C := RX12) (T := TX12) (N := 51) iq_X12_go_X12 ha0 ka0 (by decide) rfl 7 (by decide) (by decide) (by decide +kernel) rfl (by decide) (v := (q_1.1 a0 6)) p1_q_26 dX12_go_251 ?_
                        have g_94 : (0 : Int) ≤ (q_1.1 a0 6).toInt ∧ (q_1.1 a0 6).toInt ≤ 500 := by rw [← p1_q_26]; exact hV_q_26.int ha0 ka0 7
                        refine wa_isub B dX12_go_254 (fun v_95 ev_95 => ?_)
                        refine wa_bipush B 8 dX12_go_255 (by decide) ?_
                        have tv_95 : v_95.toInt = (q_26.1 a0 6).toInt - (q_1.1 a0 6).toInt := by have b0 := zx_bd (q_26.1 a0 6); have b1 := zx_bd (q_1.1 a0 6); rw [ev_95]; exact zx_sub (show (-2147483648 : Int) ≤ (q_26.1 a0 6).toInt - (q_1.1 a0 6).toInt by omega) (show (q_26.1 a0 6).toInt - (q_1.1 a0 6).toInt < (2147483648 : Int) by omega)
                        refine wa_icmp_ge B 280 dX12_go_257 (by decide) (fun (t_96 : 8 ≤ v_95.toInt) => ?_) (fun (t_96 : ¬ 8 ≤ v_95.toInt) => ?_)
                        · refine wa_aload_n B dX12_go_280 rfl 4 rfl ?_
                          refine wa_dup B dX12_go_281 rfl ?_
                          refine wa_getI B (C := RX12) (T := TX12) (N := 51) iq_X12_go_X12 ha0 ka0 (by decide) rfl 6 (by decide) (by decide) (by decide +kernel) rfl (by decide) (v := (q_26.1 a0 6)) rfl dX12_go_282 ?_
                          refine wa_iconst B 1 dX12_go_285 (by decide) ?_
                          refine wa_iadd B dX12_go_286 (fun v_97 ev_97 => ?_)
                          have tv_97 : v_97.toInt = (q_26.1 a0 6).toInt + 1 := by have b0 := zx_bd (q_26.1 a0 6); rw [ev_97]; exact zx_add (show (-2147483648 : Int) ≤ (q_26.1 a0 6).toInt + 1 by omega) (show (q_26.1 a0 6).toInt + 1 < (2147483648 : Int) by omega)
                          refine wa_putI B (C := RX12) (T := TX12) (N := 51) iq_X12_go_X12 ha0 ka0 (by decide) rfl 6 (by decide) (by decide) (by decide +kernel) rfl (by decide) (v := v_97) (ty := .int) tyX12 tyX12_ok nmX12 rfl (by decide +kernel) rfl rfl dX12_go_287 (fun q_98 eq_98 => ?_)
                          have hV_q_98 : sx_V h L q_98 := by rw [eq_98]; exact hV_q_26.pI ka0 (show sx_in v_97 (0) 500 from ⟨by omega, by omega⟩)
                          have hF_q_98 : sx_fr h L (fun a => h.1 a = 12) q q_98 := hF_q_26.tr (by rw [eq_98]; exact sx_fr.pI (show h.1 a0 = 12 from by omega))
                          have z_99 : q_98.1 a0 6 = v_97 := by rw [eq_98]; exact sg_pI_e
                          have hK_q_98 : sx_kf a0 [6, 7, 8, 9, 11, 12, 13] q q_98 := hK_q_26.tr (by rw [eq_98]; exact sx_kf.pI (by decide))
                          refine wa_goto B 187 dX12_go_290 (by decide) ?_
                          have z_100 : q_98.1 a0 4 = (q_1.1 a0 4) := ((show q_98.1 a0 4 = q_26.1 a0 4 from by rw [eq_98]; exact sg_pI_k (by decide))).trans (p0_q_26)
                          have y_101 : (q_98.1 a0 4).toInt = (q_1.1 a0 4).toInt := by rw [z_100]
                          have y_102 : (q_98.1 a0 6).toInt = v_97.toInt := by rw [z_99]
                          have z_103 : q_98.1 a0 7 = (q_1.1 a0 6) := ((show q_98.1 a0 7 = q_26.1 a0 7 from by rw [eq_98]; exact sg_pI_k (by decide))).trans (p1_q_26)
                          have y_104 : (q_98.1 a0 7).toInt = (q_1.1 a0 6).toInt := by rw [z_103]
                          have z_105 : q_98.1 a0 5 = (q_7.1 a0 5) := ((show q_98.1 a0 5 = q_26.1 a0 5 from by rw [eq_98]; exact sg_pI_k (by decide))).trans (p2_q_26)
                          have z_106 : q_98.2.2.1 a0 3 = a_14 := ((show q_98.2.2.1 a0 3 = q_26.2.2.1 a0 3 from by rw [eq_98]; rfl)).trans (p3_q_26)
                          have z_107 : q_98.2.2.2.1 a_14 = (q_7.2.2.2.1 a_14) := ((show q_98.2.2.2.1 a_14 = q_26.2.2.2.1 a_14 from by rw [eq_98]; rfl)).trans (p4_q_26)
                          have z_108 : q_98.2.1 a0 11 = q_26.2.1 a0 11 := (show q_98.2.1 a0 11 = q_26.2.1 a0 11 from by rw [eq_98]; rfl)
                          refine WA.sub [0, 2, 3, 4] rfl ?_
                          exact ih_41 0 q_98 hV_q_98 hF_q_98 hK_q_98 z_100 z_103 z_105 z_106 z_107 (show (q_98.1 a0 7).toInt ≤ (q_98.1 a0 6).toInt from by first | assumption | omega | decide) (show (q_98.1 a0 6).toInt ≤ (q_98.1 a0 4).toInt from by first | assumption | omega | decide) (show (q_98.1 a0 7).toInt < (q_98.1 a0 4).toInt from by first | assumption | omega | decide) (show 0 = 0 ∨ 0 = 1 from by first | assumption | omega | decide) (show (0 = 1 → r_21.toInt = 1 → 0 ≤ (q_98.2.1 a0 11).toInt ∧ (q_98.2.1 a0 11).toInt < zx_q ((q_98.1 a0 6).toInt - (q_98.1 a0 7).toInt)) from by exact fun h9 => absurd h9 (by decide)) (show ((q_98.1 a0 4).toInt - (q_98.1 a0 6).toInt : Int).toNat < _ from by omega)
                        · refine wa_aload_n B dX12_go_260 rfl 4 rfl ?_
                          refine wa_ldc2 B 27 (by decide +kernel) dX12_go_261 ?_
                          refine wa_aload_n B dX12_go_264 rfl 4 rfl ?_
                          refine wa_getJ B (C := RX12) (T := TX12) (N := 51) iq_X12_go_X12 ha0 ka0 (by decide) rfl 11 (by decide) (by decide) (by decide +kernel) rfl (by decide) (v := (q_26.2.1 a0 11)) rfl dX12_go_265 ?_
                          refine wa_lmul B dX12_go_268 (fun v_109 ev_109 => ?_)
                          refine wa_iload B dX12_go_269 1 rfl ?_
                          refine wa_i2l B dX12_go_271 (fun v_110 ev_110 => ?_)
                          refine wa_ladd B dX12_go_272 (fun v_111 ev_111 => ?_)
                          refine wa_ldc2 B 96 (by decide +kernel) dX12_go_273 ?_
                          refine wa_lsub B dX12_go_276 (fun v_112 ev_112 => ?_)
                          refine wa_putJ B (C := RX12) (T := TX12) (N := 51) iq_X12_go_X12 ha0 ka0 (by decide) rfl 11 (by decide) (by decide) (by decide +kernel) rfl (by decide) (v := v_112) (ty := .long) tyX12 tyX12_ok nmX12 rfl (by decide +kernel) rfl rfl dX12_go_277 (fun q_113 eq_113 => ?_)
                          have hV_q_113 : sx_V h L q_113 := by rw [eq_113]; exact hV_q_26.pJ
                          have hF_q_113 : sx_fr h L (fun a => h.1 a = 12) q q_113 := hF_q_26.tr (by rw [eq_113]; exact sx_fr.pJ (show h.1 a0 = 12 from by omega))
                          have z_114 : q_113.2.1 a0 11 = v_112 := by rw [eq_113]; exact sg_pJ_e
                          have hK_q_113 : sx_kf a0 [6, 7, 8, 9, 11, 12, 13] q q_113 := hK_q_26.tr (by rw [eq_113]; exact sx_kf.pJ (by decide))
                          refine wa_aload_n B dX12_go_280 rfl 4 rfl ?_
                          refine wa_dup B dX12_go_281 rfl ?_
                          have z_115 : q_113.1 a0 6 = q_26.1 a0 6 := (show q_113.1 a0 6 = q_26.1 a0 6 from by rw [eq_113]; rfl)
                          refine wa_getI B (C := RX12) (T := TX12) (N := 51) iq_X12_go_X12 ha0 ka0 (by decide) rfl 6 (by decide) (by decide) (by decide +kernel) rfl (by decide) (v := (q_26.1 a0 6)) z_115 dX12_go_282 ?_
                          refine wa_iconst B 1 dX12_go_285 (by decide) ?_
                          refine wa_iadd B dX12_go_286 (fun v_116 ev_116 => ?_)
                          have tv_116 : v_116.toInt = (q_26.1 a0 6).toInt + 1 := by have b0 := zx_bd (q_26.1 a0 6); rw [ev_116]; exact zx_add (show (-2147483648 : Int) ≤ (q_26.1 a0 6).toInt + 1 by omega) (show (q_26.1 a0 6).toInt + 1 < (2147483648 : Int) by omega)
                          refine wa_putI B (C := RX12) (T := TX12) (N := 51) iq_X12_go_X12 ha0 ka0 (by decide) rfl 6 (by decide) (by decide) (by decide +kernel) rfl (by decide) (v := v_116) (ty := .int) tyX12 tyX12_ok nmX12 rfl (by decide +kernel) rfl rfl dX12_go_287 (fun q_117 eq_117 => ?_)
                          have hV_q_117 : sx_V h L q_117 := by rw [eq_117]; exact hV_q_113.pI ka0 (show sx_in v_116 (0) 500 from ⟨by omega, by omega⟩)
                          have hF_q_117 : sx_fr h L (fun a => h.1 a = 12) q q_117 := hF_q_113.tr (by rw [eq_117]; exact sx_fr.pI (show h.1 a0 = 12 from by omega))
                          have z_118 : q_117.1 a0 6 = v_116 := by rw [eq_117]; exact sg_pI_e
                          have hK_q_117 : sx_kf a0 [6, 7, 8, 9, 11, 12, 13] q q_117 := hK_q_113.tr (by rw [eq_117]; exact sx_kf.pI (by decide))
                          refine wa_goto B 187 dX12_go_290 (by decide) ?_
                          have z_119 : q_117.1 a0 4 = (q_1.1 a0 4) := ((show q_117.1 a0 4 = q_113.1 a0 4 from by rw [eq_117]; exact sg_pI_k (by decide))).trans (((show q_113.1 a0 4 = q_26.1 a0 4 from by rw [eq_113]; rfl)).trans (p0_q_26))
                          have y_120 : (q_117.1 a0 4).toInt = (q_1.1 a0 4).toInt := by rw [z_119]
                          have y_121 : (q_117.1 a0 6).toInt = v_116.toInt := by rw [z_118]
                          have z_122 : q_117.1 a0 7 = (q_1.1 a0 6) := ((show q_117.1 a0 7 = q_113.1 a0 7 from by rw [eq_117]; exact sg_pI_k (by decide))).trans (((show q_113.1 a0 7 = q_26.1 a0 7 from by rw [eq_113]; rfl)).trans (p1_q_26))
                          have y_123 : (q_117.1 a0 7).toInt = (q_1.1 a0 6).toInt := by rw [z_122]
                          have z_124 : q_117.1 a0 5 = (q_7.1 a0 5) := ((show q_117.1 a0 5 = q_113.1 a0 5 from by rw [eq_117]; exact sg_pI_k (by decide))).trans (((show q_113.1 a0 5 = q_26.1 a0 5 from by rw [eq_113]; rfl)).trans (p2_q_26))
                          have z_125 : q_117.2.2.1 a0 3 = a_14 := ((show q_117.2.2.1 a0 3 = q_113.2.2.1 a0 3 from by rw [eq_117]; rfl)).trans (((show q_113.2.2.1 a0 3 = q_26.2.2.1 a0 3 from by rw [eq_113]; rfl)).trans (p3_q_26))
                          have z_126 : q_117.2.2.2.1 a_14 = (q_7.2.2.2.1 a_14) := ((show q_117.2.2.2.1 a_14 = q_113.2.2.2.1 a_14 from by rw [eq_117]; rfl)).trans (((show q_113.2.2.2.1 a_14 = q_26.2.2.2.1 a_14 from by rw [eq_113]; rfl)).trans (p4_q_26))
                          have z_127 : q_117.2.1 a0 11 = v_112 := ((show q_117.2.1 a0 11 = q_113.2.1 a0 11 from by rw [eq_117]; rfl)).trans (z_114)
                          refine WA.sub [0, 2, 3, 4] rfl ?_
                          exact ih_41 0 q_117 hV_q_117 hF_q_117 hK_q_117 z_119 z_122 z_124 z_125 z_126 (show (q_117.1 a0 7).toInt ≤ (q_117.1 a0 6).toInt from by first | assumption | omega | decide) (show (q_117.1 a0 6).toInt ≤ (q_117.1 a0 4).toInt from by first | assumption | omega | decide) (show (q_117.1 a0 7).toInt < (q_117.1 a0 4).toInt from by first | assumption | omega | decide) (show 0 = 0 ∨ 0 = 1 from by first | assumption | omega | decide) (show (0 = 1 → r_21.toInt = 1 → 0 ≤ (q_117.2.1 a0 11).toInt ∧ (q_117.2.1 a0 11).toInt < zx_q ((q_117.1 a0 6).toInt - (q_117.1 a0 7).toInt)) from by exact fun h9 => absurd h9 (by decide)) (show ((q_117.1 a0 4).toInt - (q_117.1 a0 6).toInt : Int).toNat < _ from by omega)
                      · refine wa_iconst B 1 dX12_go_240 (by decide) ?_
                        refine wa_goto B 245 dX12_go_241 (by decide) ?_
                        refine wa_istore_n B [(3, .int 1), (4, .int ((q_7.2.2.2.1 a_14 ((q_26.1 a0 6) : Int32).toNatClampNeg))), (2, .int r_21), (1, .int ((q_7.2.2.2.1 a_14 ((q_1.1 a0 6) : Int32).toNatClampNeg))), (0, .ref a0)] dX12_go_245 rfl (by decide) rfl ?_
                        refine wa_aload_n B dX12_go_246 rfl 4 rfl ?_
                        refine wa_getI B (C := RX12) (T := TX12) (N := 51) iq_X12_go_X12 ha0 ka0 (by decide) rfl 6 (by decide) (by decide) (by decide +kernel) rfl (by decide) (v := (q_26.1 a0 6)) rfl dX12_go_247 ?_
                        refine wa_aload_n B dX12_go_250 rfl 4 rfl ?_
                        refine wa_getI B (C := RX12) (T := TX12) (N := 51) iq_X12_go_X12 ha0 ka0 (by decide) rfl 7 (by decide) (by decide) (by decide +kernel) rfl (by decide) (v := (q_1.1 a0 6)) p1_q_26 dX12_go_251 ?_
                        have g_128 : (0 : Int) ≤ (q_1.1 a0 6).toInt ∧ (q_1.1 a0 6).toInt ≤ 500 := by rw [← p1_q_26]; exact hV_q_26.int ha0 ka0 7
                        refine wa_isub B dX12_go_254 (fun v_129 ev_129 => ?_)
                        refine wa_bipush B 8 dX12_go_255 (by decide) ?_
                        have tv_129 : v_129.toInt = (q_26.1 a0 6).toInt - (q_1.1 a0 6).toInt := by have b0 := zx_bd (q_26.1 a0 6); have b1 := zx_bd (q_1.1 a0 6); rw [ev_129]; exact zx_sub (show (-2147483648 : Int) ≤ (q_26.1 a0 6).toInt - (q_1.1 a0 6).toInt by omega) (show (q_26.1 a0 6).toInt - (q_1.1 a0 6).toInt < (2147483648 : Int) by omega)
                        refine wa_icmp_ge B 280 dX12_go_257 (by decide) (fun (t_130 : 8 ≤ v_129.toInt) => ?_) (fun (t_130 : ¬ 8 ≤ v_129.toInt) => ?_)
                        · refine wa_aload_n B dX12_go_280 rfl 4 rfl ?_
                          refine wa_dup B dX12_go_281 rfl ?_
                          refine wa_getI B (C := RX12) (T := TX12) (N := 51) iq_X12_go_X12 ha0 ka0 (by decide) rfl 6 (by decide) (by decide) (by decide +kernel) rfl (by decide) (v := (q_26.1 a0 6)) rfl dX12_go_282 ?_
                          refine wa_iconst B 1 dX12_go_285 (by decide) ?_
                          refine wa_iadd B dX12_go_286 (fun v_131 ev_131 => ?_)
                          have tv_131 : v_131.toInt = (q_26.1 a0 6).toInt + 1 := by have b0 := zx_bd (q_26.1 a0 6); rw [ev_131]; exact zx_add (show (-2147483648 : Int) ≤ (q_26.1 a0 6).toInt + 1 by omega) (show (q_26.1 a0 6).toInt + 1 < (2147483648 : Int) by omega)
                          refine wa_putI B (C := RX12) (T := TX12) (N := 51) iq_X12_go_X12 ha0 ka0 (by decide) rfl 6 (by decide) (by decide) (by decide +kernel) rfl (by decide) (v := v_131) (ty := .int) tyX12 tyX12_ok nmX12 rfl (by decide +kernel) rfl rfl dX12_go_287 (fun q_132 eq_132 => ?_)
                          have hV_q_132 : sx_V h L q_132 := by rw [eq_132]; exact hV_q_26.pI ka0 (show sx_in v_131 (0) 500 from ⟨by omega, by omega⟩)
                          have hF_q_132 : sx_fr h L (fun a => h.1 a = 12) q q_132 := hF_q_26.tr (by rw [eq_132]; exact sx_fr.pI (show h.1 a0 = 12 from by omega))
                          have z_133 : q_132.1 a0 6 = v_131 := by rw [eq_132]; exact sg_pI_e
                          have hK_q_132 : sx_kf a0 [6, 7, 8, 9, 11, 12, 13] q q_132 := hK_q_26.tr (by rw [eq_132]; exact sx_kf.pI (by decide))
                          refine wa_goto B 187 dX12_go_290 (by decide) ?_
                          have z_134 : q_132.1 a0 4 = (q_1.1 a0 4) := ((show q_132.1 a0 4 = q_26.1 a0 4 from by rw [eq_132]; exact sg_pI_k (by decide))).trans (p0_q_26)
                          have y_135 : (q_132.1 a0 4).toInt = (q_1.1 a0 4).toInt := by rw [z_134]
                          have y_136 : (q_132.1 a0 6).toInt = v_131.toInt := by rw [z_133]
                          have z_137 : q_132.1 a0 7 = (q_1.1 a0 6) := ((show q_132.1 a0 7 = q_26.1 a0 7 from by rw [eq_132]; exact sg_pI_k (by decide))).trans (p1_q_26)
                          have y_138 : (q_132.1 a0 7).toInt = (q_1.1 a0 6).toInt := by rw [z_137]
                          have z_139 : q_132.1 a0 5 = (q_7.1 a0 5) := ((show q_132.1 a0 5 = q_26.1 a0 5 from by rw [eq_132]; exact sg_pI_k (by decide))).trans (p2_q_26)
                          have z_140 : q_132.2.2.1 a0 3 = a_14 := ((show q_132.2.2.1 a0 3 = q_26.2.2.1 a0 3 from by rw [eq_132]; rfl)).trans (p3_q_26)
                          have z_141 : q_132.2.2.2.1 a_14 = (q_7.2.2.2.1 a_14) := ((show q_132.2.2.2.1 a_14 = q_26.2.2.2.1 a_14 from by rw [eq_132]; rfl)).trans (p4_q_26)
                          have z_142 : q_132.2.1 a0 11 = q_26.2.1 a0 11 := (show q_132.2.1 a0 11 = q_26.2.1 a0 11 from by rw [eq_132]; rfl)
                          refine WA.sub [0, 2, 3, 4] rfl ?_
                          exact ih_41 1 q_132 hV_q_132 hF_q_132 hK_q_132 z_134 z_137 z_139 z_140 z_141 (show (q_132.1 a0 7).toInt ≤ (q_132.1 a0 6).toInt from by first | assumption | omega | decide) (show (q_132.1 a0 6).toInt ≤ (q_132.1 a0 4).toInt from by first | assumption | omega | decide) (show (q_132.1 a0 7).toInt < (q_132.1 a0 4).toInt from by first | assumption | omega | decide) (show 1 = 0 ∨ 1 = 1 from by first | assumption | omega | decide) (show (1 = 1 → r_21.toInt = 1 → 0 ≤ (q_132.2.1 a0 11).toInt ∧ (q_132.2.1 a0 11).toInt < zx_q ((q_132.1 a0 6).toInt - (q_132.1 a0 7).toInt)) from by intro _ h9; rw [z_142, zx_q_8 (by omega)]; have z9 := x_37 (by omega) h9; rw [zx_q_8 (by omega)] at z9; exact z9) (show ((q_132.1 a0 4).toInt - (q_132.1 a0 6).toInt : Int).toNat < _ from by omega)
                        · refine wa_aload_n B dX12_go_260 rfl 4 rfl ?_
                          refine wa_ldc2 B 27 (by decide +kernel) dX12_go_261 ?_
                          refine wa_aload_n B dX12_go_264 rfl 4 rfl ?_
                          refine wa_getJ B (C := RX12) (T := TX12) (N := 51) iq_X12_go_X12 ha0 ka0 (by decide) rfl 11 (by decide) (by decide) (by decide +kernel) rfl (by decide) (v := (q_26.2.1 a0 11)) rfl dX12_go_265 ?_
                          refine wa_lmul B dX12_go_268 (fun v_143 ev_143 => ?_)
                          refine wa_iload B dX12_go_269 1 rfl ?_
                          refine wa_i2l B dX12_go_271 (fun v_144 ev_144 => ?_)
                          refine wa_ladd B dX12_go_272 (fun v_145 ev_145 => ?_)
                          refine wa_ldc2 B 96 (by decide +kernel) dX12_go_273 ?_
                          refine wa_lsub B dX12_go_276 (fun v_146 ev_146 => ?_)
                          refine wa_putJ B (C := RX12) (T := TX12) (N := 51) iq_X12_go_X12 ha0 ka0 (by decide) rfl 11 (by decide) (by decide) (by decide +kernel) rfl (by decide) (v := v_146) (ty := .long) tyX12 tyX12_ok nmX12 rfl (by decide +kernel) rfl rfl dX12_go_277 (fun q_147 eq_147 => ?_)
                          have hV_q_147 : sx_V h L q_147 := by rw [eq_147]; exact hV_q_26.pJ
                          have hF_q_147 : sx_fr h L (fun a => h.1 a = 12) q q_147 := hF_q_26.tr (by rw [eq_147]; exact sx_fr.pJ (show h.1 a0 = 12 from by omega))
                          have z_148 : q_147.2.1 a0 11 = v_146 := by rw [eq_147]; exact sg_pJ_e
                          have hK_q_147 : sx_kf a0 [6, 7, 8, 9, 11, 12, 13] q q_147 := hK_q_26.tr (by rw [eq_147]; exact sx_kf.pJ (by decide))
                          refine wa_aload_n B dX12_go_280 rfl 4 rfl ?_
                          refine wa_dup B dX12_go_281 rfl ?_
                          have z_149 : q_147.1 a0 6 = q_26.1 a0 6 := (show q_147.1 a0 6 = q_26.1 a0 6 from by rw [eq_147]; rfl)
                          refine wa_getI B (C := RX12) (T := TX12) (N := 51) iq_X12_go_X12 ha0 ka0 (by decide) rfl 6 (by decide) (by decide) (by decide +kernel) rfl (by decide) (v := (q_26.1 a0 6)) z_149 dX12_go_282 ?_
                          refine wa_iconst B 1 dX12_go_285 (by decide) ?_
                          refine wa_iadd B dX12_go_286 (fun v_150 ev_150 => ?_)
                          have tv_150 : v_150.toInt = (q_26.1 a0 6).toInt + 1 := by have b0 := zx_bd (q_26.1 a0 6); rw [ev_150]; exact zx_add (show (-2147483648 : Int) ≤ (q_26.1 a0 6).toInt + 1 by omega) (show (q_26.1 a0 6).toInt + 1 < (2147483648 : Int) by omega)
                          refine wa_putI B (C := RX12) (T := TX12) (N := 51) iq_X12_go_X12 ha0 ka0 (by decide) rfl 6 (by decide) (by decide) (by decide +kernel) rfl (by decide) (v := v_150) (ty := .int) tyX12 tyX12_ok nmX12 rfl (by decide +kernel) rfl rfl dX12_go_287 (fun q_151 eq_151 => ?_)
                          have hV_q_151 : sx_V h L q_151 := by rw [eq_151]; exact hV_q_147.pI ka0 (show sx_in v_150 (0) 500 from ⟨by omega, by omega⟩)
                          have hF_q_151 : sx_fr h L (fun a => h.1 a = 12) q q_151 := hF_q_147.tr (by rw [eq_151]; exact sx_fr.pI (show h.1 a0 = 12 from by omega))
                          have z_152 : q_151.1 a0 6 = v_150 := by rw [eq_151]; exact sg_pI_e
                          have hK_q_151 : sx_kf a0 [6, 7, 8, 9, 11, 12, 13] q q_151 := hK_q_147.tr (by rw [eq_151]; exact sx_kf.pI (by decide))
                          refine wa_goto B 187 dX12_go_290 (by decide) ?_
                          have z_153 : q_151.1 a0 4 = (q_1.1 a0 4) := ((show q_151.1 a0 4 = q_147.1 a0 4 from by rw [eq_151]; exact sg_pI_k (by decide))).trans (((show q_147.1 a0 4 = q_26.1 a0 4 from by rw [eq_147]; rfl)).trans (p0_q_26))
                          have y_154 : (q_151.1 a0 4).toInt = (q_1.1 a0 4).toInt := by rw [z_153]
                          have y_155 : (q_151.1 a0 6).toInt = v_150.toInt := by rw [z_152]
                          have z_156 : q_151.1 a0 7 = (q_1.1 a0 6) := ((show q_151.1 a0 7 = q_147.1 a0 7 from by rw [eq_151]; exact sg_pI_k (by decide))).trans (((show q_147.1 a0 7 = q_26.1 a0 7 from by rw [eq_147]; rfl)).trans (p1_q_26))
                          have y_157 : (q_151.1 a0 7).toInt = (q_1.1 a0 6).toInt := by rw [z_156]
                          have z_158 : q_151.1 a0 5 = (q_7.1 a0 5) := ((show q_151.1 a0 5 = q_147.1 a0 5 from by rw [eq_151]; exact sg_pI_k (by decide))).trans (((show q_147.1 a0 5 = q_26.1 a0 5 from by rw [eq_147]; rfl)).trans (p2_q_26))
                          have z_159 : q_151.2.2.1 a0 3 = a_14 := ((show q_151.2.2.1 a0 3 = q_147.2.2.1 a0 3 from by rw [eq_151]; rfl)).trans (((show q_147.2.2.1 a0 3 = q_26.2.2.1 a0 3 from by rw [eq_147]; rfl)).trans (p3_q_26))
                          have z_160 : q_151.2.2.2.1 a_14 = (q_7.2.2.2.1 a_14) := ((show q_151.2.2.2.1 a_14 = q_147.2.2.2.1 a_14 from by rw [eq_151]; rfl)).trans (((show q_147.2.2.2.1 a_14 = q_26.2.2.2.1 a_14 from by rw [eq_147]; rfl)).trans (p4_q_26))
                          have z_161 : q_151.2.1 a0 11 = v_146 := ((show q_151.2.1 a0 11 = q_147.2.1 a0 11 from by rw [eq_151]; rfl)).trans (z_148)
                          refine WA.sub [0, 2, 3, 4] rfl ?_
                          exact ih_41 1 q_151 hV_q_151 hF_q_151 hK_q_151 z_153 z_156 z_158 z_159 z_160 (show (q_151.1 a0 7).toInt ≤ (q_151.1 a0 6).toInt from by first | assumption | omega | decide) (show (q_151.1 a0 6).toInt ≤ (q_151.1 a0 4).toInt from by first | assumption | omega | decide) (show (q_151.1 a0 7).toInt < (q_151.1 a0 4).toInt from by first | assumption | omega | decide) (show 1 = 0 ∨ 1 = 1 from by first | assumption | omega | decide) (show (1 = 1 → r_21.toInt = 1 → 0 ≤ (q_151.2.1 a0 11).toInt ∧ (q_151.2.1 a0 11).toInt < zx_q ((q_151.1 a0 6).toInt - (q_151.1 a0 7).toInt)) from by intro _ h9; have z9 := zx_name (name := (q_26.2.1 a0 11)) (d := ((q_7.2.2.2.1 a_14 ((q_26.1 a0 6) : Int32).toNatClampNeg))) (n := (q_26.1 a0 6).toInt - (q_26.1 a0 7).toInt) (by omega) (by exact x_37 (by omega) h9) (by omega) (by omega); rw [z_161, ev_146, ev_145, ev_143, ev_144, show (q_151.1 a0 6).toInt - (q_151.1 a0 7).toInt = (q_26.1 a0 6).toInt - (q_26.1 a0 7).toInt + 1 by omega]; exact z9) (show ((q_151.1 a0 4).toInt - (q_151.1 a0 6).toInt : Int).toNat < _ from by omega)
                  refine wa_if_ne B 216 dX12_go_198 (by decide) (fun (t_162 : ¬ r_48.toInt = 0) => ?_) (fun (t_162 : r_48.toInt = 0) => ?_)
                  · have y_163 : (q_26.1 a0 4).toInt = (q_1.1 a0 4).toInt := by rw [p0_q_26]
                    exact Jn_216_51 () (show (q_26.1 a0 6).toInt < (q_26.1 a0 4).toInt from by first | assumption | omega | decide)
                  · refine wa_aload_n B dX12_go_201 rfl 3 rfl ?_
                    refine wa_aload_n B dX12_go_202 rfl 3 rfl ?_
                    refine wa_aload_n B dX12_go_203 rfl 3 rfl ?_
                    refine wa_getI B (C := RX12) (T := TX12) (N := 51) iq_X12_go_X12 ha0 ka0 (by decide) rfl 6 (by decide) (by decide) (by decide +kernel) rfl (by decide) (v := (q_26.1 a0 6)) rfl dX12_go_204 ?_
                    have y_164 : (q_26.1 a0 4).toInt = (q_1.1 a0 4).toInt := by rw [p0_q_26]
                    refine wa_callVi B (x := (RX12, TX12, 51)) (As := [.int (q_26.1 a0 6)]) (rest := [.ref a0]) (k_X12_at l dC dI h L hN q_26 hV_q_26 (a0 := a0) ha0 ka0 (q_26.1 a0 6)  (by first | assumption | omega | decide)) (cwV 1 B.1.2.2.2.2 gX12_go_X12_at rfl rfl rfl (by decide +kernel) ⟨Nat.le_of_ble_eq_true rfl, Nat.le_of_ble_eq_true rfl⟩) ha0 ka0 (by decide) rfl rfl rfl (Nat.le_of_ble_eq_true rfl) dX12_go_207 (fun r_166 q_165 w_167 => ?_)
                    obtain ⟨ew_167, hw_167⟩ := w_167
                    subst ew_167
                    refine wa_callVi B (x := (RX12, TX12, 51)) (As := [.int r_166]) (rest := []) (k_X12_isCount l dC dI h L hN q_26 hV_q_26 (a0 := a0) ha0 ka0 r_166  ) (cwV 1 B.1.2.2.2.2 gX12_go_X12_isCount rfl rfl rfl (by decide +kernel) ⟨Nat.le_of_ble_eq_true rfl, Nat.le_of_ble_eq_true rfl⟩) ha0 ka0 (by decide) rfl rfl rfl (Nat.le_of_ble_eq_true rfl) dX12_go_210 (fun r_169 q_168 w_170 => ?_)
                    obtain ⟨ew_170, hw_170⟩ := w_170
                    subst ew_170
                    refine wa_if_eq B 293 dX12_go_213 (by decide) (fun (t_171 : r_169.toInt = 0) => ?_) (fun (t_171 : ¬ r_169.toInt = 0) => ?_)
                    · refine wa_aload_n B dX12_go_293 rfl 3 rfl ?_
                      refine wa_getI B (C := RX12) (T := TX12) (N := 51) iq_X12_go_X12 ha0 ka0 (by decide) rfl 6 (by decide) (by decide) (by decide +kernel) rfl (by decide) (v := (q_26.1 a0 6)) rfl dX12_go_294 ?_
                      refine wa_aload_n B dX12_go_297 rfl 3 rfl ?_
                      refine wa_getI B (C := RX12) (T := TX12) (N := 51) iq_X12_go_X12 ha0 ka0 (by decide) rfl 7 (by decide) (by decide) (by decide +kernel) rfl (by decide) (v := (q_1.1 a0 6)) p1_q_26 dX12_go_298 ?_
                      have g_172 : (0 : Int) ≤ (q_1.1 a0 6).toInt ∧ (q_1.1 a0 6).toInt ≤ 500 := by rw [← p1_q_26]; exact hV_q_26.int ha0 ka0 7
                      refine wa_isub B dX12_go_301 (fun v_173 ev_173 => ?_)
                      refine wa_istore B [(4, .int v_173), (3, .int v_25), (2, .int r_21), (1, .int ((q_7.2.2.2.1 a_14 ((q_1.1 a0 6) : Int32).toNatClampNeg))), (0, .ref a0)] dX12_go_302 (by decide) rfl ?_
                      have tv_173 : v_173.toInt = (q_26.1 a0 6).toInt - (q_1.1 a0 6).toInt := by have b0 := zx_bd (q_26.1 a0 6); have b1 := zx_bd (q_1.1 a0 6); rw [ev_173]; exact zx_sub (show (-2147483648 : Int) ≤ (q_26.1 a0 6).toInt - (q_1.1 a0 6).toInt by omega) (show (q_26.1 a0 6).toInt - (q_1.1 a0 6).toInt < (2147483648 : Int) by omega)
                      refine wa_aload_n B dX12_go_304 rfl 4 rfl ?_
                      refine wa_aload_n B dX12_go_305 rfl 4 rfl ?_
                      refine wa_getR B (C := RX12) (T := TX12) (N := 51) iq_X12_go_X12 ha0 ka0 (by decide) rfl 3 (by decide) (by decide) (by decide +kernel) rfl (fun _ _ _ => rfl) (v := a_14) p3_q_26 dX12_go_306 ?_
                      refine wa_aload_n B dX12_go_309 rfl 4 rfl ?_
                      refine wa_getI B (C := RX12) (T := TX12) (N := 51) iq_X12_go_X12 ha0 ka0 (by decide) rfl 7 (by decide) (by decide) (by decide +kernel) rfl (by decide) (v := (q_1.1 a0 6)) p1_q_26 dX12_go_310 ?_
                      have z_174 : q_26.2.2.2.1 a_14 ((q_1.1 a0 6) : Int32).toNatClampNeg = (q_7.2.2.2.1 a_14 ((q_1.1 a0 6) : Int32).toNatClampNeg) := congrFun p4_q_26 _
                      refine wa_iaload B ha_14 ka_14 (by decide) (by decide) (show 0 ≤ (q_1.1 a0 6).toInt by omega) (show (q_1.1 a0 6).toInt < (h.2.1 a_14 : Int) by omega) (v := (q_7.2.2.2.1 a_14 ((q_1.1 a0 6) : Int32).toNatClampNeg)) z_174 dX12_go_313 ?_
                      refine wa_callSi B (As := [.int ((q_7.2.2.2.1 a_14 ((q_1.1 a0 6) : Int32).toNatClampNeg))]) (rest := [.ref a0]) (k_X12_digitOf l dC dI h L hN q_26 hV_q_26 ((q_7.2.2.2.1 a_14 ((q_1.1 a0 6) : Int32).toNatClampNeg))  (by first | assumption | omega | decide) (by first | assumption | omega | decide)) (va_cwS 1 B.1.2.2.2.2 gX12_go_X12_digitOf rfl rfl rfl (by decide +kernel) ⟨Nat.le_of_ble_eq_true rfl, Nat.le_of_ble_eq_true rfl⟩) rfl rfl (Nat.le_of_ble_eq_true rfl) dX12_go_314 (fun r_176 q_175 w_177 => ?_)
                      obtain ⟨ew_177, hw_177⟩ := w_177
                      subst ew_177
                      refine wa_putI B (C := RX12) (T := TX12) (N := 51) iq_X12_go_X12 ha0 ka0 (by decide) rfl 12 (by decide) (by decide) (by decide +kernel) rfl (by decide) (v := r_176) (ty := .int) tyX12 tyX12_ok nmX12 rfl (by decide +kernel) rfl rfl dX12_go_317 (fun q_178 eq_178 => ?_)
                      have hV_q_178 : sx_V h L q_178 := by rw [eq_178]; exact hV_q_26.pI ka0 (show sx_in r_176 (-48) 207 from ⟨by omega, by omega⟩)
                      have hF_q_178 : sx_fr h L (fun a => h.1 a = 12) q q_178 := hF_q_26.tr (by rw [eq_178]; exact sx_fr.pI (show h.1 a0 = 12 from by omega))
                      have z_179 : q_178.1 a0 12 = r_176 := by rw [eq_178]; exact sg_pI_e
                      have hK_q_178 : sx_kf a0 [6, 7, 8, 9, 11, 12, 13] q q_178 := hK_q_26.tr (by rw [eq_178]; exact sx_kf.pI (by decide))
                      refine wa_aload_n B dX12_go_320 rfl 4 rfl ?_
                      refine wa_iload B dX12_go_321 0 rfl ?_
                      refine wa_iconst B 1 dX12_go_323 (by decide) ?_
                      have Jn_345_183 : ∀  (v_180 : Int32), (-48) ≤ v_180.toInt → v_180.toInt ≤ 207 → WA l dC dI h L ({ frames := 2, cells := 0, slots := 0, locals := 41 } : Room) 5 Z q_178 345 [(4, .int v_173), (3, .int v_25), (2, .int r_21), (1, .int ((q_7.2.2.2.1 a_14 ((q_1.1 a0 6) : Int32).toNatClampNeg))), (0, .ref a0)] [.int v_180, .ref a0] := by
                        intro v_180 x_181 x_182
                        refine wa_putI B (C := RX12) (T := TX12) (N := 51) iq_X12_go_X12 ha0 ka0 (by decide) rfl 13 (by decide) (by decide) (by decide +kernel) rfl (by decide) (v := v_180) (ty := .int) tyX12 tyX12_ok nmX12 rfl (by decide +kernel) rfl rfl dX12_go_345 (fun q_184 eq_184 => ?_)
                        have hV_q_184 : sx_V h L q_184 := by rw [eq_184]; exact hV_q_178.pI ka0 (show sx_in v_180 (-48) 207 from ⟨by omega, by omega⟩)
                        have hF_q_184 : sx_fr h L (fun a => h.1 a = 12) q q_184 := hF_q_178.tr (by rw [eq_184]; exact sx_fr.pI (show h.1 a0 = 12 from by omega))
                        have z_185 : q_184.1 a0 13 = v_180 := by rw [eq_184]; exact sg_pI_e
                        have hK_q_184 : sx_kf a0 [6, 7, 8, 9, 11, 12, 13] q q_184 := hK_q_178.tr (by rw [eq_184]; exact sx_kf.pI (by decide))
                        refine wa_aload_n B dX12_go_348 rfl 4 rfl ?_
                        refine wa_iload_n B dX12_go_349 rfl 1 rfl ?_
                        refine wa_if_eq B 368 dX12_go_350 (by decide) (fun (t_186 : v_25.toInt = 0) => ?_) (fun (t_186 : ¬ v_25.toInt = 0) => ?_)
                        · refine wa_iconst B 1 dX12_go_368 (by decide) ?_
                          refine wa_goto B 381 dX12_go_369 (by decide) ?_
                          refine wa_putI B (C := RX12) (T := TX12) (N := 51) iq_X12_go_X12 ha0 ka0 (by decide) rfl 8 (by decide) (by decide) (by decide +kernel) rfl (by decide) (v := 1) (ty := .int) tyX12 tyX12_ok nmX12 rfl (by decide +kernel) rfl rfl dX12_go_381 (fun q_187 eq_187 => ?_)
                          have hV_q_187 : sx_V h L q_187 := by rw [eq_187]; exact hV_q_184.pI ka0 trivial
                          have hF_q_187 : sx_fr h L (fun a => h.1 a = 12) q q_187 := hF_q_184.tr (by rw [eq_187]; exact sx_fr.pI (show h.1 a0 = 12 from by omega))
                          have z_188 : q_187.1 a0 8 = 1 := by rw [eq_187]; exact sg_pI_e
                          have hK_q_187 : sx_kf a0 [6, 7, 8, 9, 11, 12, 13] q q_187 := hK_q_184.tr (by rw [eq_187]; exact sx_kf.pI (by decide))
                          have mN_189 : mv_N a0 q_187 := mv_N.ne z_188 (by decide)
                          exact hret _ _ _ dX12_go_384 ⟨hV_q_187, hF_q_187, hK_q_187, mN_189⟩
                        · refine wa_iload B dX12_go_353 0 rfl ?_
                          refine wa_iload_n B dX12_go_355 rfl 2 rfl ?_
                          refine wa_if_eq B 364 dX12_go_356 (by decide) (fun (t_190 : r_21.toInt = 0) => ?_) (fun (t_190 : ¬ r_21.toInt = 0) => ?_)
                          · refine wa_iconst B 2 dX12_go_364 (by decide) ?_
                            refine wa_icmp_le B 372 dX12_go_365 (by decide) (fun (t_191 : v_173.toInt ≤ 2) => ?_) (fun (t_191 : ¬ v_173.toInt ≤ 2) => ?_)
                            · refine wa_iload_n B dX12_go_372 rfl 2 rfl ?_
                              refine wa_if_eq B 380 dX12_go_373 (by decide) (fun (t_192 : r_21.toInt = 0) => ?_) (fun (t_192 : ¬ r_21.toInt = 0) => ?_)
                              · refine wa_iconst B 3 dX12_go_380 (by decide) ?_
                                refine wa_putI B (C := RX12) (T := TX12) (N := 51) iq_X12_go_X12 ha0 ka0 (by decide) rfl 8 (by decide) (by decide) (by decide +kernel) rfl (by decide) (v := 3) (ty := .int) tyX12 tyX12_ok nmX12 rfl (by decide +kernel) rfl rfl dX12_go_381 (fun q_193 eq_193 => ?_)
                                have hV_q_193 : sx_V h L q_193 := by rw [eq_193]; exact hV_q_184.pI ka0 trivial
                                have hF_q_193 : sx_fr h L (fun a => h.1 a = 12) q q_193 := hF_q_184.tr (by rw [eq_193]; exact sx_fr.pI (show h.1 a0 = 12 from by omega))
                                have z_194 : q_193.1 a0 8 = 3 := by rw [eq_193]; exact sg_pI_e
                                have hK_q_193 : sx_kf a0 [6, 7, 8, 9, 11, 12, 13] q q_193 := hK_q_184.tr (by rw [eq_193]; exact sx_kf.pI (by decide))
                                have mN_195 : mv_N a0 q_193 := mv_N.ne z_194 (by decide)
                                exact hret _ _ _ dX12_go_384 ⟨hV_q_193, hF_q_193, hK_q_193, mN_195⟩
                              · refine wa_iconst B 2 dX12_go_376 (by decide) ?_
                                refine wa_goto B 381 dX12_go_377 (by decide) ?_
                                refine wa_putI B (C := RX12) (T := TX12) (N := 51) iq_X12_go_X12 ha0 ka0 (by decide) rfl 8 (by decide) (by decide) (by decide +kernel) rfl (by decide) (v := 2) (ty := .int) tyX12 tyX12_ok nmX12 rfl (by decide +kernel) rfl rfl dX12_go_381 (fun q_196 eq_196 => ?_)
                                have hV_q_196 : sx_V h L q_196 := by rw [eq_196]; exact hV_q_184.pI ka0 trivial
                                have hF_q_196 : sx_fr h L (fun a => h.1 a = 12) q q_196 := hF_q_184.tr (by rw [eq_196]; exact sx_fr.pI (show h.1 a0 = 12 from by omega))
                                have z_197 : q_196.1 a0 8 = 2 := by rw [eq_196]; exact sg_pI_e
                                have hK_q_196 : sx_kf a0 [6, 7, 8, 9, 11, 12, 13] q q_196 := hK_q_184.tr (by rw [eq_196]; exact sx_kf.pI (by decide))
                                have z_199 : q_196.2.1 a0 11 = q_26.2.1 a0 11 := ((show q_196.2.1 a0 11 = q_184.2.1 a0 11 from by rw [eq_196]; rfl)).trans (((show q_184.2.1 a0 11 = q_178.2.1 a0 11 from by rw [eq_184]; rfl)).trans ((show q_178.2.1 a0 11 = q_26.2.1 a0 11 from by rw [eq_178]; rfl)))
                                have mN_198 : mv_N a0 q_196 := fun _ => by rw [z_199]; have z9 := x_37 (by omega) (by omega); have z8 := zx_q_le ((q_26.1 a0 6).toInt - (q_26.1 a0 7).toInt); omega
                                exact hret _ _ _ dX12_go_384 ⟨hV_q_196, hF_q_196, hK_q_196, mN_198⟩
                            · refine wa_iconst B 1 dX12_go_368 (by decide) ?_
                              refine wa_goto B 381 dX12_go_369 (by decide) ?_
                              refine wa_putI B (C := RX12) (T := TX12) (N := 51) iq_X12_go_X12 ha0 ka0 (by decide) rfl 8 (by decide) (by decide) (by decide +kernel) rfl (by decide) (v := 1) (ty := .int) tyX12 tyX12_ok nmX12 rfl (by decide +kernel) rfl rfl dX12_go_381 (fun q_200 eq_200 => ?_)
                              have hV_q_200 : sx_V h L q_200 := by rw [eq_200]; exact hV_q_184.pI ka0 trivial
                              have hF_q_200 : sx_fr h L (fun a => h.1 a = 12) q q_200 := hF_q_184.tr (by rw [eq_200]; exact sx_fr.pI (show h.1 a0 = 12 from by omega))
                              have z_201 : q_200.1 a0 8 = 1 := by rw [eq_200]; exact sg_pI_e
                              have hK_q_200 : sx_kf a0 [6, 7, 8, 9, 11, 12, 13] q q_200 := hK_q_184.tr (by rw [eq_200]; exact sx_kf.pI (by decide))
                              have mN_202 : mv_N a0 q_200 := mv_N.ne z_201 (by decide)
                              exact hret _ _ _ dX12_go_384 ⟨hV_q_200, hF_q_200, hK_q_200, mN_202⟩
                          · refine wa_bipush B 8 dX12_go_359 (by decide) ?_
                            refine wa_goto B 365 dX12_go_361 (by decide) ?_
                            refine wa_icmp_le B 372 dX12_go_365 (by decide) (fun (t_203 : v_173.toInt ≤ 8) => ?_) (fun (t_203 : ¬ v_173.toInt ≤ 8) => ?_)
                            · refine wa_iload_n B dX12_go_372 rfl 2 rfl ?_
                              refine wa_if_eq B 380 dX12_go_373 (by decide) (fun (t_204 : r_21.toInt = 0) => ?_) (fun (t_204 : ¬ r_21.toInt = 0) => ?_)
                              · refine wa_iconst B 3 dX12_go_380 (by decide) ?_
                                refine wa_putI B (C := RX12) (T := TX12) (N := 51) iq_X12_go_X12 ha0 ka0 (by decide) rfl 8 (by decide) (by decide) (by decide +kernel) rfl (by decide) (v := 3) (ty := .int) tyX12 tyX12_ok nmX12 rfl (by decide +kernel) rfl rfl dX12_go_381 (fun q_205 eq_205 => ?_)
                                have hV_q_205 : sx_V h L q_205 := by rw [eq_205]; exact hV_q_184.pI ka0 trivial
                                have hF_q_205 : sx_fr h L (fun a => h.1 a = 12) q q_205 := hF_q_184.tr (by rw [eq_205]; exact sx_fr.pI (show h.1 a0 = 12 from by omega))
                                have z_206 : q_205.1 a0 8 = 3 := by rw [eq_205]; exact sg_pI_e
                                have hK_q_205 : sx_kf a0 [6, 7, 8, 9, 11, 12, 13] q q_205 := hK_q_184.tr (by rw [eq_205]; exact sx_kf.pI (by decide))
                                have mN_207 : mv_N a0 q_205 := mv_N.ne z_206 (by decide)
                                exact hret _ _ _ dX12_go_384 ⟨hV_q_205, hF_q_205, hK_q_205, mN_207⟩
                              · refine wa_iconst B 2 dX12_go_376 (by decide) ?_
                                refine wa_goto B 381 dX12_go_377 (by decide) ?_
                                refine wa_putI B (C := RX12) (T := TX12) (N := 51) iq_X12_go_X12 ha0 ka0 (by decide) rfl 8 (by decide) (by decide) (by decide +kernel) rfl (by decide) (v := 2) (ty := .int) tyX12 tyX12_ok nmX12 rfl (by decide +kernel) rfl rfl dX12_go_381 (fun q_208 eq_208 => ?_)
                                have hV_q_208 : sx_V h L q_208 := by rw [eq_208]; exact hV_q_184.pI ka0 trivial
                                have hF_q_208 : sx_fr h L (fun a => h.1 a = 12) q q_208 := hF_q_184.tr (by rw [eq_208]; exact sx_fr.pI (show h.1 a0 = 12 from by omega))
                                have z_209 : q_208.1 a0 8 = 2 := by rw [eq_208]; exact sg_pI_e
                                have hK_q_208 : sx_kf a0 [6, 7, 8, 9, 11, 12, 13] q q_208 := hK_q_184.tr (by rw [eq_208]; exact sx_kf.pI (by decide))
                                have z_211 : q_208.2.1 a0 11 = q_26.2.1 a0 11 := ((show q_208.2.1 a0 11 = q_184.2.1 a0 11 from by rw [eq_208]; rfl)).trans (((show q_184.2.1 a0 11 = q_178.2.1 a0 11 from by rw [eq_184]; rfl)).trans ((show q_178.2.1 a0 11 = q_26.2.1 a0 11 from by rw [eq_178]; rfl)))
                                have mN_210 : mv_N a0 q_208 := fun _ => by rw [z_211]; have z9 := x_37 (by omega) (by omega); have z8 := zx_q_le ((q_26.1 a0 6).toInt - (q_26.1 a0 7).toInt); omega
                                exact hret _ _ _ dX12_go_384 ⟨hV_q_208, hF_q_208, hK_q_208, mN_210⟩
                            · refine wa_iconst B 1 dX12_go_368 (by decide) ?_
                              refine wa_goto B 381 dX12_go_369 (by decide) ?_
                              refine wa_putI B (C := RX12) (T := TX12) (N := 51) iq_X12_go_X12 ha0 ka0 (by decide) rfl 8 (by decide) (by decide) (by decide +kernel) rfl (by decide) (v := 1) (ty := .int) tyX12 tyX12_ok nmX12 rfl (by decide +kernel) rfl rfl dX12_go_381 (fun q_212 eq_212 => ?_)
                              have hV_q_212 : sx_V h L q_212 := by rw [eq_212]; exact hV_q_184.pI ka0 trivial
                              have hF_q_212 : sx_fr h L (fun a => h.1 a = 12) q q_212 := hF_q_184.tr (by rw [eq_212]; exact sx_fr.pI (show h.1 a0 = 12 from by omega))
                              have z_213 : q_212.1 a0 8 = 1 := by rw [eq_212]; exact sg_pI_e
                              have hK_q_212 : sx_kf a0 [6, 7, 8, 9, 11, 12, 13] q q_212 := hK_q_184.tr (by rw [eq_212]; exact sx_kf.pI (by decide))
                              have mN_214 : mv_N a0 q_212 := mv_N.ne z_213 (by decide)
                              exact hret _ _ _ dX12_go_384 ⟨hV_q_212, hF_q_212, hK_q_212, mN_214⟩
                      refine wa_icmp_le B 344 dX12_go_324 (by decide) (fun (t_215 : v_173.toInt ≤ 1) => ?_) (fun (t_215 : ¬ v_173.toInt ≤ 1) => ?_)
                      · refine wa_iconst B (-1) dX12_go_344 (by decide) ?_
                        exact Jn_345_183 (-1) (show (-48) ≤ (-1) from by first | assumption | omega | decide) (show (-1) ≤ 207 from by first | assumption | omega | decide)
                      · refine wa_aload_n B dX12_go_327 rfl 4 rfl ?_
                        have z_216 : q_178.2.2.1 a0 3 = a_14 := ((show q_178.2.2.1 a0 3 = q_26.2.2.1 a0 3 from by rw [eq_178]; rfl)).trans (p3_q_26)
                        refine wa_getR B (C := RX12) (T := TX12) (N := 51) iq_X12_go_X12 ha0 ka0 (by decide) rfl 3 (by decide) (by decide) (by decide +kernel) rfl (fun _ _ _ => rfl) (v := a_14) z_216 dX12_go_328 ?_
                        refine wa_aload_n B dX12_go_331 rfl 4 rfl ?_
                        have z_217 : q_178.1 a0 7 = (q_1.1 a0 6) := ((show q_178.1 a0 7 = q_26.1 a0 7 from by rw [eq_178]; exact sg_pI_k (by decide))).trans (p1_q_26)
                        refine wa_getI B (C := RX12) (T := TX12) (N := 51) iq_X12_go_X12 ha0 ka0 (by decide) rfl 7 (by decide) (by decide) (by decide +kernel) rfl (by decide) (v := (q_1.1 a0 6)) z_217 dX12_go_332 ?_
                        refine wa_iconst B 1 dX12_go_335 (by decide) ?_
                        refine wa_iadd B dX12_go_336 (fun v_218 ev_218 => ?_)
                        have tv_218 : v_218.toInt = (q_1.1 a0 6).toInt + 1 := by have b0 := zx_bd (q_1.1 a0 6); rw [ev_218]; exact zx_add (show (-2147483648 : Int) ≤ (q_1.1 a0 6).toInt + 1 by omega) (show (q_1.1 a0 6).toInt + 1 < (2147483648 : Int) by omega)
                        have z_219 : q_178.2.2.2.1 a_14 = (q_7.2.2.2.1 a_14) := ((show q_178.2.2.2.1 a_14 = q_26.2.2.2.1 a_14 from by rw [eq_178]; rfl)).trans (p4_q_26)
                        have z_220 : q_178.2.2.2.1 a_14 (v_218 : Int32).toNatClampNeg = (q_7.2.2.2.1 a_14 (v_218 : Int32).toNatClampNeg) := congrFun z_219 _
                        refine wa_iaload B ha_14 ka_14 (by decide) (by decide) (show 0 ≤ v_218.toInt by omega) (show v_218.toInt < (h.2.1 a_14 : Int) by omega) (v := (q_7.2.2.2.1 a_14 (v_218 : Int32).toNatClampNeg)) z_220 dX12_go_337 ?_
                        have g_221 : (0 : Int) ≤ ((q_7.2.2.2.1 a_14 (v_218 : Int32).toNatClampNeg)).toInt ∧ ((q_7.2.2.2.1 a_14 (v_218 : Int32).toNatClampNeg)).toInt ≤ 255 := by rw [← z_220]; exact hV_q_178.cnt ha_14 ka_14 _
                        refine wa_callSi B (As := [.int ((q_7.2.2.2.1 a_14 (v_218 : Int32).toNatClampNeg))]) (rest := [.ref a0]) (k_X12_digitOf l dC dI h L hN q_178 hV_q_178 ((q_7.2.2.2.1 a_14 (v_218 : Int32).toNatClampNeg))  (by first | assumption | omega | decide) (by first | assumption | omega | decide)) (va_cwS 1 B.1.2.2.2.2 gX12_go_X12_digitOf rfl rfl rfl (by decide +kernel) ⟨Nat.le_of_ble_eq_true rfl, Nat.le_of_ble_eq_true rfl⟩) rfl rfl (Nat.le_of_ble_eq_true rfl) dX12_go_338 (fun r_223 q_222 w_224 => ?_)
                        obtain ⟨ew_224, hw_224⟩ := w_224
                        subst ew_224
                        refine wa_goto B 345 dX12_go_341 (by decide) ?_
                        exact Jn_345_183 r_223 (show (-48) ≤ r_223.toInt from by first | assumption | omega | decide) (show r_223.toInt ≤ 207 from by first | assumption | omega | decide)
                    · have y_225 : (q_26.1 a0 4).toInt = (q_1.1 a0 4).toInt := by rw [p0_q_26]
                      exact Jn_216_51 () (show (q_26.1 a0 6).toInt < (q_26.1 a0 4).toInt from by first | assumption | omega | decide)
              have y_226 : (q_23.1 a0 4).toInt = (q_1.1 a0 4).toInt := by rw [z_27]
              have y_227 : (q_23.1 a0 6).toInt = (q_1.1 a0 6).toInt := by rw [z_28]
              have y_228 : (q_23.1 a0 7).toInt = (q_1.1 a0 6).toInt := by rw [z_29]
              exact Lp_187_38 _ 1 q_23 hV_q_23 hF_q_23 hK_q_23 z_27 z_29 z_30 z_31 z_32 (show (q_23.1 a0 7).toInt ≤ (q_23.1 a0 6).toInt from by first | assumption | omega | decide) (show (q_23.1 a0 6).toInt ≤ (q_23.1 a0 4).toInt from by first | assumption | omega | decide) (show (q_23.1 a0 7).toInt < (q_23.1 a0 4).toInt from by first | assumption | omega | decide) (show 1 = 0 ∨ 1 = 1 from by first | assumption | omega | decide) (show (1 = 1 → r_21.toInt = 1 → 0 ≤ (q_23.2.1 a0 11).toInt ∧ (q_23.2.1 a0 11).toInt < zx_q ((q_23.1 a0 6).toInt - (q_23.1 a0 7).toInt)) from by intro _ _; rw [z_24, show (q_23.1 a0 6).toInt - (q_23.1 a0 7).toInt = 0 by omega]; decide) (Nat.lt_succ_self _)
            refine wa_if_ne B 175 dX12_go_127 (by decide) (fun (t_229 : ¬ r_17.toInt = 0) => ?_) (fun (t_229 : r_17.toInt = 0) => ?_)
            · exact Jn_175_19 ()
            · refine wa_aload_n B dX12_go_130 rfl 1 rfl ?_
              refine wa_iload_n B dX12_go_131 rfl 0 rfl ?_
              refine wa_callVi B (x := (RX12, TX12, 51)) (As := [.int ((q_7.2.2.2.1 a_14 ((q_1.1 a0 6) : Int32).toNatClampNeg))]) (rest := []) (k_X12_isCount l dC dI h L hN q_7 hV_q_7 (a0 := a0) ha0 ka0 ((q_7.2.2.2.1 a_14 ((q_1.1 a0 6) : Int32).toNatClampNeg))  ) (cwV 1 B.1.2.2.2.2 gX12_go_X12_isCount rfl rfl rfl (by decide +kernel) ⟨Nat.le_of_ble_eq_true rfl, Nat.le_of_ble_eq_true rfl⟩) ha0 ka0 (by decide) rfl rfl rfl (Nat.le_of_ble_eq_true rfl) dX12_go_132 (fun r_231 q_230 w_232 => ?_)
              obtain ⟨ew_232, hw_232⟩ := w_232
              subst ew_232
              refine wa_if_ne B 175 dX12_go_135 (by decide) (fun (t_233 : ¬ r_231.toInt = 0) => ?_) (fun (t_233 : r_231.toInt = 0) => ?_)
              · exact Jn_175_19 ()
              · refine wa_aload_n B dX12_go_138 rfl 1 rfl ?_
                refine wa_iload_n B dX12_go_139 rfl 0 rfl ?_
                refine wa_bipush B 58 dX12_go_140 (by decide) ?_
                refine wa_icmp_eq B 151 dX12_go_142 (by decide) (fun (t_234 : ((q_7.2.2.2.1 a_14 ((q_1.1 a0 6) : Int32).toNatClampNeg)).toInt = 58) => ?_) (fun (t_234 : ¬ ((q_7.2.2.2.1 a_14 ((q_1.1 a0 6) : Int32).toNatClampNeg)).toInt = 58) => ?_)
                · refine wa_iconst B 4 dX12_go_151 (by decide) ?_
                  refine wa_goto B 156 dX12_go_152 (by decide) ?_
                  refine wa_putI B (C := RX12) (T := TX12) (N := 51) iq_X12_go_X12 ha0 ka0 (by decide) rfl 8 (by decide) (by decide) (by decide +kernel) rfl (by decide) (v := 4) (ty := .int) tyX12 tyX12_ok nmX12 rfl (by decide +kernel) rfl rfl dX12_go_156 (fun q_235 eq_235 => ?_)
                  have hV_q_235 : sx_V h L q_235 := by rw [eq_235]; exact hV_q_7.pI ka0 trivial
                  have hF_q_235 : sx_fr h L (fun a => h.1 a = 12) q q_235 := hF_q_7.tr (by rw [eq_235]; exact sx_fr.pI (show h.1 a0 = 12 from by omega))
                  have z_236 : q_235.1 a0 8 = 4 := by rw [eq_235]; exact sg_pI_e
                  have hK_q_235 : sx_kf a0 [6, 7, 8, 9, 11, 12, 13] q q_235 := hK_q_7.tr (by rw [eq_235]; exact sx_kf.pI (by decide))
                  refine wa_aload_n B dX12_go_159 rfl 1 rfl ?_
                  refine wa_iload_n B dX12_go_160 rfl 0 rfl ?_
                  refine wa_putI B (C := RX12) (T := TX12) (N := 51) iq_X12_go_X12 ha0 ka0 (by decide) rfl 9 (by decide) (by decide) (by decide +kernel) rfl (by decide) (v := (q_7.2.2.2.1 a_14 ((q_1.1 a0 6) : Int32).toNatClampNeg)) (ty := .int) tyX12 tyX12_ok nmX12 rfl (by decide +kernel) rfl rfl dX12_go_161 (fun q_237 eq_237 => ?_)
                  have hV_q_237 : sx_V h L q_237 := by rw [eq_237]; exact hV_q_235.pI ka0 trivial
                  have hF_q_237 : sx_fr h L (fun a => h.1 a = 12) q q_237 := hF_q_235.tr (by rw [eq_237]; exact sx_fr.pI (show h.1 a0 = 12 from by omega))
                  have z_238 : q_237.1 a0 9 = (q_7.2.2.2.1 a_14 ((q_1.1 a0 6) : Int32).toNatClampNeg) := by rw [eq_237]; exact sg_pI_e
                  have hK_q_237 : sx_kf a0 [6, 7, 8, 9, 11, 12, 13] q q_237 := hK_q_235.tr (by rw [eq_237]; exact sx_kf.pI (by decide))
                  refine wa_aload_n B dX12_go_164 rfl 1 rfl ?_
                  refine wa_dup B dX12_go_165 rfl ?_
                  have z_239 : q_237.1 a0 6 = (q_1.1 a0 6) := ((show q_237.1 a0 6 = q_235.1 a0 6 from by rw [eq_237]; exact sg_pI_k (by decide))).trans (((show q_235.1 a0 6 = q_7.1 a0 6 from by rw [eq_235]; exact sg_pI_k (by decide))).trans (z_12))
                  refine wa_getI B (C := RX12) (T := TX12) (N := 51) iq_X12_go_X12 ha0 ka0 (by decide) rfl 6 (by decide) (by decide) (by decide +kernel) rfl (by decide) (v := (q_1.1 a0 6)) z_239 dX12_go_166 ?_
                  refine wa_iconst B 1 dX12_go_169 (by decide) ?_
                  refine wa_iadd B dX12_go_170 (fun v_240 ev_240 => ?_)
                  have tv_240 : v_240.toInt = (q_1.1 a0 6).toInt + 1 := by have b0 := zx_bd (q_1.1 a0 6); rw [ev_240]; exact zx_add (show (-2147483648 : Int) ≤ (q_1.1 a0 6).toInt + 1 by omega) (show (q_1.1 a0 6).toInt + 1 < (2147483648 : Int) by omega)
                  refine wa_putI B (C := RX12) (T := TX12) (N := 51) iq_X12_go_X12 ha0 ka0 (by decide) rfl 6 (by decide) (by decide) (by decide +kernel) rfl (by decide) (v := v_240) (ty := .int) tyX12 tyX12_ok nmX12 rfl (by decide +kernel) rfl rfl dX12_go_171 (fun q_241 eq_241 => ?_)
                  have hV_q_241 : sx_V h L q_241 := by rw [eq_241]; exact hV_q_237.pI ka0 (show sx_in v_240 (0) 500 from ⟨by omega, by omega⟩)
                  have hF_q_241 : sx_fr h L (fun a => h.1 a = 12) q q_241 := hF_q_237.tr (by rw [eq_241]; exact sx_fr.pI (show h.1 a0 = 12 from by omega))
                  have z_242 : q_241.1 a0 6 = v_240 := by rw [eq_241]; exact sg_pI_e
                  have hK_q_241 : sx_kf a0 [6, 7, 8, 9, 11, 12, 13] q q_241 := hK_q_237.tr (by rw [eq_241]; exact sx_kf.pI (by decide))
                  have z_243 : q_241.1 a0 8 = 4 := ((show q_241.1 a0 8 = q_237.1 a0 8 from by rw [eq_241]; exact sg_pI_k (by decide))).trans (((show q_237.1 a0 8 = q_235.1 a0 8 from by rw [eq_237]; exact sg_pI_k (by decide))).trans (z_236))
                  have mN_244 : mv_N a0 q_241 := mv_N.ne z_243 (by decide)
                  exact hret _ _ _ dX12_go_174 ⟨hV_q_241, hF_q_241, hK_q_241, mN_244⟩
                · refine wa_iload_n B dX12_go_145 rfl 0 rfl ?_
                  refine wa_bipush B 59 dX12_go_146 (by decide) ?_
                  refine wa_icmp_ne B 155 dX12_go_148 (by decide) (fun (t_245 : ¬ ((q_7.2.2.2.1 a_14 ((q_1.1 a0 6) : Int32).toNatClampNeg)).toInt = 59) => ?_) (fun (t_245 : ((q_7.2.2.2.1 a_14 ((q_1.1 a0 6) : Int32).toNatClampNeg)).toInt = 59) => ?_)
                  · refine wa_iconst B 1 dX12_go_155 (by decide) ?_
                    refine wa_putI B (C := RX12) (T := TX12) (N := 51) iq_X12_go_X12 ha0 ka0 (by decide) rfl 8 (by decide) (by decide) (by decide +kernel) rfl (by decide) (v := 1) (ty := .int) tyX12 tyX12_ok nmX12 rfl (by decide +kernel) rfl rfl dX12_go_156 (fun q_246 eq_246 => ?_)
                    have hV_q_246 : sx_V h L q_246 := by rw [eq_246]; exact hV_q_7.pI ka0 trivial
                    have hF_q_246 : sx_fr h L (fun a => h.1 a = 12) q q_246 := hF_q_7.tr (by rw [eq_246]; exact sx_fr.pI (show h.1 a0 = 12 from by omega))
                    have z_247 : q_246.1 a0 8 = 1 := by rw [eq_246]; exact sg_pI_e
                    have hK_q_246 : sx_kf a0 [6, 7, 8, 9, 11, 12, 13] q q_246 := hK_q_7.tr (by rw [eq_246]; exact sx_kf.pI (by decide))
                    refine wa_aload_n B dX12_go_159 rfl 1 rfl ?_
                    refine wa_iload_n B dX12_go_160 rfl 0 rfl ?_
                    refine wa_putI B (C := RX12) (T := TX12) (N := 51) iq_X12_go_X12 ha0 ka0 (by decide) rfl 9 (by decide) (by decide) (by decide +kernel) rfl (by decide) (v := (q_7.2.2.2.1 a_14 ((q_1.1 a0 6) : Int32).toNatClampNeg)) (ty := .int) tyX12 tyX12_ok nmX12 rfl (by decide +kernel) rfl rfl dX12_go_161 (fun q_248 eq_248 => ?_)
                    have hV_q_248 : sx_V h L q_248 := by rw [eq_248]; exact hV_q_246.pI ka0 trivial
                    have hF_q_248 : sx_fr h L (fun a => h.1 a = 12) q q_248 := hF_q_246.tr (by rw [eq_248]; exact sx_fr.pI (show h.1 a0 = 12 from by omega))
                    have z_249 : q_248.1 a0 9 = (q_7.2.2.2.1 a_14 ((q_1.1 a0 6) : Int32).toNatClampNeg) := by rw [eq_248]; exact sg_pI_e
                    have hK_q_248 : sx_kf a0 [6, 7, 8, 9, 11, 12, 13] q q_248 := hK_q_246.tr (by rw [eq_248]; exact sx_kf.pI (by decide))
                    refine wa_aload_n B dX12_go_164 rfl 1 rfl ?_
                    refine wa_dup B dX12_go_165 rfl ?_
                    have z_250 : q_248.1 a0 6 = (q_1.1 a0 6) := ((show q_248.1 a0 6 = q_246.1 a0 6 from by rw [eq_248]; exact sg_pI_k (by decide))).trans (((show q_246.1 a0 6 = q_7.1 a0 6 from by rw [eq_246]; exact sg_pI_k (by decide))).trans (z_12))
                    refine wa_getI B (C := RX12) (T := TX12) (N := 51) iq_X12_go_X12 ha0 ka0 (by decide) rfl 6 (by decide) (by decide) (by decide +kernel) rfl (by decide) (v := (q_1.1 a0 6)) z_250 dX12_go_166 ?_
                    refine wa_iconst B 1 dX12_go_169 (by decide) ?_
                    refine wa_iadd B dX12_go_170 (fun v_251 ev_251 => ?_)
                    have tv_251 : v_251.toInt = (q_1.1 a0 6).toInt + 1 := by have b0 := zx_bd (q_1.1 a0 6); rw [ev_251]; exact zx_add (show (-2147483648 : Int) ≤ (q_1.1 a0 6).toInt + 1 by omega) (show (q_1.1 a0 6).toInt + 1 < (2147483648 : Int) by omega)
                    refine wa_putI B (C := RX12) (T := TX12) (N := 51) iq_X12_go_X12 ha0 ka0 (by decide) rfl 6 (by decide) (by decide) (by decide +kernel) rfl (by decide) (v := v_251) (ty := .int) tyX12 tyX12_ok nmX12 rfl (by decide +kernel) rfl rfl dX12_go_171 (fun q_252 eq_252 => ?_)
                    have hV_q_252 : sx_V h L q_252 := by rw [eq_252]; exact hV_q_248.pI ka0 (show sx_in v_251 (0) 500 from ⟨by omega, by omega⟩)
                    have hF_q_252 : sx_fr h L (fun a => h.1 a = 12) q q_252 := hF_q_248.tr (by rw [eq_252]; exact sx_fr.pI (show h.1 a0 = 12 from by omega))
                    have z_253 : q_252.1 a0 6 = v_251 := by rw [eq_252]; exact sg_pI_e
                    have hK_q_252 : sx_kf a0 [6, 7, 8, 9, 11, 12, 13] q q_252 := hK_q_248.tr (by rw [eq_252]; exact sx_kf.pI (by decide))
                    have z_254 : q_252.1 a0 8 = 1 := ((show q_252.1 a0 8 = q_248.1 a0 8 from by rw [eq_252]; exact sg_pI_k (by decide))).trans (((show q_248.1 a0 8 = q_246.1 a0 8 from by rw [eq_248]; exact sg_pI_k (by decide))).trans (z_247))
                    have mN_255 : mv_N a0 q_252 := mv_N.ne z_254 (by decide)
                    exact hret _ _ _ dX12_go_174 ⟨hV_q_252, hF_q_252, hK_q_252, mN_255⟩
                  · refine wa_iconst B 4 dX12_go_151 (by decide) ?_
                    refine wa_goto B 156 dX12_go_152 (by decide) ?_
                    refine wa_putI B (C := RX12) (T := TX12) (N := 51) iq_X12_go_X12 ha0 ka0 (by decide) rfl 8 (by decide) (by decide) (by decide +kernel) rfl (by decide) (v := 4) (ty := .int) tyX12 tyX12_ok nmX12 rfl (by decide +kernel) rfl rfl dX12_go_156 (fun q_256 eq_256 => ?_)
                    have hV_q_256 : sx_V h L q_256 := by rw [eq_256]; exact hV_q_7.pI ka0 trivial
                    have hF_q_256 : sx_fr h L (fun a => h.1 a = 12) q q_256 := hF_q_7.tr (by rw [eq_256]; exact sx_fr.pI (show h.1 a0 = 12 from by omega))
                    have z_257 : q_256.1 a0 8 = 4 := by rw [eq_256]; exact sg_pI_e
                    have hK_q_256 : sx_kf a0 [6, 7, 8, 9, 11, 12, 13] q q_256 := hK_q_7.tr (by rw [eq_256]; exact sx_kf.pI (by decide))
                    refine wa_aload_n B dX12_go_159 rfl 1 rfl ?_
                    refine wa_iload_n B dX12_go_160 rfl 0 rfl ?_
                    refine wa_putI B (C := RX12) (T := TX12) (N := 51) iq_X12_go_X12 ha0 ka0 (by decide) rfl 9 (by decide) (by decide) (by decide +kernel) rfl (by decide) (v := (q_7.2.2.2.1 a_14 ((q_1.1 a0 6) : Int32).toNatClampNeg)) (ty := .int) tyX12 tyX12_ok nmX12 rfl (by decide +kernel) rfl rfl dX12_go_161 (fun q_258 eq_258 => ?_)
                    have hV_q_258 : sx_V h L q_258 := by rw [eq_258]; exact hV_q_256.pI ka0 trivial
                    have hF_q_258 : sx_fr h L (fun a => h.1 a = 12) q q_258 := hF_q_256.tr (by rw [eq_258]; exact sx_fr.pI (show h.1 a0 = 12 from by omega))
                    have z_259 : q_258.1 a0 9 = (q_7.2.2.2.1 a_14 ((q_1.1 a0 6) : Int32).toNatClampNeg) := by rw [eq_258]; exact sg_pI_e
                    have hK_q_258 : sx_kf a0 [6, 7, 8, 9, 11, 12, 13] q q_258 := hK_q_256.tr (by rw [eq_258]; exact sx_kf.pI (by decide))
                    refine wa_aload_n B dX12_go_164 rfl 1 rfl ?_
                    refine wa_dup B dX12_go_165 rfl ?_
                    have z_260 : q_258.1 a0 6 = (q_1.1 a0 6) := ((show q_258.1 a0 6 = q_256.1 a0 6 from by rw [eq_258]; exact sg_pI_k (by decide))).trans (((show q_256.1 a0 6 = q_7.1 a0 6 from by rw [eq_256]; exact sg_pI_k (by decide))).trans (z_12))
                    refine wa_getI B (C := RX12) (T := TX12) (N := 51) iq_X12_go_X12 ha0 ka0 (by decide) rfl 6 (by decide) (by decide) (by decide +kernel) rfl (by decide) (v := (q_1.1 a0 6)) z_260 dX12_go_166 ?_
                    refine wa_iconst B 1 dX12_go_169 (by decide) ?_
                    refine wa_iadd B dX12_go_170 (fun v_261 ev_261 => ?_)
                    have tv_261 : v_261.toInt = (q_1.1 a0 6).toInt + 1 := by have b0 := zx_bd (q_1.1 a0 6); rw [ev_261]; exact zx_add (show (-2147483648 : Int) ≤ (q_1.1 a0 6).toInt + 1 by omega) (show (q_1.1 a0 6).toInt + 1 < (2147483648 : Int) by omega)
                    refine wa_putI B (C := RX12) (T := TX12) (N := 51) iq_X12_go_X12 ha0 ka0 (by decide) rfl 6 (by decide) (by decide) (by decide +kernel) rfl (by decide) (v := v_261) (ty := .int) tyX12 tyX12_ok nmX12 rfl (by decide +kernel) rfl rfl dX12_go_171 (fun q_262 eq_262 => ?_)
                    have hV_q_262 : sx_V h L q_262 := by rw [eq_262]; exact hV_q_258.pI ka0 (show sx_in v_261 (0) 500 from ⟨by omega, by omega⟩)
                    have hF_q_262 : sx_fr h L (fun a => h.1 a = 12) q q_262 := hF_q_258.tr (by rw [eq_262]; exact sx_fr.pI (show h.1 a0 = 12 from by omega))
                    have z_263 : q_262.1 a0 6 = v_261 := by rw [eq_262]; exact sg_pI_e
                    have hK_q_262 : sx_kf a0 [6, 7, 8, 9, 11, 12, 13] q q_262 := hK_q_258.tr (by rw [eq_262]; exact sx_kf.pI (by decide))
                    have z_264 : q_262.1 a0 8 = 4 := ((show q_262.1 a0 8 = q_258.1 a0 8 from by rw [eq_262]; exact sg_pI_k (by decide))).trans (((show q_258.1 a0 8 = q_256.1 a0 8 from by rw [eq_258]; exact sg_pI_k (by decide))).trans (z_257))
                    have mN_265 : mv_N a0 q_262 := mv_N.ne z_264 (by decide)
                    exact hret _ _ _ dX12_go_174 ⟨hV_q_262, hF_q_262, hK_q_262, mN_265⟩
          · refine wa_aload_n B dX12_go_107 rfl 0 rfl ?_
            refine wa_iconst B 0 dX12_go_108 (by decide) ?_
            refine wa_putI B (C := RX12) (T := TX12) (N := 51) iq_X12_go_X12 ha0 ka0 (by decide) rfl 8 (by decide) (by decide) (by decide +kernel) rfl (by decide) (v := 0) (ty := .int) tyX12 tyX12_ok nmX12 rfl (by decide +kernel) rfl rfl dX12_go_109 (fun q_266 eq_266 => ?_)
            have hV_q_266 : sx_V h L q_266 := by rw [eq_266]; exact hV_q_7.pI ka0 trivial
            have hF_q_266 : sx_fr h L (fun a => h.1 a = 12) q q_266 := hF_q_7.tr (by rw [eq_266]; exact sx_fr.pI (show h.1 a0 = 12 from by omega))
            have z_267 : q_266.1 a0 8 = 0 := by rw [eq_266]; exact sg_pI_e
            have hK_q_266 : sx_kf a0 [6, 7, 8, 9, 11, 12, 13] q q_266 := hK_q_7.tr (by rw [eq_266]; exact sx_kf.pI (by decide))
            have mN_268 : mv_N a0 q_266 := mv_N.ne z_267 (by decide)
            exact hret _ _ _ dX12_go_112 ⟨hV_q_266, hF_q_266, hK_q_266, mN_268⟩
        refine wa_icmp_le B 96 dX12_go_68 (by decide) (fun (t_269 : (q_1.1 a0 4).toInt ≤ (q_7.1 a0 5).toInt) => ?_) (fun (t_269 : ¬ (q_1.1 a0 4).toInt ≤ (q_7.1 a0 5).toInt) => ?_)
        · exact Jn_96_11 ()
        · refine wa_aload_n B dX12_go_71 rfl 0 rfl ?_
          refine wa_getI B (C := RX12) (T := TX12) (N := 51) iq_X12_go_X12 ha0 ka0 (by decide) rfl 7 (by decide) (by decide) (by decide +kernel) rfl (by decide) (v := (q_1.1 a0 6)) z_8 dX12_go_72 ?_
          refine wa_aload_n B dX12_go_75 rfl 0 rfl ?_
          refine wa_getI B (C := RX12) (T := TX12) (N := 51) iq_X12_go_X12 ha0 ka0 (by decide) rfl 5 (by decide) (by decide) (by decide +kernel) rfl (by decide) (v := (q_7.1 a0 5)) rfl dX12_go_76 ?_
          refine wa_icmp_lt B 96 dX12_go_79 (by decide) (fun (t_270 : (q_1.1 a0 6).toInt < (q_7.1 a0 5).toInt) => ?_) (fun (t_270 : ¬ (q_1.1 a0 6).toInt < (q_7.1 a0 5).toInt) => ?_)
          · exact Jn_96_11 ()
          · refine wa_aload_n B dX12_go_82 rfl 0 rfl ?_
            refine wa_aload_n B dX12_go_83 rfl 0 rfl ?_
            refine wa_getI B (C := RX12) (T := TX12) (N := 51) iq_X12_go_X12 ha0 ka0 (by decide) rfl 5 (by decide) (by decide) (by decide +kernel) rfl (by decide) (v := (q_7.1 a0 5)) rfl dX12_go_84 ?_
            refine wa_putI B (C := RX12) (T := TX12) (N := 51) iq_X12_go_X12 ha0 ka0 (by decide) rfl 7 (by decide) (by decide) (by decide +kernel) rfl (by decide) (v := (q_7.1 a0 5)) (ty := .int) tyX12 tyX12_ok nmX12 rfl (by decide +kernel) rfl rfl dX12_go_87 (fun q_271 eq_271 => ?_)
            have hV_q_271 : sx_V h L q_271 := by rw [eq_271]; exact hV_q_7.pI ka0 (show sx_in (q_7.1 a0 5) (0) 500 from ⟨by omega, by omega⟩)
            have hF_q_271 : sx_fr h L (fun a => h.1 a = 12) q q_271 := hF_q_7.tr (by rw [eq_271]; exact sx_fr.pI (show h.1 a0 = 12 from by omega))
            have z_272 : q_271.1 a0 7 = (q_7.1 a0 5) := by rw [eq_271]; exact sg_pI_e
            have hK_q_271 : sx_kf a0 [6, 7, 8, 9, 11, 12, 13] q q_271 := hK_q_7.tr (by rw [eq_271]; exact sx_kf.pI (by decide))
            refine wa_aload_n B dX12_go_90 rfl 0 rfl ?_
            refine wa_iconst B 1 dX12_go_91 (by decide) ?_
            refine wa_putI B (C := RX12) (T := TX12) (N := 51) iq_X12_go_X12 ha0 ka0 (by decide) rfl 8 (by decide) (by decide) (by decide +kernel) rfl (by decide) (v := 1) (ty := .int) tyX12 tyX12_ok nmX12 rfl (by decide +kernel) rfl rfl dX12_go_92 (fun q_273 eq_273 => ?_)
            have hV_q_273 : sx_V h L q_273 := by rw [eq_273]; exact hV_q_271.pI ka0 trivial
            have hF_q_273 : sx_fr h L (fun a => h.1 a = 12) q q_273 := hF_q_271.tr (by rw [eq_273]; exact sx_fr.pI (show h.1 a0 = 12 from by omega))
            have z_274 : q_273.1 a0 8 = 1 := by rw [eq_273]; exact sg_pI_e
            have hK_q_273 : sx_kf a0 [6, 7, 8, 9, 11, 12, 13] q q_273 := hK_q_271.tr (by rw [eq_273]; exact sx_kf.pI (by decide))
            have mN_275 : mv_N a0 q_273 := mv_N.ne z_274 (by decide)
            exact hret _ _ _ dX12_go_95 ⟨hV_q_273, hF_q_273, hK_q_273, mN_275⟩
      refine wa_icmp_ge B 52 dX12_go_8 (by decide) (fun (t_276 : (q_1.1 a0 4).toInt ≤ (q_1.1 a0 6).toInt) => ?_) (fun (t_276 : ¬ (q_1.1 a0 4).toInt ≤ (q_1.1 a0 6).toInt) => ?_)
      · exact Jn_52_6 ()
      · refine wa_aload_n B dX12_go_11 rfl 0 rfl ?_
        obtain ⟨a_277, ea_277, ha_277, ka_277, la_277⟩ := hV_q_1.refn (n := 500) (t := 113) ha0 ka0 3 rfl (by decide) rfl (by decide)
        refine wa_getR B (C := RX12) (T := TX12) (N := 51) iq_X12_go_X12 ha0 ka0 (by decide) rfl 3 (by decide) (by decide) (by decide +kernel) rfl (fun _ _ _ => rfl) (v := a_277) ea_277 dX12_go_12 ?_
        refine wa_aload_n B dX12_go_15 rfl 0 rfl ?_
        refine wa_getI B (C := RX12) (T := TX12) (N := 51) iq_X12_go_X12 ha0 ka0 (by decide) rfl 6 (by decide) (by decide) (by decide +kernel) rfl (by decide) (v := (q_1.1 a0 6)) rfl dX12_go_16 ?_
        refine wa_iaload B ha_277 ka_277 (by decide) (by decide) (show 0 ≤ (q_1.1 a0 6).toInt by omega) (show (q_1.1 a0 6).toInt < (h.2.1 a_277 : Int) by omega) (v := (q_1.2.2.2.1 a_277 ((q_1.1 a0 6) : Int32).toNatClampNeg)) rfl dX12_go_19 ?_
        have g_278 : (0 : Int) ≤ ((q_1.2.2.2.1 a_277 ((q_1.1 a0 6) : Int32).toNatClampNeg)).toInt ∧ ((q_1.2.2.2.1 a_277 ((q_1.1 a0 6) : Int32).toNatClampNeg)).toInt ≤ 255 := hV_q_1.cnt ha_277 ka_277 _
        refine wa_bipush B 32 dX12_go_20 (by decide) ?_
        have Jn_39_279 : ∀ (_ : Unit), WA l dC dI h L ({ frames := 2, cells := 0, slots := 0, locals := 41 } : Room) 5 Z q_1 39 [(0, .ref a0)] [] := by
          intro _
          refine wa_aload_n B dX12_go_39 rfl 0 rfl ?_
          refine wa_dup B dX12_go_40 rfl ?_
          refine wa_getI B (C := RX12) (T := TX12) (N := 51) iq_X12_go_X12 ha0 ka0 (by decide) rfl 6 (by decide) (by decide) (by decide +kernel) rfl (by decide) (v := (q_1.1 a0 6)) rfl dX12_go_41 ?_
          refine wa_iconst B 1 dX12_go_44 (by decide) ?_
          refine wa_iadd B dX12_go_45 (fun v_280 ev_280 => ?_)
          have tv_280 : v_280.toInt = (q_1.1 a0 6).toInt + 1 := by have b0 := zx_bd (q_1.1 a0 6); rw [ev_280]; exact zx_add (show (-2147483648 : Int) ≤ (q_1.1 a0 6).toInt + 1 by omega) (show (q_1.1 a0 6).toInt + 1 < (2147483648 : Int) by omega)
          refine wa_putI B (C := RX12) (T := TX12) (N := 51) iq_X12_go_X12 ha0 ka0 (by decide) rfl 6 (by decide) (by decide) (by decide +kernel) rfl (by decide) (v := v_280) (ty := .int) tyX12 tyX12_ok nmX12 rfl (by decide +kernel) rfl rfl dX12_go_46 (fun q_281 eq_281 => ?_)
          have hV_q_281 : sx_V h L q_281 := by rw [eq_281]; exact hV_q_1.pI ka0 (show sx_in v_280 (0) 500 from ⟨by omega, by omega⟩)
          have hF_q_281 : sx_fr h L (fun a => h.1 a = 12) q q_281 := hF_q_1.tr (by rw [eq_281]; exact sx_fr.pI (show h.1 a0 = 12 from by omega))
          have z_282 : q_281.1 a0 6 = v_280 := by rw [eq_281]; exact sg_pI_e
          have hK_q_281 : sx_kf a0 [6, 7, 8, 9, 11, 12, 13] q q_281 := hK_q_1.tr (by rw [eq_281]; exact sx_kf.pI (by decide))
          refine wa_goto B 0 dX12_go_49 (by decide) ?_
          have z_283 : q_281.1 a0 4 = q_1.1 a0 4 := (show q_281.1 a0 4 = q_1.1 a0 4 from by rw [eq_281]; exact sg_pI_k (by decide))
          have y_284 : (q_281.1 a0 4).toInt = (q_1.1 a0 4).toInt := by rw [z_283]
          have y_285 : (q_281.1 a0 6).toInt = v_280.toInt := by rw [z_282]
          exact ih_3 q_281 hV_q_281 hF_q_281 hK_q_281 (show ((q_281.1 a0 4).toInt - (q_281.1 a0 6).toInt : Int).toNat < _ from by omega)
        refine wa_icmp_eq B 39 dX12_go_22 (by decide) (fun (t_286 : ((q_1.2.2.2.1 a_277 ((q_1.1 a0 6) : Int32).toNatClampNeg)).toInt = 32) => ?_) (fun (t_286 : ¬ ((q_1.2.2.2.1 a_277 ((q_1.1 a0 6) : Int32).toNatClampNeg)).toInt = 32) => ?_)
        · exact Jn_39_279 ()
        · refine wa_aload_n B dX12_go_25 rfl 0 rfl ?_
          refine wa_getR B (C := RX12) (T := TX12) (N := 51) iq_X12_go_X12 ha0 ka0 (by decide) rfl 3 (by decide) (by decide) (by decide +kernel) rfl (fun _ _ _ => rfl) (v := a_277) ea_277 dX12_go_26 ?_
          refine wa_aload_n B dX12_go_29 rfl 0 rfl ?_
          refine wa_getI B (C := RX12) (T := TX12) (N := 51) iq_X12_go_X12 ha0 ka0 (by decide) rfl 6 (by decide) (by decide) (by decide +kernel) rfl (by decide) (v := (q_1.1 a0 6)) rfl dX12_go_30 ?_
          refine wa_iaload B ha_277 ka_277 (by decide) (by decide) (show 0 ≤ (q_1.1 a0 6).toInt by omega) (show (q_1.1 a0 6).toInt < (h.2.1 a_277 : Int) by omega) (v := (q_1.2.2.2.1 a_277 ((q_1.1 a0 6) : Int32).toNatClampNeg)) rfl dX12_go_33 ?_
          refine wa_bipush B 10 dX12_go_34 (by decide) ?_
          refine wa_icmp_ne B 52 dX12_go_36 (by decide) (fun (t_287 : ¬ ((q_1.2.2.2.1 a_277 ((q_1.1 a0 6) : Int32).toNatClampNeg)).toInt = 10) => ?_) (fun (t_287 : ((q_1.2.2.2.1 a_277 ((q_1.1 a0 6) : Int32).toNatClampNeg)).toInt = 10) => ?_)
          · exact Jn_52_6 ()
          · exact Jn_39_279 ()
  exact Lp_0_2 _ q hV hF hK (Nat.lt_succ_self _)
theorem iq_X12_begins_X12 : ∀ w ∈ wsX120, w ∈ wsX12_begins := fun _ h => List.mem_cons_of_mem _ (List.mem_append_right _ h)
set_option maxHeartbeats 4000000 in
set_option maxRecDepth 100000 in
theorem k_X12_begins (l : Launch) (dC : Nat → ClassId) (dI : Nat → Nat → Nat) (h : Sh) (L : List Nat) (hN : sx_nd L) (q : Sg) (hV : sx_V h L q) {a0 : Nat} (ha0 : a0 ∈ L) (ka0 : h.1 a0 = 12) (n1 : Int32) (n2 : Int32)   (hy0 : 0 ≤ n1.toInt) (hy1 : n1.toInt ≤ 500) (hy2 : n2.toInt = 0 ∨ n2.toInt = 1) : CMv l dC dI h L yX12_begins wsX12_begins ({ frames := 3, cells := 0, slots := 0, locals := 65 } : Room) q [.ref a0, .int n1, .int n2] (fun q' => sx_V h L q' ∧ sx_fr h L (fun a => h.1 a = 12) q q' ∧ sx_kf a0 [5, 10, 6, 7, 8, 9, 11, 12, 13] q q' ∧ mv_N a0 q') := by
  refine cm_v (cc := cX12_begins) (mL := 3) (own := RX12) hN (by decide) rfl rfl (Nat.le_of_ble_eq_true rfl) (fun Z B hret => ?_)
  have hF : sx_fr h L (fun a => h.1 a = 12) q q := sx_fr.rf
  have hK : sx_kf a0 [5, 10, 6, 7, 8, 9, 11, 12, 13] q q := sx_kf.rf
  show WA l dC dI h L ({ frames := 3, cells := 0, slots := 0, locals := 65 } : Room) 3 Z q 0 [(0, .ref a0), (1, .int n1), (2, .int n2)] []
  refine wa_aload_n B dX12_begins_0 rfl 0 rfl ?_
  refine wa_iload_n B dX12_begins_1 rfl 1 rfl ?_
  refine wa_putI B (C := RX12) (T := TX12) (N := 51) iq_X12_begins_X12 ha0 ka0 (by decide) rfl 5 (by decide) (by decide) (by decide +kernel) rfl (by decide) (v := n1) (ty := .int) tyX12 tyX12_ok nmX12 rfl (by decide +kernel) rfl rfl dX12_begins_2 (fun q_1 eq_1 => ?_)
  have hV_q_1 : sx_V h L q_1 := by rw [eq_1]; exact hV.pI ka0 (show sx_in n1 (0) 500 from ⟨by omega, by omega⟩)
  have hF_q_1 : sx_fr h L (fun a => h.1 a = 12) q q_1 := hF.tr (by rw [eq_1]; exact sx_fr.pI (show h.1 a0 = 12 from by omega))
  have z_2 : q_1.1 a0 5 = n1 := by rw [eq_1]; exact sg_pI_e
  have hK_q_1 : sx_kf a0 [5, 10, 6, 7, 8, 9, 11, 12, 13] q q_1 := hK.tr (by rw [eq_1]; exact sx_kf.pI (by decide))
  refine wa_aload_n B dX12_begins_5 rfl 0 rfl ?_
  refine wa_iload_n B dX12_begins_6 rfl 2 rfl ?_
  refine wa_putI B (C := RX12) (T := TX12) (N := 51) iq_X12_begins_X12 ha0 ka0 (by decide) rfl 10 (by decide) (by decide) (by decide +kernel) rfl (by decide) (v := n2) (ty := .boolean) tyX12 tyX12_ok nmX12 rfl (by decide +kernel) (by rcases zx_01 (show n2.toInt = 0 ∨ n2.toInt = 1 by omega) with z | z <;> rw [z] <;> rfl) (by rcases zx_01 (show n2.toInt = 0 ∨ n2.toInt = 1 by omega) with z | z <;> rw [z] <;> rfl) dX12_begins_7 (fun q_3 eq_3 => ?_)
  have hV_q_3 : sx_V h L q_3 := by rw [eq_3]; exact hV_q_1.pI ka0 trivial
  have hF_q_3 : sx_fr h L (fun a => h.1 a = 12) q q_3 := hF_q_1.tr (by rw [eq_3]; exact sx_fr.pI (show h.1 a0 = 12 from by omega))
  have z_4 : q_3.1 a0 10 = n2 := by rw [eq_3]; exact sg_pI_e
  have hK_q_3 : sx_kf a0 [5, 10, 6, 7, 8, 9, 11, 12, 13] q q_3 := hK_q_1.tr (by rw [eq_3]; exact sx_kf.pI (by decide))
  refine wa_aload_n B dX12_begins_10 rfl 0 rfl ?_
  refine wa_iconst B 0 dX12_begins_11 (by decide) ?_
  refine wa_putI B (C := RX12) (T := TX12) (N := 51) iq_X12_begins_X12 ha0 ka0 (by decide) rfl 6 (by decide) (by decide) (by decide +kernel) rfl (by decide) (v := 0) (ty := .int) tyX12 tyX12_ok nmX12 rfl (by decide +kernel) rfl rfl dX12_begins_12 (fun q_5 eq_5 => ?_)
  have hV_q_5 : sx_V h L q_5 := by rw [eq_5]; exact hV_q_3.pI ka0 (show sx_in 0 (0) 500 from ⟨by decide, by decide⟩)
  have hF_q_5 : sx_fr h L (fun a => h.1 a = 12) q q_5 := hF_q_3.tr (by rw [eq_5]; exact sx_fr.pI (show h.1 a0 = 12 from by omega))
  have z_6 : q_5.1 a0 6 = 0 := by rw [eq_5]; exact sg_pI_e
  have hK_q_5 : sx_kf a0 [5, 10, 6, 7, 8, 9, 11, 12, 13] q q_5 := hK_q_3.tr (by rw [eq_5]; exact sx_kf.pI (by decide))
  refine wa_aload_n B dX12_begins_15 rfl 0 rfl ?_
  refine wa_callVv B (x := (RX12, TX12, 51)) (As := []) (rest := []) (k_X12_go l dC dI h L hN q_5 hV_q_5 (a0 := a0) ha0 ka0  ) (cwV 0 B.1.2.2.2.2 gX12_begins_X12_go rfl rfl rfl (by decide +kernel) ⟨Nat.le_of_ble_eq_true rfl, Nat.le_of_ble_eq_true rfl⟩) ha0 ka0 (by decide) rfl rfl rfl (Nat.le_of_ble_eq_true rfl) dX12_begins_16 (fun q_7 w_8 => ?_)
  obtain ⟨hV_q_7, h2_q_7, h3_q_7, mN_q_7⟩ := w_8
  have hF_q_7 : sx_fr h L (fun a => h.1 a = 12) q q_7 := hF_q_5.tr (h2_q_7.mono (fun a (z : h.1 a = 12) => (show h.1 a = 12 from by omega)))
  have hK_q_7 : sx_kf a0 [5, 10, 6, 7, 8, 9, 11, 12, 13] q q_7 := hK_q_5.tr (h3_q_7.mono (by decide))
  exact hret _ _ _ dX12_begins_19 ⟨hV_q_7, hF_q_7, hK_q_7, mN_q_7⟩
theorem iq_X12_takes_X12 : ∀ w ∈ wsX120, w ∈ wsX12_takes := fun _ h => List.mem_cons_of_mem _ (List.mem_append_right _ h)
set_option maxHeartbeats 4000000 in
set_option maxRecDepth 100000 in
theorem k_X12_takes (l : Launch) (dC : Nat → ClassId) (dI : Nat → Nat → Nat) (h : Sh) (L : List Nat) (hN : sx_nd L) (q : Sg) (hV : sx_V h L q) {a0 : Nat} (ha0 : a0 ∈ L) (ka0 : h.1 a0 = 12) (n1 : Int32) (n2 : Int32)   (hy0 : 0 ≤ n1.toInt) (hy1 : n1.toInt ≤ 500) (hy2 : n2.toInt = 0 ∨ n2.toInt = 1) : CMv l dC dI h L yX12_takes wsX12_takes ({ frames := 4, cells := 0, slots := 0, locals := 87 } : Room) q [.ref a0, .int n1, .int n2] (fun q' => sx_V h L q' ∧ sx_fr h L (fun a => h.1 a = 12 ∨ h.1 a = 113) q q' ∧ sx_kf a0 [2, 4, 5, 10, 6, 7, 8, 9, 11, 12, 13] q q' ∧ mv_N a0 q' ∧ ((q'.1 a0 2).toInt = 0)) := by
  refine cm_v (cc := cX12_takes) (mL := 4) (own := RX12) hN (by decide) rfl rfl (Nat.le_of_ble_eq_true rfl) (fun Z B hret => ?_)
  have hF : sx_fr h L (fun a => h.1 a = 12 ∨ h.1 a = 113) q q := sx_fr.rf
  have hK : sx_kf a0 [2, 4, 5, 10, 6, 7, 8, 9, 11, 12, 13] q q := sx_kf.rf
  show WA l dC dI h L ({ frames := 4, cells := 0, slots := 0, locals := 87 } : Room) 4 Z q 0 [(0, .ref a0), (1, .int n1), (2, .int n2)] []
  refine wa_aload_n B dX12_takes_0 rfl 0 rfl ?_
  refine wa_aload_n B dX12_takes_1 rfl 0 rfl ?_
  refine wa_getI B (C := RX12) (T := TX12) (N := 51) iq_X12_takes_X12 ha0 ka0 (by decide) rfl 2 (by decide) (by decide) (by decide +kernel) rfl (by decide) (v := (q.1 a0 2)) rfl dX12_takes_2 ?_
  have g_1 : (0 : Int) ≤ (q.1 a0 2).toInt ∧ (q.1 a0 2).toInt ≤ 440 := hV.int ha0 ka0 2
  refine wa_putI B (C := RX12) (T := TX12) (N := 51) iq_X12_takes_X12 ha0 ka0 (by decide) rfl 4 (by decide) (by decide) (by decide +kernel) rfl (by decide) (v := (q.1 a0 2)) (ty := .int) tyX12 tyX12_ok nmX12 rfl (by decide +kernel) rfl rfl dX12_takes_5 (fun q_2 eq_2 => ?_)
  have hV_q_2 : sx_V h L q_2 := by rw [eq_2]; exact hV.pI ka0 (show sx_in (q.1 a0 2) (0) 500 from ⟨by omega, by omega⟩)
  have hF_q_2 : sx_fr h L (fun a => h.1 a = 12 ∨ h.1 a = 113) q q_2 := hF.tr (by rw [eq_2]; exact sx_fr.pI (show h.1 a0 = 12 ∨ h.1 a0 = 113 from by omega))
  have z_3 : q_2.1 a0 4 = (q.1 a0 2) := by rw [eq_2]; exact sg_pI_e
  have hK_q_2 : sx_kf a0 [2, 4, 5, 10, 6, 7, 8, 9, 11, 12, 13] q q_2 := hK.tr (by rw [eq_2]; exact sx_kf.pI (by decide))
  refine wa_aload_n B dX12_takes_8 rfl 0 rfl ?_
  refine wa_iconst B 0 dX12_takes_9 (by decide) ?_
  refine wa_putI B (C := RX12) (T := TX12) (N := 51) iq_X12_takes_X12 ha0 ka0 (by decide) rfl 2 (by decide) (by decide) (by decide +kernel) rfl (by decide) (v := 0) (ty := .int) tyX12 tyX12_ok nmX12 rfl (by decide +kernel) rfl rfl dX12_takes_10 (fun q_4 eq_4 => ?_)
  have hV_q_4 : sx_V h L q_4 := by rw [eq_4]; exact hV_q_2.pI ka0 (show sx_in 0 (0) 440 from ⟨by decide, by decide⟩)
  have hF_q_4 : sx_fr h L (fun a => h.1 a = 12 ∨ h.1 a = 113) q q_4 := hF_q_2.tr (by rw [eq_4]; exact sx_fr.pI (show h.1 a0 = 12 ∨ h.1 a0 = 113 from by omega))
  have z_5 : q_4.1 a0 2 = 0 := by rw [eq_4]; exact sg_pI_e
  have hK_q_4 : sx_kf a0 [2, 4, 5, 10, 6, 7, 8, 9, 11, 12, 13] q q_4 := hK_q_2.tr (by rw [eq_4]; exact sx_kf.pI (by decide))
  refine wa_iconst B 0 dX12_takes_13 (by decide) ?_
  refine wa_istore_n B [(3, .int 0), (0, .ref a0), (1, .int n1), (2, .int n2)] dX12_takes_14 rfl (by decide) rfl ?_
  have z_8 : q_4.1 a0 4 = (q.1 a0 2) := ((show q_4.1 a0 4 = q_2.1 a0 4 from by rw [eq_4]; exact sg_pI_k (by decide))).trans (z_3)
  have Lp_15_11 : ∀ (n : Nat) (v_6 : Int32) (q_7 : Sg), sx_V h L q_7 → sx_fr h L (fun a => h.1 a = 12 ∨ h.1 a = 113) q q_7 → sx_kf a0 [2, 4, 5, 10, 6, 7, 8, 9, 11, 12, 13] q q_7 → q_7.1 a0 2 = 0 → q_7.1 a0 4 = (q.1 a0 2) → 0 ≤ v_6.toInt → (q_7.1 a0 4).toInt ≤ 440 → ((q_7.1 a0 4).toInt - v_6.toInt : Int).toNat < n → WA l dC dI h L ({ frames := 4, cells := 0, slots := 0, locals := 87 } : Room) 4 Z q_7 15 [(3, .int v_6), (0, .ref a0), (1, .int n1), (2, .int n2)] [] := by
    intro n
    induction n with
    | zero =>
      intro v_6 q_7 hV_q_7 hF_q_7 hK_q_7 p0_q_7 p1_q_7 x_9 x_10 hn
      exact absurd hn (Nat.not_lt_zero _)
    | succ n ih_13 =>
      intro v_6 q_7 hV_q_7 hF_q_7 hK_q_7 p0_q_7 p1_q_7 x_9 x_10 hn
      have y_12 : (q_7.1 a0 4).toInt = (q.1 a0 2).toInt := by rw [p1_q_7]
      refine wa_iload_n B dX12_takes_15 rfl 0 rfl ?_
      refine wa_aload_n B dX12_takes_16 rfl 1 rfl ?_
      refine wa_getI B (C := RX12) (T := TX12) (N := 51) iq_X12_takes_X12 ha0 ka0 (by decide) rfl 4 (by decide) (by decide) (by decide +kernel) rfl (by decide) (v := (q.1 a0 2)) p1_q_7 dX12_takes_17 ?_
      have g_14 : (0 : Int) ≤ (q.1 a0 2).toInt ∧ (q.1 a0 2).toInt ≤ 500 := by rw [← p1_q_7]; exact hV_q_7.int ha0 ka0 4
      refine wa_icmp_ge B 41 dX12_takes_20 (by decide) (fun (t_15 : (q.1 a0 2).toInt ≤ v_6.toInt) => ?_) (fun (t_15 : ¬ (q.1 a0 2).toInt ≤ v_6.toInt) => ?_)
      · refine wa_aload_n B dX12_takes_41 rfl 1 rfl ?_
        refine wa_iload_n B dX12_takes_42 rfl 2 rfl ?_
        refine wa_iload_n B dX12_takes_43 rfl 3 rfl ?_
        refine wa_callVv B (x := (RX12, TX12, 51)) (As := [.int n1, .int n2]) (rest := []) (k_X12_begins l dC dI h L hN q_7 hV_q_7 (a0 := a0) ha0 ka0 n1 n2  (by first | assumption | omega | decide) (by first | assumption | omega | decide) (by first | assumption | omega | decide)) (cwV 2 B.1.2.2.2.2 gX12_takes_X12_begins rfl rfl rfl (by decide +kernel) ⟨Nat.le_of_ble_eq_true rfl, Nat.le_of_ble_eq_true rfl⟩) ha0 ka0 (by decide) rfl rfl rfl (Nat.le_of_ble_eq_true rfl) dX12_takes_44 (fun q_16 w_17 => ?_)
        obtain ⟨hV_q_16, h2_q_16, h3_q_16, mN_q_16⟩ := w_17
        have hF_q_16 : sx_fr h L (fun a => h.1 a = 12 ∨ h.1 a = 113) q q_16 := hF_q_7.tr (h2_q_16.mono (fun a (z : h.1 a = 12) => (show h.1 a = 12 ∨ h.1 a = 113 from by omega)))
        have hK_q_16 : sx_kf a0 [2, 4, 5, 10, 6, 7, 8, 9, 11, 12, 13] q q_16 := hK_q_7.tr (h3_q_16.mono (by decide))
        have z_18 : q_16.1 a0 2 = 0 := (h3_q_16.1 2 (by decide)).trans (p0_q_7)
        have y_19 : (q_16.1 a0 2).toInt = 0 := by rw [z_18]; rfl
        exact hret _ _ _ dX12_takes_47 ⟨hV_q_16, hF_q_16, hK_q_16, mN_q_16, (by first | omega | (refine ⟨?_, ?_⟩ <;> omega) | trivial)⟩
      · refine wa_aload_n B dX12_takes_23 rfl 1 rfl ?_
        obtain ⟨a_20, ea_20, ha_20, ka_20, la_20⟩ := hV_q_7.refn (n := 500) (t := 113) ha0 ka0 3 rfl (by decide) rfl (by decide)
        refine wa_getR B (C := RX12) (T := TX12) (N := 51) iq_X12_takes_X12 ha0 ka0 (by decide) rfl 3 (by decide) (by decide) (by decide +kernel) rfl (fun _ _ _ => rfl) (v := a_20) ea_20 dX12_takes_24 ?_
        refine wa_iload_n B dX12_takes_27 rfl 0 rfl ?_
        refine wa_aload_n B dX12_takes_28 rfl 1 rfl ?_
        obtain ⟨a_21, ea_21, ha_21, ka_21, la_21⟩ := hV_q_7.refn (n := 440) (t := 111) ha0 ka0 1 rfl (by decide) rfl (by decide)
        refine wa_getR B (C := RX12) (T := TX12) (N := 51) iq_X12_takes_X12 ha0 ka0 (by decide) rfl 1 (by decide) (by decide) (by decide +kernel) rfl (fun _ _ _ => rfl) (v := a_21) ea_21 dX12_takes_29 ?_
        refine wa_iload_n B dX12_takes_32 rfl 0 rfl ?_
        refine wa_iaload B ha_21 ka_21 (by decide) (by decide) (show 0 ≤ v_6.toInt by omega) (show v_6.toInt < (h.2.1 a_21 : Int) by omega) (v := (q_7.2.2.2.1 a_21 (v_6 : Int32).toNatClampNeg)) rfl dX12_takes_33 ?_
        have g_22 : (0 : Int) ≤ ((q_7.2.2.2.1 a_21 (v_6 : Int32).toNatClampNeg)).toInt ∧ ((q_7.2.2.2.1 a_21 (v_6 : Int32).toNatClampNeg)).toInt ≤ 255 := hV_q_7.cnt ha_21 ka_21 _
        refine wa_iastore B ha_20 ka_20 (by decide) (by decide) (show 0 ≤ v_6.toInt by omega) (show v_6.toInt < (h.2.1 a_20 : Int) by omega) dX12_takes_34 (fun q_23 eq_23 => ?_)
        have hV_q_23 : sx_V h L q_23 := by rw [eq_23]; exact hV_q_7.up1 ha_20 ka_20 (show sx_in ((q_7.2.2.2.1 a_21 (v_6 : Int32).toNatClampNeg)) (0) 255 from ⟨by omega, by omega⟩)
        have hF_q_23 : sx_fr h L (fun a => h.1 a = 12 ∨ h.1 a = 113) q q_23 := hF_q_7.tr (by rw [eq_23]; exact sx_fr.pG (show h.1 a_20 = 100 ∨ (h.1 a_20 = 12 ∨ h.1 a_20 = 113) from by omega))
        have z_24 : q_23.2.2.2.1 a_20 = (upd (q_7.2.2.2.1 a_20) (v_6 : Int32).toNatClampNeg ((q_7.2.2.2.1 a_21 (v_6 : Int32).toNatClampNeg))) := by rw [eq_23, sg_pG_e]
        have z_25 : q_23.2.2.2.1 a_20 (v_6 : Int32).toNatClampNeg = (q_7.2.2.2.1 a_21 (v_6 : Int32).toNatClampNeg) := by rw [eq_23, sg_pG_e]; exact if_pos rfl
        have hK_q_23 : sx_kf a0 [2, 4, 5, 10, 6, 7, 8, 9, 11, 12, 13] q q_23 := hK_q_7.tr (sx_kf.eq (by rw [eq_23]; rfl) (by rw [eq_23]; rfl))
        obtain ⟨v_26, ev_26⟩ : ∃ z : Int32, z = v_6 + 1 := ⟨_, rfl⟩
        refine wa_iinc B [(3, .int v_26), (0, .ref a0), (1, .int n1), (2, .int n2)] v_26 dX12_takes_35 0 rfl (by rw [ev_26]; rfl) (by decide) rfl ?_
        refine wa_goto B 15 dX12_takes_38 (by decide) ?_
        have tv_26 : v_26.toInt = v_6.toInt + 1 := by have b0 := zx_bd v_6; rw [ev_26]; exact zx_add (show (-2147483648 : Int) ≤ v_6.toInt + 1 by omega) (show v_6.toInt + 1 < (2147483648 : Int) by omega)
        have z_27 : q_23.1 a0 4 = (q.1 a0 2) := ((show q_23.1 a0 4 = q_7.1 a0 4 from by rw [eq_23]; rfl)).trans (p1_q_7)
        have y_28 : (q_23.1 a0 4).toInt = (q.1 a0 2).toInt := by rw [z_27]
        have z_29 : q_23.1 a0 2 = 0 := ((show q_23.1 a0 2 = q_7.1 a0 2 from by rw [eq_23]; rfl)).trans (p0_q_7)
        exact ih_13 v_26 q_23 hV_q_23 hF_q_23 hK_q_23 z_29 z_27 (show 0 ≤ v_26.toInt from by first | assumption | omega | decide) (show (q_23.1 a0 4).toInt ≤ 440 from by first | assumption | omega | decide) (show ((q_23.1 a0 4).toInt - v_26.toInt : Int).toNat < _ from by omega)
  have y_30 : (q_4.1 a0 4).toInt = (q.1 a0 2).toInt := by rw [z_8]
  exact Lp_15_11 _ 0 q_4 hV_q_4 hF_q_4 hK_q_4 z_5 z_8 (show 0 ≤ 0 from by first | assumption | omega | decide) (show (q_4.1 a0 4).toInt ≤ 440 from by first | assumption | omega | decide) (Nat.lt_succ_self _)
