theorem iq_X12_fills_X12 : ∀ w ∈ wsX120, w ∈ wsX12_fills := fun _ h => List.mem_cons_of_mem _ (List.mem_append_right _ h)
set_option maxHeartbeats 4000000 in
set_option maxRecDepth 100000 in
theorem k_X12_fills (l : Launch) (dC : Nat → ClassId) (dI : Nat → Nat → Nat) (h : Sh) (L : List Nat) (hN : sx_nd L) (q : Sg) (hV : sx_V h L q) {a0 : Nat} (ha0 : a0 ∈ L) (ka0 : h.1 a0 = 12) (n1 : Int32) (n2 : Int32) {m18 : Nat} (em18 : q.2.2.1 a0 18 = m18) {m19 : Nat} (em19 : q.2.2.1 a0 19 = m19) {m23 : Nat} (em23 : q.2.2.1 a0 23 = m23) {m25 : Nat} (em25 : q.2.2.1 a0 25 = m25) {m26 : Nat} (em26 : q.2.2.1 a0 26 = m26) {m27 : Nat} (em27 : q.2.2.1 a0 27 = m27) {m28 : Nat} (em28 : q.2.2.1 a0 28 = m28) {m29 : Nat} (em29 : q.2.2.1 a0 29 = m29) {m30 : Nat} (em30 : q.2.2.1 a0 30 = m30) {m34 : Nat} (em34 : q.2.2.1 a0 34 = m34) {m35 : Nat} (em35 : q.2.2.1 a0 35 = m35) (mS : mv_S m23 m26 m28 m29 q)  (hy0 : 0 ≤ n1.toInt) (hy1 : n1.toInt ≤ 8) : CMi l dC dI h L yX12_fills wsX12_fills ({ frames := 1, cells := 0, slots := 0, locals := 24 } : Room) q [.ref a0, .int n1, .int n2] (fun r q' => sx_V h L q' ∧ sx_fr h L (fun a => h.1 a = 144 ∨ h.1 a = 245) q q' ∧ mv_S m23 m26 m28 m29 q' ∧ (r.toInt = 0 ∨ r.toInt = 1)) := by
  refine cm_z (cc := cX12_fills) (mL := 12) (own := RX12) hN (by decide) rfl rfl (Nat.le_of_ble_eq_true rfl) (fun Z B hret => ?_)
  have hF : sx_fr h L (fun a => h.1 a = 144 ∨ h.1 a = 245) q q := sx_fr.rf
  obtain ⟨hm18, km18, lm18⟩ : m18 ∈ L ∧ h.1 m18 = 128 ∧ h.2.1 m18 = 6 := by obtain ⟨r9, e9, z1, z2, z3⟩ := hV.refn (t := 128) (n := 6) ha0 ka0 18 rfl (by decide) rfl (by decide); rw [← em18, e9]; exact ⟨z1, z2, z3⟩
  obtain ⟨hm19, km19, lm19⟩ : m19 ∈ L ∧ h.1 m19 = 129 ∧ h.2.1 m19 = 30 := by obtain ⟨r9, e9, z1, z2, z3⟩ := hV.refn (t := 129) (n := 30) ha0 ka0 19 rfl (by decide) rfl (by decide); rw [← em19, e9]; exact ⟨z1, z2, z3⟩
  obtain ⟨hm23, km23, lm23⟩ : m23 ∈ L ∧ h.1 m23 = 133 ∧ h.2.1 m23 = 9 := by obtain ⟨r9, e9, z1, z2, z3⟩ := hV.refn (t := 133) (n := 9) ha0 ka0 23 rfl (by decide) rfl (by decide); rw [← em23, e9]; exact ⟨z1, z2, z3⟩
  obtain ⟨hm25, km25, lm25⟩ : m25 ∈ L ∧ h.1 m25 = 135 ∧ h.2.1 m25 = 108 := by obtain ⟨r9, e9, z1, z2, z3⟩ := hV.refn (t := 135) (n := 108) ha0 ka0 25 rfl (by decide) rfl (by decide); rw [← em25, e9]; exact ⟨z1, z2, z3⟩
  obtain ⟨hm26, km26, lm26⟩ : m26 ∈ L ∧ h.1 m26 = 136 ∧ h.2.1 m26 = 108 := by obtain ⟨r9, e9, z1, z2, z3⟩ := hV.refn (t := 136) (n := 108) ha0 ka0 26 rfl (by decide) rfl (by decide); rw [← em26, e9]; exact ⟨z1, z2, z3⟩
  obtain ⟨hm27, km27, lm27⟩ : m27 ∈ L ∧ h.1 m27 = 137 ∧ h.2.1 m27 = 9 := by obtain ⟨r9, e9, z1, z2, z3⟩ := hV.refn (t := 137) (n := 9) ha0 ka0 27 rfl (by decide) rfl (by decide); rw [← em27, e9]; exact ⟨z1, z2, z3⟩
  obtain ⟨hm28, km28, lm28⟩ : m28 ∈ L ∧ h.1 m28 = 138 ∧ h.2.1 m28 = 540 := by obtain ⟨r9, e9, z1, z2, z3⟩ := hV.refn (t := 138) (n := 540) ha0 ka0 28 rfl (by decide) rfl (by decide); rw [← em28, e9]; exact ⟨z1, z2, z3⟩
  obtain ⟨hm29, km29, lm29⟩ : m29 ∈ L ∧ h.1 m29 = 139 ∧ h.2.1 m29 = 540 := by obtain ⟨r9, e9, z1, z2, z3⟩ := hV.refn (t := 139) (n := 540) ha0 ka0 29 rfl (by decide) rfl (by decide); rw [← em29, e9]; exact ⟨z1, z2, z3⟩
  obtain ⟨hm30, km30, lm30⟩ : m30 ∈ L ∧ h.1 m30 = 140 ∧ h.2.1 m30 = 540 := by obtain ⟨r9, e9, z1, z2, z3⟩ := hV.refn (t := 140) (n := 540) ha0 ka0 30 rfl (by decide) rfl (by decide); rw [← em30, e9]; exact ⟨z1, z2, z3⟩
  obtain ⟨hm34, km34, lm34⟩ : m34 ∈ L ∧ h.1 m34 = 144 ∧ h.2.1 m34 = 4 := by obtain ⟨r9, e9, z1, z2, z3⟩ := hV.refn (t := 144) (n := 4) ha0 ka0 34 rfl (by decide) rfl (by decide); rw [← em34, e9]; exact ⟨z1, z2, z3⟩
  obtain ⟨hm35, km35, lm35⟩ : m35 ∈ L ∧ h.1 m35 = 245 ∧ h.2.1 m35 = 12 := by obtain ⟨r9, e9, z1, z2, z3⟩ := hV.refn (t := 245) (n := 12) ha0 ka0 35 rfl (by decide) rfl (by decide); rw [← em35, e9]; exact ⟨z1, z2, z3⟩
  show WA l dC dI h L ({ frames := 1, cells := 0, slots := 0, locals := 24 } : Room) 12 Z q 0 [(0, .ref a0), (1, .int n1), (2, .int n2)] []
  refine wa_iload_n B dX12_fills_0 rfl 2 rfl ?_
  refine wa_istore_n B [(3, .int n2), (0, .ref a0), (1, .int n1), (2, .int n2)] dX12_fills_1 rfl (by decide) rfl ?_
  refine wa_aload_n B dX12_fills_2 rfl 1 rfl ?_
  refine wa_getR B (C := RX12) (T := TX12) (N := 51) iq_X12_fills_X12 ha0 ka0 (by decide) rfl 27 (by decide) (by decide) (by decide +kernel) rfl (fun _ _ _ => rfl) (v := m27) em27 dX12_fills_3 ?_
  refine wa_iload_n B dX12_fills_6 rfl 2 rfl ?_
  refine wa_iaload B hm27 km27 (by decide) (by decide) (show 0 ≤ n1.toInt by omega) (show n1.toInt < (h.2.1 m27 : Int) by omega) (v := (q.2.2.2.1 m27 (n1 : Int32).toNatClampNeg)) rfl dX12_fills_7 ?_
  have g_1 : (0 : Int) ≤ ((q.2.2.2.1 m27 (n1 : Int32).toNatClampNeg)).toInt ∧ ((q.2.2.2.1 m27 (n1 : Int32).toNatClampNeg)).toInt ≤ 4 := hV.cnt hm27 km27 _
  refine wa_iconst B 1 dX12_fills_8 (by decide) ?_
  refine wa_isub B dX12_fills_9 (fun v_2 ev_2 => ?_)
  refine wa_istore B [(4, .int v_2), (3, .int n2), (0, .ref a0), (1, .int n1), (2, .int n2)] dX12_fills_10 (by decide) rfl ?_
  have Lp_12_8 : ∀ (n : Nat) (v_3 : Int32) (v_4 : Int32) (q_5 : Sg), sx_V h L q_5 → sx_fr h L (fun a => h.1 a = 144 ∨ h.1 a = 245) q q_5 → mv_S m23 m26 m28 m29 q_5 → q_5.2.2.1 a0 18 = m18 → q_5.2.2.1 a0 19 = m19 → q_5.2.2.1 a0 23 = m23 → q_5.2.2.1 a0 25 = m25 → q_5.2.2.1 a0 26 = m26 → q_5.2.2.1 a0 27 = m27 → q_5.2.2.1 a0 28 = m28 → q_5.2.2.1 a0 29 = m29 → q_5.2.2.1 a0 30 = m30 → q_5.2.2.1 a0 34 = m34 → q_5.2.2.1 a0 35 = m35 → q_5.2.2.2.1 m18 = (q.2.2.2.1 m18) → q_5.2.2.2.1 m19 = (q.2.2.2.1 m19) → q_5.2.2.2.1 m23 = (q.2.2.2.1 m23) → q_5.2.2.2.1 m25 = (q.2.2.2.1 m25) → q_5.2.2.2.1 m26 = (q.2.2.2.1 m26) → q_5.2.2.2.1 m27 = (q.2.2.2.1 m27) → q_5.2.2.2.1 m28 = (q.2.2.2.1 m28) → q_5.2.2.2.1 m29 = (q.2.2.2.1 m29) → q_5.2.2.2.1 m30 = (q.2.2.2.1 m30) → q_5.2.2.2.2 m35 = (q.2.2.2.2 m35) → (-1) ≤ v_3.toInt → v_3.toInt ≤ 3 → (v_3.toInt + 1 : Int).toNat < n → WA l dC dI h L ({ frames := 1, cells := 0, slots := 0, locals := 24 } : Room) 12 Z q_5 12 [(4, .int v_3), (3, .int v_4), (0, .ref a0), (1, .int n1), (2, .int n2)] [] := by
    intro n
    induction n with
    | zero =>
      intro v_3 v_4 q_5 hV_q_5 hF_q_5 mS_q_5 p0_q_5 p1_q_5 p2_q_5 p3_q_5 p4_q_5 p5_q_5 p6_q_5 p7_q_5 p8_q_5 p9_q_5 p10_q_5 p11_q_5 p12_q_5 p13_q_5 p14_q_5 p15_q_5 p16_q_5 p17_q_5 p18_q_5 p19_q_5 p20_q_5 x_6 x_7 hn
      exact absurd hn (Nat.not_lt_zero _)
    | succ n ih_9 =>
      intro v_3 v_4 q_5 hV_q_5 hF_q_5 mS_q_5 p0_q_5 p1_q_5 p2_q_5 p3_q_5 p4_q_5 p5_q_5 p6_q_5 p7_q_5 p8_q_5 p9_q_5 p10_q_5 p11_q_5 p12_q_5 p13_q_5 p14_q_5 p15_q_5 p16_q_5 p17_q_5 p18_q_5 p19_q_5 p20_q_5 x_6 x_7 hn
      refine wa_iload B dX12_fills_12 0 rfl ?_
      refine wa_if_lt B 39 dX12_fills_14 (by decide) (fun (t_10 : v_3.toInt < 0) => ?_) (fun (t_10 : ¬ v_3.toInt < 0) => ?_)
      · refine wa_iconst B 0 dX12_fills_39 (by decide) ?_
        refine wa_istore B [(4, .int 0), (3, .int v_4), (0, .ref a0), (1, .int n1), (2, .int n2)] dX12_fills_40 (by decide) rfl ?_
        refine wa_iconst B 0 dX12_fills_42 (by decide) ?_
        refine wa_istore B [(5, .int 0), (4, .int 0), (3, .int v_4), (0, .ref a0), (1, .int n1), (2, .int n2)] dX12_fills_43 (by decide) rfl ?_
        have Lp_45_16 : ∀ (n : Nat) (v_11 : Int32) (v_12 : Int32) (q_13 : Sg), sx_V h L q_13 → sx_fr h L (fun a => h.1 a = 144 ∨ h.1 a = 245) q q_13 → mv_S m23 m26 m28 m29 q_13 → q_13.2.2.1 a0 18 = m18 → q_13.2.2.1 a0 19 = m19 → q_13.2.2.1 a0 23 = m23 → q_13.2.2.1 a0 25 = m25 → q_13.2.2.1 a0 26 = m26 → q_13.2.2.1 a0 27 = m27 → q_13.2.2.1 a0 28 = m28 → q_13.2.2.1 a0 29 = m29 → q_13.2.2.1 a0 30 = m30 → q_13.2.2.1 a0 34 = m34 → q_13.2.2.1 a0 35 = m35 → q_13.2.2.2.1 m18 = (q.2.2.2.1 m18) → q_13.2.2.2.1 m19 = (q.2.2.2.1 m19) → q_13.2.2.2.1 m23 = (q.2.2.2.1 m23) → q_13.2.2.2.1 m25 = (q.2.2.2.1 m25) → q_13.2.2.2.1 m26 = (q.2.2.2.1 m26) → q_13.2.2.2.1 m27 = (q.2.2.2.1 m27) → q_13.2.2.2.1 m28 = (q.2.2.2.1 m28) → q_13.2.2.2.1 m29 = (q.2.2.2.1 m29) → q_13.2.2.2.1 m30 = (q.2.2.2.1 m30) → 0 ≤ v_11.toInt → v_12.toInt = ((mv_s (q.2.2.2.1 m28) (q.2.2.2.1 m29) (q.2.2.2.1 m26) n1.toNatClampNeg (v_11).toNatClampNeg : Nat) : Int) → (12 - v_11.toInt : Int).toNat < n → WA l dC dI h L ({ frames := 1, cells := 0, slots := 0, locals := 24 } : Room) 12 Z q_13 45 [(5, .int v_11), (4, .int v_12), (3, .int v_4), (0, .ref a0), (1, .int n1), (2, .int n2)] [] := by
          intro n
          induction n with
          | zero =>
            intro v_11 v_12 q_13 hV_q_13 hF_q_13 mS_q_13 p0_q_13 p1_q_13 p2_q_13 p3_q_13 p4_q_13 p5_q_13 p6_q_13 p7_q_13 p8_q_13 p9_q_13 p10_q_13 p11_q_13 p12_q_13 p13_q_13 p14_q_13 p15_q_13 p16_q_13 p17_q_13 p18_q_13 p19_q_13 x_14 x_15 hn
            exact absurd hn (Nat.not_lt_zero _)
          | succ n ih_17 =>
            intro v_11 v_12 q_13 hV_q_13 hF_q_13 mS_q_13 p0_q_13 p1_q_13 p2_q_13 p3_q_13 p4_q_13 p5_q_13 p6_q_13 p7_q_13 p8_q_13 p9_q_13 p10_q_13 p11_q_13 p12_q_13 p13_q_13 p14_q_13 p15_q_13 p16_q_13 p17_q_13 p18_q_13 p19_q_13 x_14 x_15 hn
            refine wa_iload B dX12_fills_45 0 rfl ?_
            refine wa_aload_n B dX12_fills_47 rfl 3 rfl ?_
            refine wa_getR B (C := RX12) (T := TX12) (N := 51) iq_X12_fills_X12 ha0 ka0 (by decide) rfl 23 (by decide) (by decide) (by decide +kernel) rfl (fun _ _ _ => rfl) (v := m23) p2_q_13 dX12_fills_48 ?_
            refine wa_iload_n B dX12_fills_51 rfl 4 rfl ?_
            have z_18 : q_13.2.2.2.1 m23 (n1 : Int32).toNatClampNeg = (q.2.2.2.1 m23 (n1 : Int32).toNatClampNeg) := congrFun p13_q_13 _
            refine wa_iaload B hm23 km23 (by decide) (by decide) (show 0 ≤ n1.toInt by omega) (show n1.toInt < (h.2.1 m23 : Int) by omega) (v := (q.2.2.2.1 m23 (n1 : Int32).toNatClampNeg)) z_18 dX12_fills_52 ?_
            have g_19 : (0 : Int) ≤ ((q.2.2.2.1 m23 (n1 : Int32).toNatClampNeg)).toInt ∧ ((q.2.2.2.1 m23 (n1 : Int32).toNatClampNeg)).toInt ≤ 12 := by rw [← z_18]; exact hV_q_13.cnt hm23 km23 _
            refine wa_icmp_ge B 245 dX12_fills_53 (by decide) (fun (t_20 : ((q.2.2.2.1 m23 (n1 : Int32).toNatClampNeg)).toInt ≤ v_11.toInt) => ?_) (fun (t_20 : ¬ ((q.2.2.2.1 m23 (n1 : Int32).toNatClampNeg)).toInt ≤ v_11.toInt) => ?_)
            · refine wa_iconst B 1 dX12_fills_245 (by decide) ?_
              exact hret _ _ _ _ dX12_fills_246 (Or.inr rfl) ⟨hV_q_13, hF_q_13, mS_q_13, (by have h9 : (1 : Int32).toInt = 1 := rfl; first | omega | (refine ⟨?_, ?_⟩ <;> omega) | trivial)⟩
            · refine wa_bipush B 12 dX12_fills_56 (by decide) ?_
              refine wa_iload_n B dX12_fills_58 rfl 4 rfl ?_
              refine wa_imul B dX12_fills_59 (fun v_21 ev_21 => ?_)
              refine wa_iload B dX12_fills_60 0 rfl ?_
              refine wa_iadd B dX12_fills_62 (fun v_22 ev_22 => ?_)
              refine wa_istore B [(6, .int v_22), (5, .int v_11), (4, .int v_12), (3, .int v_4), (0, .ref a0), (1, .int n1), (2, .int n2)] dX12_fills_63 (by decide) rfl ?_
              have tv_21 : v_21.toInt = 12 * n1.toInt := by have b1 := zx_bd n1; rw [ev_21]; exact zx_mul (show (-2147483648 : Int) ≤ 12 * n1.toInt by omega) (show 12 * n1.toInt < (2147483648 : Int) by omega)
              have tv_22 : v_22.toInt = v_21.toInt + v_11.toInt := by have b0 := zx_bd v_21; have b1 := zx_bd v_11; rw [ev_22]; exact zx_add (show (-2147483648 : Int) ≤ v_21.toInt + v_11.toInt by omega) (show v_21.toInt + v_11.toInt < (2147483648 : Int) by omega)
              refine wa_aload_n B dX12_fills_65 rfl 4 rfl ?_
              refine wa_getR B (C := RX12) (T := TX12) (N := 51) iq_X12_fills_X12 ha0 ka0 (by decide) rfl 25 (by decide) (by decide) (by decide +kernel) rfl (fun _ _ _ => rfl) (v := m25) p3_q_13 dX12_fills_66 ?_
              refine wa_iload B dX12_fills_69 0 rfl ?_
              have z_23 : q_13.2.2.2.1 m25 (v_22 : Int32).toNatClampNeg = (q.2.2.2.1 m25 (v_22 : Int32).toNatClampNeg) := congrFun p14_q_13 _
              refine wa_iaload B hm25 km25 (by decide) (by decide) (show 0 ≤ v_22.toInt by omega) (show v_22.toInt < (h.2.1 m25 : Int) by omega) (v := (q.2.2.2.1 m25 (v_22 : Int32).toNatClampNeg)) z_23 dX12_fills_71 ?_
              have g_24 : (0 : Int) ≤ ((q.2.2.2.1 m25 (v_22 : Int32).toNatClampNeg)).toInt ∧ ((q.2.2.2.1 m25 (v_22 : Int32).toNatClampNeg)).toInt ≤ 2 := by rw [← z_23]; exact hV_q_13.cnt hm25 km25 _
              refine wa_istore B [(7, .int ((q.2.2.2.1 m25 (v_22 : Int32).toNatClampNeg))), (6, .int v_22), (5, .int v_11), (4, .int v_12), (3, .int v_4), (0, .ref a0), (1, .int n1), (2, .int n2)] dX12_fills_72 (by decide) rfl ?_
              refine wa_aload_n B dX12_fills_74 rfl 5 rfl ?_
              refine wa_getR B (C := RX12) (T := TX12) (N := 51) iq_X12_fills_X12 ha0 ka0 (by decide) rfl 35 (by decide) (by decide) (by decide +kernel) rfl (fun _ _ _ => rfl) (v := m35) p10_q_13 dX12_fills_75 ?_
              refine wa_iload B dX12_fills_78 2 rfl ?_
              refine wa_lconst B 0 dX12_fills_80 (by decide) ?_
              refine wa_lastore B hm35 km35 (by decide) (by decide) (show 0 ≤ v_11.toInt by omega) (show v_11.toInt < (h.2.1 m35 : Int) by omega) dX12_fills_81 (fun q_25 eq_25 => ?_)
              have hV_q_25 : sx_V h L q_25 := by rw [eq_25]; exact hV_q_13.pL
              have hF_q_25 : sx_fr h L (fun a => h.1 a = 144 ∨ h.1 a = 245) q q_25 := hF_q_13.tr (by rw [eq_25]; exact sx_fr.pL (show h.1 m35 = 200 ∨ (h.1 m35 = 144 ∨ h.1 m35 = 245) from by omega))
              have z_26 : q_25.2.2.2.2 m35 = (vp_updL (q_13.2.2.2.2 m35) (v_11 : Int32).toNatClampNeg 0) := by rw [eq_25, sg_pL_e]
              have z_27 : q_25.2.2.2.2 m35 (v_11 : Int32).toNatClampNeg = 0 := by rw [eq_25, sg_pL_e]; exact if_pos rfl
              have mS_q_25 : mv_S m23 m26 m28 m29 q_25 := mv_S.eq ((show q_25.2.2.2.1 m23 = q_13.2.2.2.1 m23 from by rw [eq_25]; rfl)) ((show q_25.2.2.2.1 m26 = q_13.2.2.2.1 m26 from by rw [eq_25]; rfl)) ((show q_25.2.2.2.1 m28 = q_13.2.2.2.1 m28 from by rw [eq_25]; rfl)) ((show q_25.2.2.2.1 m29 = q_13.2.2.2.1 m29 from by rw [eq_25]; rfl)) mS_q_13
              refine wa_iconst B 0 dX12_fills_82 (by decide) ?_
              refine wa_istore B [(8, .int 0), (7, .int ((q.2.2.2.1 m25 (v_22 : Int32).toNatClampNeg))), (6, .int v_22), (5, .int v_11), (4, .int v_12), (3, .int v_4), (0, .ref a0), (1, .int n1), (2, .int n2)] dX12_fills_83 (by decide) rfl ?_
              have z_28 : q_25.2.2.2.1 m26 = (q.2.2.2.1 m26) := ((show q_25.2.2.2.1 m26 = q_13.2.2.2.1 m26 from by rw [eq_25]; rfl)).trans (p15_q_13)
              have z_29 : q_25.2.2.2.1 m26 (v_22 : Int32).toNatClampNeg = (q.2.2.2.1 m26 (v_22 : Int32).toNatClampNeg) := congrFun z_28 _
              have g_30 : 0 ≤ ((q.2.2.2.1 m26 (v_22 : Int32).toNatClampNeg)).toInt ∧ ((q.2.2.2.1 m26 (v_22 : Int32).toNatClampNeg)).toInt ≤ 5 := by rw [← z_29]; exact hV_q_25.cnt hm26 km26 _
              have z_34 : q_25.2.2.1 a0 18 = m18 := ((show q_25.2.2.1 a0 18 = q_13.2.2.1 a0 18 from by rw [eq_25]; rfl)).trans (p0_q_13)
              have z_35 : q_25.2.2.1 a0 19 = m19 := ((show q_25.2.2.1 a0 19 = q_13.2.2.1 a0 19 from by rw [eq_25]; rfl)).trans (p1_q_13)
              have z_36 : q_25.2.2.1 a0 23 = m23 := ((show q_25.2.2.1 a0 23 = q_13.2.2.1 a0 23 from by rw [eq_25]; rfl)).trans (p2_q_13)
              have z_37 : q_25.2.2.1 a0 25 = m25 := ((show q_25.2.2.1 a0 25 = q_13.2.2.1 a0 25 from by rw [eq_25]; rfl)).trans (p3_q_13)
              have z_38 : q_25.2.2.1 a0 26 = m26 := ((show q_25.2.2.1 a0 26 = q_13.2.2.1 a0 26 from by rw [eq_25]; rfl)).trans (p4_q_13)
              have z_39 : q_25.2.2.1 a0 27 = m27 := ((show q_25.2.2.1 a0 27 = q_13.2.2.1 a0 27 from by rw [eq_25]; rfl)).trans (p5_q_13)
              have z_40 : q_25.2.2.1 a0 28 = m28 := ((show q_25.2.2.1 a0 28 = q_13.2.2.1 a0 28 from by rw [eq_25]; rfl)).trans (p6_q_13)
              have z_41 : q_25.2.2.1 a0 29 = m29 := ((show q_25.2.2.1 a0 29 = q_13.2.2.1 a0 29 from by rw [eq_25]; rfl)).trans (p7_q_13)
              have z_42 : q_25.2.2.1 a0 30 = m30 := ((show q_25.2.2.1 a0 30 = q_13.2.2.1 a0 30 from by rw [eq_25]; rfl)).trans (p8_q_13)
              have z_43 : q_25.2.2.1 a0 34 = m34 := ((show q_25.2.2.1 a0 34 = q_13.2.2.1 a0 34 from by rw [eq_25]; rfl)).trans (p9_q_13)
              have z_44 : q_25.2.2.1 a0 35 = m35 := ((show q_25.2.2.1 a0 35 = q_13.2.2.1 a0 35 from by rw [eq_25]; rfl)).trans (p10_q_13)
              have z_45 : q_25.2.2.2.1 m18 = (q.2.2.2.1 m18) := ((show q_25.2.2.2.1 m18 = q_13.2.2.2.1 m18 from by rw [eq_25]; rfl)).trans (p11_q_13)
              have z_46 : q_25.2.2.2.1 m19 = (q.2.2.2.1 m19) := ((show q_25.2.2.2.1 m19 = q_13.2.2.2.1 m19 from by rw [eq_25]; rfl)).trans (p12_q_13)
              have z_47 : q_25.2.2.2.1 m23 = (q.2.2.2.1 m23) := ((show q_25.2.2.2.1 m23 = q_13.2.2.2.1 m23 from by rw [eq_25]; rfl)).trans (p13_q_13)
              have z_48 : q_25.2.2.2.1 m25 = (q.2.2.2.1 m25) := ((show q_25.2.2.2.1 m25 = q_13.2.2.2.1 m25 from by rw [eq_25]; rfl)).trans (p14_q_13)
              have z_49 : q_25.2.2.2.1 m27 = (q.2.2.2.1 m27) := ((show q_25.2.2.2.1 m27 = q_13.2.2.2.1 m27 from by rw [eq_25]; rfl)).trans (p16_q_13)
              have z_50 : q_25.2.2.2.1 m28 = (q.2.2.2.1 m28) := ((show q_25.2.2.2.1 m28 = q_13.2.2.2.1 m28 from by rw [eq_25]; rfl)).trans (p17_q_13)
              have z_51 : q_25.2.2.2.1 m29 = (q.2.2.2.1 m29) := ((show q_25.2.2.2.1 m29 = q_13.2.2.2.1 m29 from by rw [eq_25]; rfl)).trans (p18_q_13)
              have z_52 : q_25.2.2.2.1 m30 = (q.2.2.2.1 m30) := ((show q_25.2.2.2.1 m30 = q_13.2.2.2.1 m30 from by rw [eq_25]; rfl)).trans (p19_q_13)
              have Lp_85_56 : ∀ (n : Nat) (v_31 : Int32) (v_32 : Int32) (q_33 : Sg), sx_V h L q_33 → sx_fr h L (fun a => h.1 a = 144 ∨ h.1 a = 245) q q_33 → mv_S m23 m26 m28 m29 q_33 → q_33.2.2.1 a0 18 = m18 → q_33.2.2.1 a0 19 = m19 → q_33.2.2.1 a0 23 = m23 → q_33.2.2.1 a0 25 = m25 → q_33.2.2.1 a0 26 = m26 → q_33.2.2.1 a0 27 = m27 → q_33.2.2.1 a0 28 = m28 → q_33.2.2.1 a0 29 = m29 → q_33.2.2.1 a0 30 = m30 → q_33.2.2.1 a0 34 = m34 → q_33.2.2.1 a0 35 = m35 → q_33.2.2.2.1 m18 = (q.2.2.2.1 m18) → q_33.2.2.2.1 m19 = (q.2.2.2.1 m19) → q_33.2.2.2.1 m23 = (q.2.2.2.1 m23) → q_33.2.2.2.1 m25 = (q.2.2.2.1 m25) → q_33.2.2.2.1 m26 = (q.2.2.2.1 m26) → q_33.2.2.2.1 m27 = (q.2.2.2.1 m27) → q_33.2.2.2.1 m28 = (q.2.2.2.1 m28) → q_33.2.2.2.1 m29 = (q.2.2.2.1 m29) → q_33.2.2.2.1 m30 = (q.2.2.2.1 m30) → 0 ≤ v_31.toInt → v_31.toInt ≤ (q.2.2.2.1 m26 (v_22).toNatClampNeg).toInt → v_32.toInt = ((mv_s (q.2.2.2.1 m28) (q.2.2.2.1 m29) (q.2.2.2.1 m26) n1.toNatClampNeg (v_11).toNatClampNeg + mv_n (q.2.2.2.1 m28) (q.2.2.2.1 m29) (v_22).toNatClampNeg (v_31).toNatClampNeg : Nat) : Int) → (5 - v_31.toInt : Int).toNat < n → WA l dC dI h L ({ frames := 1, cells := 0, slots := 0, locals := 24 } : Room) 12 Z q_33 85 [(8, .int v_31), (7, .int ((q.2.2.2.1 m25 (v_22 : Int32).toNatClampNeg))), (6, .int v_22), (5, .int v_11), (4, .int v_32), (3, .int v_4), (0, .ref a0), (1, .int n1), (2, .int n2)] [] := by
                intro n
                induction n with
                | zero =>
                  intro v_31 v_32 q_33 hV_q_33 hF_q_33 mS_q_33 p0_q_33 p1_q_33 p2_q_33 p3_q_33 p4_q_33 p5_q_33 p6_q_33 p7_q_33 p8_q_33 p9_q_33 p10_q_33 p11_q_33 p12_q_33 p13_q_33 p14_q_33 p15_q_33 p16_q_33 p17_q_33 p18_q_33 p19_q_33 x_53 x_54 x_55 hn
                  exact absurd hn (Nat.not_lt_zero _)
                | succ n ih_57 =>
                  intro v_31 v_32 q_33 hV_q_33 hF_q_33 mS_q_33 p0_q_33 p1_q_33 p2_q_33 p3_q_33 p4_q_33 p5_q_33 p6_q_33 p7_q_33 p8_q_33 p9_q_33 p10_q_33 p11_q_33 p12_q_33 p13_q_33 p14_q_33 p15_q_33 p16_q_33 p17_q_33 p18_q_33 p19_q_33 x_53 x_54 x_55 hn
                  refine wa_iload B dX12_fills_85 0 rfl ?_
                  refine wa_aload_n B dX12_fills_87 rfl 6 rfl ?_
                  refine wa_getR B (C := RX12) (T := TX12) (N := 51) iq_X12_fills_X12 ha0 ka0 (by decide) rfl 26 (by decide) (by decide) (by decide +kernel) rfl (fun _ _ _ => rfl) (v := m26) p4_q_33 dX12_fills_88 ?_
                  refine wa_iload B dX12_fills_91 2 rfl ?_
                  have z_58 : q_33.2.2.2.1 m26 (v_22 : Int32).toNatClampNeg = (q.2.2.2.1 m26 (v_22 : Int32).toNatClampNeg) := congrFun p15_q_33 _
                  refine wa_iaload B hm26 km26 (by decide) (by decide) (show 0 ≤ v_22.toInt by omega) (show v_22.toInt < (h.2.1 m26 : Int) by omega) (v := (q.2.2.2.1 m26 (v_22 : Int32).toNatClampNeg)) z_58 dX12_fills_93 ?_
                  have g_59 : (0 : Int) ≤ ((q.2.2.2.1 m26 (v_22 : Int32).toNatClampNeg)).toInt ∧ ((q.2.2.2.1 m26 (v_22 : Int32).toNatClampNeg)).toInt ≤ 5 := by rw [← z_58]; exact hV_q_33.cnt hm26 km26 _
                  refine wa_icmp_ge B 239 dX12_fills_94 (by decide) (fun (t_60 : ((q.2.2.2.1 m26 (v_22 : Int32).toNatClampNeg)).toInt ≤ v_31.toInt) => ?_) (fun (t_60 : ¬ ((q.2.2.2.1 m26 (v_22 : Int32).toNatClampNeg)).toInt ≤ v_31.toInt) => ?_)
                  · obtain ⟨v_61, ev_61⟩ : ∃ z : Int32, z = v_11 + 1 := ⟨_, rfl⟩
                    refine wa_iinc B [(5, .int v_61), (8, .int v_31), (7, .int ((q.2.2.2.1 m25 (v_22 : Int32).toNatClampNeg))), (6, .int v_22), (4, .int v_32), (3, .int v_4), (0, .ref a0), (1, .int n1), (2, .int n2)] v_61 dX12_fills_239 3 rfl (by rw [ev_61]; rfl) (by decide) rfl ?_
                    refine wa_goto B 45 dX12_fills_242 (by decide) ?_
                    have tv_61 : v_61.toInt = v_11.toInt + 1 := by have b0 := zx_bd v_11; rw [ev_61]; exact zx_add (show (-2147483648 : Int) ≤ v_11.toInt + 1 by omega) (show v_11.toInt + 1 < (2147483648 : Int) by omega)
                    refine WA.sub [0, 4, 5, 6, 7, 8] rfl ?_
                    exact ih_17 v_61 v_32 q_33 hV_q_33 hF_q_33 mS_q_33 p0_q_33 p1_q_33 p2_q_33 p3_q_33 p4_q_33 p5_q_33 p6_q_33 p7_q_33 p8_q_33 p9_q_33 p10_q_33 p11_q_33 p12_q_33 p13_q_33 p14_q_33 p15_q_33 p16_q_33 p17_q_33 p18_q_33 p19_q_33 (show 0 ≤ v_61.toInt from by first | assumption | omega | decide) (show v_32.toInt = ((mv_s (q.2.2.2.1 m28) (q.2.2.2.1 m29) (q.2.2.2.1 m26) n1.toNatClampNeg (v_61).toNatClampNeg : Nat) : Int) from by have a1 := zx_nc n1; have a2 := zx_nc v_11; have a3 := zx_nc v_22; have a4 := zx_nc v_31; have a6 := zx_nc v_61; rw [show (v_61 : Int32).toNatClampNeg = (v_11 : Int32).toNatClampNeg + 1 by omega, mv_s_s (ln := (v_22 : Int32).toNatClampNeg) (x := (v_31 : Int32).toNatClampNeg) (by omega) (by omega)]; omega) (show (12 - v_61.toInt : Int).toNat < _ from by omega)
                  · refine wa_iconst B 5 dX12_fills_97 (by decide) ?_
                    refine wa_iload B dX12_fills_98 2 rfl ?_
                    refine wa_imul B dX12_fills_100 (fun v_62 ev_62 => ?_)
                    refine wa_iload B dX12_fills_101 0 rfl ?_
                    refine wa_iadd B dX12_fills_103 (fun v_63 ev_63 => ?_)
                    refine wa_istore B [(9, .int v_63), (8, .int v_31), (7, .int ((q.2.2.2.1 m25 (v_22 : Int32).toNatClampNeg))), (6, .int v_22), (5, .int v_11), (4, .int v_32), (3, .int v_4), (0, .ref a0), (1, .int n1), (2, .int n2)] dX12_fills_104 (by decide) rfl ?_
                    have tv_62 : v_62.toInt = 5 * v_22.toInt := by have b1 := zx_bd v_22; rw [ev_62]; exact zx_mul (show (-2147483648 : Int) ≤ 5 * v_22.toInt by omega) (show 5 * v_22.toInt < (2147483648 : Int) by omega)
                    have tv_63 : v_63.toInt = v_62.toInt + v_31.toInt := by have b0 := zx_bd v_62; have b1 := zx_bd v_31; rw [ev_63]; exact zx_add (show (-2147483648 : Int) ≤ v_62.toInt + v_31.toInt by omega) (show v_62.toInt + v_31.toInt < (2147483648 : Int) by omega)
                    refine wa_aload_n B dX12_fills_106 rfl 7 rfl ?_
                    refine wa_getR B (C := RX12) (T := TX12) (N := 51) iq_X12_fills_X12 ha0 ka0 (by decide) rfl 28 (by decide) (by decide) (by decide +kernel) rfl (fun _ _ _ => rfl) (v := m28) p6_q_33 dX12_fills_107 ?_
                    refine wa_iload B dX12_fills_110 0 rfl ?_
                    have z_64 : q_33.2.2.2.1 m28 (v_63 : Int32).toNatClampNeg = (q.2.2.2.1 m28 (v_63 : Int32).toNatClampNeg) := congrFun p17_q_33 _
                    refine wa_iaload B hm28 km28 (by decide) (by decide) (show 0 ≤ v_63.toInt by omega) (show v_63.toInt < (h.2.1 m28 : Int) by omega) (v := (q.2.2.2.1 m28 (v_63 : Int32).toNatClampNeg)) z_64 dX12_fills_112 ?_
                    refine wa_istore B [(10, .int ((q.2.2.2.1 m28 (v_63 : Int32).toNatClampNeg))), (9, .int v_63), (8, .int v_31), (7, .int ((q.2.2.2.1 m25 (v_22 : Int32).toNatClampNeg))), (6, .int v_22), (5, .int v_11), (4, .int v_32), (3, .int v_4), (0, .ref a0), (1, .int n1), (2, .int n2)] dX12_fills_113 (by decide) rfl ?_
                    refine wa_aload_n B dX12_fills_115 rfl 8 rfl ?_
                    refine wa_getR B (C := RX12) (T := TX12) (N := 51) iq_X12_fills_X12 ha0 ka0 (by decide) rfl 29 (by decide) (by decide) (by decide +kernel) rfl (fun _ _ _ => rfl) (v := m29) p7_q_33 dX12_fills_116 ?_
                    refine wa_iload B dX12_fills_119 1 rfl ?_
                    have z_65 : q_33.2.2.2.1 m29 (v_63 : Int32).toNatClampNeg = (q.2.2.2.1 m29 (v_63 : Int32).toNatClampNeg) := congrFun p18_q_33 _
                    refine wa_iaload B hm29 km29 (by decide) (by decide) (show 0 ≤ v_63.toInt by omega) (show v_63.toInt < (h.2.1 m29 : Int) by omega) (v := (q.2.2.2.1 m29 (v_63 : Int32).toNatClampNeg)) z_65 dX12_fills_121 ?_
                    refine wa_istore B [(11, .int ((q.2.2.2.1 m29 (v_63 : Int32).toNatClampNeg))), (10, .int ((q.2.2.2.1 m28 (v_63 : Int32).toNatClampNeg))), (9, .int v_63), (8, .int v_31), (7, .int ((q.2.2.2.1 m25 (v_22 : Int32).toNatClampNeg))), (6, .int v_22), (5, .int v_11), (4, .int v_32), (3, .int v_4), (0, .ref a0), (1, .int n1), (2, .int n2)] dX12_fills_122 (by decide) rfl ?_
                    have a1 := zx_nc n1
                    have a2 := zx_nc v_11
                    have a3 := zx_nc v_22
                    have a4 := zx_nc v_31
                    have a5 := zx_nc v_63
                    have c1 := mv_cnt (k := (v_11 : Int32).toNatClampNeg) (i := (v_31 : Int32).toNatClampNeg) (ln := (v_22 : Int32).toNatClampNeg) (t := n1.toNatClampNeg) (mS.f rfl rfl rfl rfl) (by omega) (by omega) (by omega) (by omega)
                    have c4 := mv_n_s (d1 := (q.2.2.2.1 m28)) (d2 := (q.2.2.2.1 m29)) (ln := (v_22 : Int32).toNatClampNeg) (i := (v_31 : Int32).toNatClampNeg) (m := (v_63 : Int32).toNatClampNeg) (by omega)
                    have c2 := mv_d_c ((q.2.2.2.1 m28 (v_63 : Int32).toNatClampNeg))
                    have c3 := mv_d_c ((q.2.2.2.1 m29 (v_63 : Int32).toNatClampNeg))
                    refine wa_iload B dX12_fills_124 1 rfl ?_
                    refine wa_bipush B 10 dX12_fills_126 (by decide) ?_
                    refine wa_icmp_ne B 143 dX12_fills_128 (by decide) (fun (t_66 : ¬ ((q.2.2.2.1 m28 (v_63 : Int32).toNatClampNeg)).toInt = 10) => ?_) (fun (t_66 : ((q.2.2.2.1 m28 (v_63 : Int32).toNatClampNeg)).toInt = 10) => ?_)
                    · refine wa_iload B dX12_fills_143 0 rfl ?_
                      refine wa_bipush B 10 dX12_fills_145 (by decide) ?_
                      refine wa_icmp_ne B 162 dX12_fills_147 (by decide) (fun (t_67 : ¬ ((q.2.2.2.1 m29 (v_63 : Int32).toNatClampNeg)).toInt = 10) => ?_) (fun (t_67 : ((q.2.2.2.1 m29 (v_63 : Int32).toNatClampNeg)).toInt = 10) => ?_)
                      · refine wa_aload_n B dX12_fills_162 rfl 9 rfl ?_
                        refine wa_iload B dX12_fills_163 1 rfl ?_
                        refine wa_iload B dX12_fills_165 0 rfl ?_
                        refine wa_aload_n B dX12_fills_167 rfl 9 rfl ?_
                        refine wa_iload B dX12_fills_168 4 rfl ?_
                        refine wa_aload_n B dX12_fills_170 rfl 9 rfl ?_
                        refine wa_getR B (C := RX12) (T := TX12) (N := 51) iq_X12_fills_X12 ha0 ka0 (by decide) rfl 30 (by decide) (by decide) (by decide +kernel) rfl (fun _ _ _ => rfl) (v := m30) p8_q_33 dX12_fills_171 ?_
                        refine wa_iload B dX12_fills_174 2 rfl ?_
                        have z_68 : q_33.2.2.2.1 m30 (v_63 : Int32).toNatClampNeg = (q.2.2.2.1 m30 (v_63 : Int32).toNatClampNeg) := congrFun p19_q_33 _
                        refine wa_iaload B hm30 km30 (by decide) (by decide) (show 0 ≤ v_63.toInt by omega) (show v_63.toInt < (h.2.1 m30 : Int) by omega) (v := (q.2.2.2.1 m30 (v_63 : Int32).toNatClampNeg)) z_68 dX12_fills_176 ?_
                        have g_69 : (0 : Int) ≤ ((q.2.2.2.1 m30 (v_63 : Int32).toNatClampNeg)).toInt ∧ ((q.2.2.2.1 m30 (v_63 : Int32).toNatClampNeg)).toInt ≤ 4 := by rw [← z_68]; exact hV_q_33.cnt hm30 km30 _
                        refine wa_callVi B (x := (RX12, TX12, 51)) (As := [.int ((q.2.2.2.1 m25 (v_22 : Int32).toNatClampNeg)), .int ((q.2.2.2.1 m30 (v_63 : Int32).toNatClampNeg))]) (rest := [.int ((q.2.2.2.1 m29 (v_63 : Int32).toNatClampNeg)), .int ((q.2.2.2.1 m28 (v_63 : Int32).toNatClampNeg)), .ref a0]) (k_X12_mostOf l dC dI h L hN q_33 hV_q_33 (a0 := a0) ha0 ka0 ((q.2.2.2.1 m25 (v_22 : Int32).toNatClampNeg)) ((q.2.2.2.1 m30 (v_63 : Int32).toNatClampNeg))  (by first | assumption | omega | decide) (by first | assumption | omega | decide) (by first | assumption | omega | decide) (by first | assumption | omega | decide)) (cwV 2 B.1.2.2.2.2 gX12_fills_X12_mostOf rfl rfl rfl (by decide +kernel) ⟨Nat.le_of_ble_eq_true rfl, Nat.le_of_ble_eq_true rfl⟩) ha0 ka0 (by decide) rfl rfl rfl (Nat.le_of_ble_eq_true rfl) dX12_fills_177 (fun r_71 q_70 w_72 => ?_)
                        subst w_72
                        refine wa_callVi B (x := (RX12, TX12, 51)) (As := [.int ((q.2.2.2.1 m28 (v_63 : Int32).toNatClampNeg)), .int ((q.2.2.2.1 m29 (v_63 : Int32).toNatClampNeg)), .int r_71]) (rest := []) (k_X12_isGood l dC dI h L hN q_33 hV_q_33 (a0 := a0) ha0 ka0 ((q.2.2.2.1 m28 (v_63 : Int32).toNatClampNeg)) ((q.2.2.2.1 m29 (v_63 : Int32).toNatClampNeg)) r_71  ) (cwV 3 B.1.2.2.2.2 gX12_fills_X12_isGood rfl rfl rfl (by decide +kernel) ⟨Nat.le_of_ble_eq_true rfl, Nat.le_of_ble_eq_true rfl⟩) ha0 ka0 (by decide) rfl rfl rfl (Nat.le_of_ble_eq_true rfl) dX12_fills_180 (fun r_74 q_73 w_75 => ?_)
                        obtain ⟨ew_75, hw_75⟩ := w_75
                        subst ew_75
                        refine wa_if_ne B 188 dX12_fills_183 (by decide) (fun (t_76 : ¬ r_74.toInt = 0) => ?_) (fun (t_76 : r_74.toInt = 0) => ?_)
                        · refine wa_aload_n B dX12_fills_188 rfl 9 rfl ?_
                          refine wa_getR B (C := RX12) (T := TX12) (N := 51) iq_X12_fills_X12 ha0 ka0 (by decide) rfl 35 (by decide) (by decide) (by decide +kernel) rfl (fun _ _ _ => rfl) (v := m35) p10_q_33 dX12_fills_189 ?_
                          refine wa_iload B dX12_fills_192 6 rfl ?_
                          refine wa_dup2 B dX12_fills_194 rfl rfl ?_
                          refine wa_laload B hm35 km35 (by decide) (by decide) (show 0 ≤ v_11.toInt by omega) (show v_11.toInt < (h.2.1 m35 : Int) by omega) (v := (q_33.2.2.2.2 m35 (v_11 : Int32).toNatClampNeg)) rfl dX12_fills_195 ?_
                          refine wa_iload B dX12_fills_196 0 rfl ?_
                          refine wa_iconst B (-1) dX12_fills_198 (by decide) ?_
                          have Jn_215_78 : ∀  (v_77 : Int32), WA l dC dI h L ({ frames := 1, cells := 0, slots := 0, locals := 24 } : Room) 12 Z q_33 215 [(11, .int ((q.2.2.2.1 m29 (v_63 : Int32).toNatClampNeg))), (10, .int ((q.2.2.2.1 m28 (v_63 : Int32).toNatClampNeg))), (9, .int v_63), (8, .int v_31), (7, .int ((q.2.2.2.1 m25 (v_22 : Int32).toNatClampNeg))), (6, .int v_22), (5, .int v_11), (4, .int v_32), (3, .int v_4), (0, .ref a0), (1, .int n1), (2, .int n2)] [.int v_77, .long ((q_33.2.2.2.2 m35 (v_11 : Int32).toNatClampNeg)), .int v_11, .ref m35] := by
                            intro v_77
                            refine wa_i2l B dX12_fills_215 (fun v_79 ev_79 => ?_)
                            refine wa_aload_n B dX12_fills_216 rfl 9 rfl ?_
                            refine wa_iload B dX12_fills_217 4 rfl ?_
                            refine wa_aload_n B dX12_fills_219 rfl 9 rfl ?_
                            refine wa_getR B (C := RX12) (T := TX12) (N := 51) iq_X12_fills_X12 ha0 ka0 (by decide) rfl 30 (by decide) (by decide) (by decide +kernel) rfl (fun _ _ _ => rfl) (v := m30) p8_q_33 dX12_fills_220 ?_
                            refine wa_iload B dX12_fills_223 2 rfl ?_
                            refine wa_iaload B hm30 km30 (by decide) (by decide) (show 0 ≤ v_63.toInt by omega) (show v_63.toInt < (h.2.1 m30 : Int) by omega) (v := (q.2.2.2.1 m30 (v_63 : Int32).toNatClampNeg)) z_68 dX12_fills_225 ?_
                            refine wa_callVi B (x := (RX12, TX12, 51)) (As := [.int ((q.2.2.2.1 m25 (v_22 : Int32).toNatClampNeg)), .int ((q.2.2.2.1 m30 (v_63 : Int32).toNatClampNeg))]) (rest := [.long v_79, .long ((q_33.2.2.2.2 m35 (v_11 : Int32).toNatClampNeg)), .int v_11, .ref m35]) (k_X12_worth l dC dI h L hN q_33 hV_q_33 (a0 := a0) ha0 ka0 ((q.2.2.2.1 m25 (v_22 : Int32).toNatClampNeg)) ((q.2.2.2.1 m30 (v_63 : Int32).toNatClampNeg))  (by first | assumption | omega | decide) (by first | assumption | omega | decide) (by first | assumption | omega | decide) (by first | assumption | omega | decide)) (cwV 2 B.1.2.2.2.2 gX12_fills_X12_worth rfl rfl rfl (by decide +kernel) ⟨Nat.le_of_ble_eq_true rfl, Nat.le_of_ble_eq_true rfl⟩) ha0 ka0 (by decide) rfl rfl rfl (Nat.le_of_ble_eq_true rfl) dX12_fills_226 (fun r_81 q_80 w_82 => ?_)
                            subst w_82
                            refine wa_i2l B dX12_fills_229 (fun v_83 ev_83 => ?_)
                            refine wa_lmul B dX12_fills_230 (fun v_84 ev_84 => ?_)
                            refine wa_ladd B dX12_fills_231 (fun v_85 ev_85 => ?_)
                            refine wa_lastore B hm35 km35 (by decide) (by decide) (show 0 ≤ v_11.toInt by omega) (show v_11.toInt < (h.2.1 m35 : Int) by omega) dX12_fills_232 (fun q_86 eq_86 => ?_)
                            have hV_q_86 : sx_V h L q_86 := by rw [eq_86]; exact hV_q_33.pL
                            have hF_q_86 : sx_fr h L (fun a => h.1 a = 144 ∨ h.1 a = 245) q q_86 := hF_q_33.tr (by rw [eq_86]; exact sx_fr.pL (show h.1 m35 = 200 ∨ (h.1 m35 = 144 ∨ h.1 m35 = 245) from by omega))
                            have z_87 : q_86.2.2.2.2 m35 = (vp_updL (q_33.2.2.2.2 m35) (v_11 : Int32).toNatClampNeg v_85) := by rw [eq_86, sg_pL_e]
                            have z_88 : q_86.2.2.2.2 m35 (v_11 : Int32).toNatClampNeg = v_85 := by rw [eq_86, sg_pL_e]; exact if_pos rfl
                            have mS_q_86 : mv_S m23 m26 m28 m29 q_86 := mv_S.eq ((show q_86.2.2.2.1 m23 = q_33.2.2.2.1 m23 from by rw [eq_86]; rfl)) ((show q_86.2.2.2.1 m26 = q_33.2.2.2.1 m26 from by rw [eq_86]; rfl)) ((show q_86.2.2.2.1 m28 = q_33.2.2.2.1 m28 from by rw [eq_86]; rfl)) ((show q_86.2.2.2.1 m29 = q_33.2.2.2.1 m29 from by rw [eq_86]; rfl)) mS_q_33
                            obtain ⟨v_89, ev_89⟩ : ∃ z : Int32, z = v_31 + 1 := ⟨_, rfl⟩
                            refine wa_iinc B [(8, .int v_89), (11, .int ((q.2.2.2.1 m29 (v_63 : Int32).toNatClampNeg))), (10, .int ((q.2.2.2.1 m28 (v_63 : Int32).toNatClampNeg))), (9, .int v_63), (7, .int ((q.2.2.2.1 m25 (v_22 : Int32).toNatClampNeg))), (6, .int v_22), (5, .int v_11), (4, .int v_32), (3, .int v_4), (0, .ref a0), (1, .int n1), (2, .int n2)] v_89 dX12_fills_233 3 rfl (by rw [ev_89]; rfl) (by decide) rfl ?_
                            refine wa_goto B 85 dX12_fills_236 (by decide) ?_
                            have tv_89 : v_89.toInt = v_31.toInt + 1 := by have b0 := zx_bd v_31; rw [ev_89]; exact zx_add (show (-2147483648 : Int) ≤ v_31.toInt + 1 by omega) (show v_31.toInt + 1 < (2147483648 : Int) by omega)
                            have z_90 : q_86.2.2.1 a0 18 = m18 := ((show q_86.2.2.1 a0 18 = q_33.2.2.1 a0 18 from by rw [eq_86]; rfl)).trans (p0_q_33)
                            have z_91 : q_86.2.2.1 a0 19 = m19 := ((show q_86.2.2.1 a0 19 = q_33.2.2.1 a0 19 from by rw [eq_86]; rfl)).trans (p1_q_33)
                            have z_92 : q_86.2.2.1 a0 23 = m23 := ((show q_86.2.2.1 a0 23 = q_33.2.2.1 a0 23 from by rw [eq_86]; rfl)).trans (p2_q_33)
                            have z_93 : q_86.2.2.1 a0 25 = m25 := ((show q_86.2.2.1 a0 25 = q_33.2.2.1 a0 25 from by rw [eq_86]; rfl)).trans (p3_q_33)
                            have z_94 : q_86.2.2.1 a0 26 = m26 := ((show q_86.2.2.1 a0 26 = q_33.2.2.1 a0 26 from by rw [eq_86]; rfl)).trans (p4_q_33)
                            have z_95 : q_86.2.2.1 a0 27 = m27 := ((show q_86.2.2.1 a0 27 = q_33.2.2.1 a0 27 from by rw [eq_86]; rfl)).trans (p5_q_33)
                            have z_96 : q_86.2.2.1 a0 28 = m28 := ((show q_86.2.2.1 a0 28 = q_33.2.2.1 a0 28 from by rw [eq_86]; rfl)).trans (p6_q_33)
                            have z_97 : q_86.2.2.1 a0 29 = m29 := ((show q_86.2.2.1 a0 29 = q_33.2.2.1 a0 29 from by rw [eq_86]; rfl)).trans (p7_q_33)
                            have z_98 : q_86.2.2.1 a0 30 = m30 := ((show q_86.2.2.1 a0 30 = q_33.2.2.1 a0 30 from by rw [eq_86]; rfl)).trans (p8_q_33)
                            have z_99 : q_86.2.2.1 a0 34 = m34 := ((show q_86.2.2.1 a0 34 = q_33.2.2.1 a0 34 from by rw [eq_86]; rfl)).trans (p9_q_33)
                            have z_100 : q_86.2.2.1 a0 35 = m35 := ((show q_86.2.2.1 a0 35 = q_33.2.2.1 a0 35 from by rw [eq_86]; rfl)).trans (p10_q_33)
                            have z_101 : q_86.2.2.2.1 m18 = (q.2.2.2.1 m18) := ((show q_86.2.2.2.1 m18 = q_33.2.2.2.1 m18 from by rw [eq_86]; rfl)).trans (p11_q_33)
                            have z_102 : q_86.2.2.2.1 m19 = (q.2.2.2.1 m19) := ((show q_86.2.2.2.1 m19 = q_33.2.2.2.1 m19 from by rw [eq_86]; rfl)).trans (p12_q_33)
                            have z_103 : q_86.2.2.2.1 m23 = (q.2.2.2.1 m23) := ((show q_86.2.2.2.1 m23 = q_33.2.2.2.1 m23 from by rw [eq_86]; rfl)).trans (p13_q_33)
                            have z_104 : q_86.2.2.2.1 m25 = (q.2.2.2.1 m25) := ((show q_86.2.2.2.1 m25 = q_33.2.2.2.1 m25 from by rw [eq_86]; rfl)).trans (p14_q_33)
                            have z_105 : q_86.2.2.2.1 m26 = (q.2.2.2.1 m26) := ((show q_86.2.2.2.1 m26 = q_33.2.2.2.1 m26 from by rw [eq_86]; rfl)).trans (p15_q_33)
                            have z_106 : q_86.2.2.2.1 m27 = (q.2.2.2.1 m27) := ((show q_86.2.2.2.1 m27 = q_33.2.2.2.1 m27 from by rw [eq_86]; rfl)).trans (p16_q_33)
                            have z_107 : q_86.2.2.2.1 m28 = (q.2.2.2.1 m28) := ((show q_86.2.2.2.1 m28 = q_33.2.2.2.1 m28 from by rw [eq_86]; rfl)).trans (p17_q_33)
                            have z_108 : q_86.2.2.2.1 m29 = (q.2.2.2.1 m29) := ((show q_86.2.2.2.1 m29 = q_33.2.2.2.1 m29 from by rw [eq_86]; rfl)).trans (p18_q_33)
                            have z_109 : q_86.2.2.2.1 m30 = (q.2.2.2.1 m30) := ((show q_86.2.2.2.1 m30 = q_33.2.2.2.1 m30 from by rw [eq_86]; rfl)).trans (p19_q_33)
                            refine WA.sub [0, 4, 5, 6, 7, 8, 9, 10, 11] rfl ?_
                            exact ih_57 v_89 v_32 q_86 hV_q_86 hF_q_86 mS_q_86 z_90 z_91 z_92 z_93 z_94 z_95 z_96 z_97 z_98 z_99 z_100 z_101 z_102 z_103 z_104 z_105 z_106 z_107 z_108 z_109 (show 0 ≤ v_89.toInt from by first | assumption | omega | decide) (show v_89.toInt ≤ (q.2.2.2.1 m26 (v_22).toNatClampNeg).toInt from by first | assumption | omega | decide) (show v_32.toInt = ((mv_s (q.2.2.2.1 m28) (q.2.2.2.1 m29) (q.2.2.2.1 m26) n1.toNatClampNeg (v_11).toNatClampNeg + mv_n (q.2.2.2.1 m28) (q.2.2.2.1 m29) (v_22).toNatClampNeg (v_89).toNatClampNeg : Nat) : Int) from by have a6 := zx_nc v_89; rw [show (v_89 : Int32).toNatClampNeg = (v_31 : Int32).toNatClampNeg + 1 by omega]; omega) (show (5 - v_89.toInt : Int).toNat < _ from by omega)
                          refine wa_icmp_ne B 207 dX12_fills_199 (by decide) (fun (t_110 : ¬ ((q.2.2.2.1 m29 (v_63 : Int32).toNatClampNeg)).toInt = (-1)) => ?_) (fun (t_110 : ((q.2.2.2.1 m29 (v_63 : Int32).toNatClampNeg)).toInt = (-1)) => ?_)
                          · refine wa_bipush B 10 dX12_fills_207 (by decide) ?_
                            refine wa_iload B dX12_fills_209 1 rfl ?_
                            refine wa_imul B dX12_fills_211 (fun v_111 ev_111 => ?_)
                            refine wa_iload B dX12_fills_212 0 rfl ?_
                            refine wa_iadd B dX12_fills_214 (fun v_112 ev_112 => ?_)
                            exact Jn_215_78 v_112
                          · refine wa_iload B dX12_fills_202 1 rfl ?_
                            refine wa_goto B 215 dX12_fills_204 (by decide) ?_
                            exact Jn_215_78 ((q.2.2.2.1 m28 (v_63 : Int32).toNatClampNeg))
                        · refine wa_iconst B 0 dX12_fills_186 (by decide) ?_
                          exact hret _ _ _ _ dX12_fills_187 (Or.inl rfl) ⟨hV_q_33, hF_q_33, mS_q_33, (by have h9 : (0 : Int32).toInt = 0 := rfl; first | omega | (refine ⟨?_, ?_⟩ <;> omega) | trivial)⟩
                      · refine wa_aload_n B dX12_fills_150 rfl 9 rfl ?_
                        refine wa_getR B (C := RX12) (T := TX12) (N := 51) iq_X12_fills_X12 ha0 ka0 (by decide) rfl 34 (by decide) (by decide) (by decide +kernel) rfl (fun _ _ _ => rfl) (v := m34) p9_q_33 dX12_fills_151 ?_
                        refine wa_iload B dX12_fills_154 7 rfl ?_
                        refine wa_iaload B hm34 km34 (by decide) (by decide) (show 0 ≤ v_32.toInt by omega) (show v_32.toInt < (h.2.1 m34 : Int) by omega) (v := (q_33.2.2.2.1 m34 (v_32 : Int32).toNatClampNeg)) rfl dX12_fills_156 ?_
                        refine wa_istore B [(11, .int ((q_33.2.2.2.1 m34 (v_32 : Int32).toNatClampNeg))), (10, .int ((q.2.2.2.1 m28 (v_63 : Int32).toNatClampNeg))), (9, .int v_63), (8, .int v_31), (7, .int ((q.2.2.2.1 m25 (v_22 : Int32).toNatClampNeg))), (6, .int v_22), (5, .int v_11), (4, .int v_32), (3, .int v_4), (0, .ref a0), (1, .int n1), (2, .int n2)] dX12_fills_157 (by decide) rfl ?_
                        obtain ⟨v_113, ev_113⟩ : ∃ z : Int32, z = v_32 + 1 := ⟨_, rfl⟩
                        refine wa_iinc B [(4, .int v_113), (11, .int ((q_33.2.2.2.1 m34 (v_32 : Int32).toNatClampNeg))), (10, .int ((q.2.2.2.1 m28 (v_63 : Int32).toNatClampNeg))), (9, .int v_63), (8, .int v_31), (7, .int ((q.2.2.2.1 m25 (v_22 : Int32).toNatClampNeg))), (6, .int v_22), (5, .int v_11), (3, .int v_4), (0, .ref a0), (1, .int n1), (2, .int n2)] v_113 dX12_fills_159 7 rfl (by rw [ev_113]; rfl) (by decide) rfl ?_
                        refine wa_aload_n B dX12_fills_162 rfl 9 rfl ?_
                        refine wa_iload B dX12_fills_163 2 rfl ?_
                        refine wa_iload B dX12_fills_165 1 rfl ?_
                        refine wa_aload_n B dX12_fills_167 rfl 9 rfl ?_
                        refine wa_iload B dX12_fills_168 5 rfl ?_
                        refine wa_aload_n B dX12_fills_170 rfl 9 rfl ?_
                        refine wa_getR B (C := RX12) (T := TX12) (N := 51) iq_X12_fills_X12 ha0 ka0 (by decide) rfl 30 (by decide) (by decide) (by decide +kernel) rfl (fun _ _ _ => rfl) (v := m30) p8_q_33 dX12_fills_171 ?_
                        refine wa_iload B dX12_fills_174 3 rfl ?_
                        have z_114 : q_33.2.2.2.1 m30 (v_63 : Int32).toNatClampNeg = (q.2.2.2.1 m30 (v_63 : Int32).toNatClampNeg) := congrFun p19_q_33 _
                        refine wa_iaload B hm30 km30 (by decide) (by decide) (show 0 ≤ v_63.toInt by omega) (show v_63.toInt < (h.2.1 m30 : Int) by omega) (v := (q.2.2.2.1 m30 (v_63 : Int32).toNatClampNeg)) z_114 dX12_fills_176 ?_
                        have g_115 : (0 : Int) ≤ ((q.2.2.2.1 m30 (v_63 : Int32).toNatClampNeg)).toInt ∧ ((q.2.2.2.1 m30 (v_63 : Int32).toNatClampNeg)).toInt ≤ 4 := by rw [← z_114]; exact hV_q_33.cnt hm30 km30 _
                        refine wa_callVi B (x := (RX12, TX12, 51)) (As := [.int ((q.2.2.2.1 m25 (v_22 : Int32).toNatClampNeg)), .int ((q.2.2.2.1 m30 (v_63 : Int32).toNatClampNeg))]) (rest := [.int ((q_33.2.2.2.1 m34 (v_32 : Int32).toNatClampNeg)), .int ((q.2.2.2.1 m28 (v_63 : Int32).toNatClampNeg)), .ref a0]) (k_X12_mostOf l dC dI h L hN q_33 hV_q_33 (a0 := a0) ha0 ka0 ((q.2.2.2.1 m25 (v_22 : Int32).toNatClampNeg)) ((q.2.2.2.1 m30 (v_63 : Int32).toNatClampNeg))  (by first | assumption | omega | decide) (by first | assumption | omega | decide) (by first | assumption | omega | decide) (by first | assumption | omega | decide)) (cwV 2 B.1.2.2.2.2 gX12_fills_X12_mostOf rfl rfl rfl (by decide +kernel) ⟨Nat.le_of_ble_eq_true rfl, Nat.le_of_ble_eq_true rfl⟩) ha0 ka0 (by decide) rfl rfl rfl (Nat.le_of_ble_eq_true rfl) dX12_fills_177 (fun r_117 q_116 w_118 => ?_)
                        subst w_118
                        refine wa_callVi B (x := (RX12, TX12, 51)) (As := [.int ((q.2.2.2.1 m28 (v_63 : Int32).toNatClampNeg)), .int ((q_33.2.2.2.1 m34 (v_32 : Int32).toNatClampNeg)), .int r_117]) (rest := []) (k_X12_isGood l dC dI h L hN q_33 hV_q_33 (a0 := a0) ha0 ka0 ((q.2.2.2.1 m28 (v_63 : Int32).toNatClampNeg)) ((q_33.2.2.2.1 m34 (v_32 : Int32).toNatClampNeg)) r_117  ) (cwV 3 B.1.2.2.2.2 gX12_fills_X12_isGood rfl rfl rfl (by decide +kernel) ⟨Nat.le_of_ble_eq_true rfl, Nat.le_of_ble_eq_true rfl⟩) ha0 ka0 (by decide) rfl rfl rfl (Nat.le_of_ble_eq_true rfl) dX12_fills_180 (fun r_120 q_119 w_121 => ?_)
                        obtain ⟨ew_121, hw_121⟩ := w_121
                        subst ew_121
                        refine wa_if_ne B 188 dX12_fills_183 (by decide) (fun (t_122 : ¬ r_120.toInt = 0) => ?_) (fun (t_122 : r_120.toInt = 0) => ?_)
                        · refine wa_aload_n B dX12_fills_188 rfl 9 rfl ?_
                          refine wa_getR B (C := RX12) (T := TX12) (N := 51) iq_X12_fills_X12 ha0 ka0 (by decide) rfl 35 (by decide) (by decide) (by decide +kernel) rfl (fun _ _ _ => rfl) (v := m35) p10_q_33 dX12_fills_189 ?_
                          refine wa_iload B dX12_fills_192 7 rfl ?_
                          refine wa_dup2 B dX12_fills_194 rfl rfl ?_
                          refine wa_laload B hm35 km35 (by decide) (by decide) (show 0 ≤ v_11.toInt by omega) (show v_11.toInt < (h.2.1 m35 : Int) by omega) (v := (q_33.2.2.2.2 m35 (v_11 : Int32).toNatClampNeg)) rfl dX12_fills_195 ?_
                          refine wa_iload B dX12_fills_196 1 rfl ?_
                          refine wa_iconst B (-1) dX12_fills_198 (by decide) ?_
                          have Jn_215_124 : ∀  (v_123 : Int32), WA l dC dI h L ({ frames := 1, cells := 0, slots := 0, locals := 24 } : Room) 12 Z q_33 215 [(4, .int v_113), (11, .int ((q_33.2.2.2.1 m34 (v_32 : Int32).toNatClampNeg))), (10, .int ((q.2.2.2.1 m28 (v_63 : Int32).toNatClampNeg))), (9, .int v_63), (8, .int v_31), (7, .int ((q.2.2.2.1 m25 (v_22 : Int32).toNatClampNeg))), (6, .int v_22), (5, .int v_11), (3, .int v_4), (0, .ref a0), (1, .int n1), (2, .int n2)] [.int v_123, .long ((q_33.2.2.2.2 m35 (v_11 : Int32).toNatClampNeg)), .int v_11, .ref m35] := by
                            intro v_123
                            refine wa_i2l B dX12_fills_215 (fun v_125 ev_125 => ?_)
                            refine wa_aload_n B dX12_fills_216 rfl 9 rfl ?_
                            refine wa_iload B dX12_fills_217 5 rfl ?_
                            refine wa_aload_n B dX12_fills_219 rfl 9 rfl ?_
                            refine wa_getR B (C := RX12) (T := TX12) (N := 51) iq_X12_fills_X12 ha0 ka0 (by decide) rfl 30 (by decide) (by decide) (by decide +kernel) rfl (fun _ _ _ => rfl) (v := m30) p8_q_33 dX12_fills_220 ?_
                            refine wa_iload B dX12_fills_223 3 rfl ?_
                            refine wa_iaload B hm30 km30 (by decide) (by decide) (show 0 ≤ v_63.toInt by omega) (show v_63.toInt < (h.2.1 m30 : Int) by omega) (v := (q.2.2.2.1 m30 (v_63 : Int32).toNatClampNeg)) z_114 dX12_fills_225 ?_
                            refine wa_callVi B (x := (RX12, TX12, 51)) (As := [.int ((q.2.2.2.1 m25 (v_22 : Int32).toNatClampNeg)), .int ((q.2.2.2.1 m30 (v_63 : Int32).toNatClampNeg))]) (rest := [.long v_125, .long ((q_33.2.2.2.2 m35 (v_11 : Int32).toNatClampNeg)), .int v_11, .ref m35]) (k_X12_worth l dC dI h L hN q_33 hV_q_33 (a0 := a0) ha0 ka0 ((q.2.2.2.1 m25 (v_22 : Int32).toNatClampNeg)) ((q.2.2.2.1 m30 (v_63 : Int32).toNatClampNeg))  (by first | assumption | omega | decide) (by first | assumption | omega | decide) (by first | assumption | omega | decide) (by first | assumption | omega | decide)) (cwV 2 B.1.2.2.2.2 gX12_fills_X12_worth rfl rfl rfl (by decide +kernel) ⟨Nat.le_of_ble_eq_true rfl, Nat.le_of_ble_eq_true rfl⟩) ha0 ka0 (by decide) rfl rfl rfl (Nat.le_of_ble_eq_true rfl) dX12_fills_226 (fun r_127 q_126 w_128 => ?_)
                            subst w_128
                            refine wa_i2l B dX12_fills_229 (fun v_129 ev_129 => ?_)
                            refine wa_lmul B dX12_fills_230 (fun v_130 ev_130 => ?_)
                            refine wa_ladd B dX12_fills_231 (fun v_131 ev_131 => ?_)
                            refine wa_lastore B hm35 km35 (by decide) (by decide) (show 0 ≤ v_11.toInt by omega) (show v_11.toInt < (h.2.1 m35 : Int) by omega) dX12_fills_232 (fun q_132 eq_132 => ?_)
                            have hV_q_132 : sx_V h L q_132 := by rw [eq_132]; exact hV_q_33.pL
                            have hF_q_132 : sx_fr h L (fun a => h.1 a = 144 ∨ h.1 a = 245) q q_132 := hF_q_33.tr (by rw [eq_132]; exact sx_fr.pL (show h.1 m35 = 200 ∨ (h.1 m35 = 144 ∨ h.1 m35 = 245) from by omega))
                            have z_133 : q_132.2.2.2.2 m35 = (vp_updL (q_33.2.2.2.2 m35) (v_11 : Int32).toNatClampNeg v_131) := by rw [eq_132, sg_pL_e]
                            have z_134 : q_132.2.2.2.2 m35 (v_11 : Int32).toNatClampNeg = v_131 := by rw [eq_132, sg_pL_e]; exact if_pos rfl
                            have mS_q_132 : mv_S m23 m26 m28 m29 q_132 := mv_S.eq ((show q_132.2.2.2.1 m23 = q_33.2.2.2.1 m23 from by rw [eq_132]; rfl)) ((show q_132.2.2.2.1 m26 = q_33.2.2.2.1 m26 from by rw [eq_132]; rfl)) ((show q_132.2.2.2.1 m28 = q_33.2.2.2.1 m28 from by rw [eq_132]; rfl)) ((show q_132.2.2.2.1 m29 = q_33.2.2.2.1 m29 from by rw [eq_132]; rfl)) mS_q_33
                            obtain ⟨v_135, ev_135⟩ : ∃ z : Int32, z = v_31 + 1 := ⟨_, rfl⟩
                            refine wa_iinc B [(8, .int v_135), (4, .int v_113), (11, .int ((q_33.2.2.2.1 m34 (v_32 : Int32).toNatClampNeg))), (10, .int ((q.2.2.2.1 m28 (v_63 : Int32).toNatClampNeg))), (9, .int v_63), (7, .int ((q.2.2.2.1 m25 (v_22 : Int32).toNatClampNeg))), (6, .int v_22), (5, .int v_11), (3, .int v_4), (0, .ref a0), (1, .int n1), (2, .int n2)] v_135 dX12_fills_233 4 rfl (by rw [ev_135]; rfl) (by decide) rfl ?_
                            refine wa_goto B 85 dX12_fills_236 (by decide) ?_
                            have tv_135 : v_135.toInt = v_31.toInt + 1 := by have b0 := zx_bd v_31; rw [ev_135]; exact zx_add (show (-2147483648 : Int) ≤ v_31.toInt + 1 by omega) (show v_31.toInt + 1 < (2147483648 : Int) by omega)
                            have tv_113 : v_113.toInt = v_32.toInt + 1 := by have b0 := zx_bd v_32; rw [ev_113]; exact zx_add (show (-2147483648 : Int) ≤ v_32.toInt + 1 by omega) (show v_32.toInt + 1 < (2147483648 : Int) by omega)
                            have z_136 : q_132.2.2.1 a0 18 = m18 := ((show q_132.2.2.1 a0 18 = q_33.2.2.1 a0 18 from by rw [eq_132]; rfl)).trans (p0_q_33)
                            have z_137 : q_132.2.2.1 a0 19 = m19 := ((show q_132.2.2.1 a0 19 = q_33.2.2.1 a0 19 from by rw [eq_132]; rfl)).trans (p1_q_33)
                            have z_138 : q_132.2.2.1 a0 23 = m23 := ((show q_132.2.2.1 a0 23 = q_33.2.2.1 a0 23 from by rw [eq_132]; rfl)).trans (p2_q_33)
                            have z_139 : q_132.2.2.1 a0 25 = m25 := ((show q_132.2.2.1 a0 25 = q_33.2.2.1 a0 25 from by rw [eq_132]; rfl)).trans (p3_q_33)
                            have z_140 : q_132.2.2.1 a0 26 = m26 := ((show q_132.2.2.1 a0 26 = q_33.2.2.1 a0 26 from by rw [eq_132]; rfl)).trans (p4_q_33)
                            have z_141 : q_132.2.2.1 a0 27 = m27 := ((show q_132.2.2.1 a0 27 = q_33.2.2.1 a0 27 from by rw [eq_132]; rfl)).trans (p5_q_33)
                            have z_142 : q_132.2.2.1 a0 28 = m28 := ((show q_132.2.2.1 a0 28 = q_33.2.2.1 a0 28 from by rw [eq_132]; rfl)).trans (p6_q_33)
                            have z_143 : q_132.2.2.1 a0 29 = m29 := ((show q_132.2.2.1 a0 29 = q_33.2.2.1 a0 29 from by rw [eq_132]; rfl)).trans (p7_q_33)
                            have z_144 : q_132.2.2.1 a0 30 = m30 := ((show q_132.2.2.1 a0 30 = q_33.2.2.1 a0 30 from by rw [eq_132]; rfl)).trans (p8_q_33)
                            have z_145 : q_132.2.2.1 a0 34 = m34 := ((show q_132.2.2.1 a0 34 = q_33.2.2.1 a0 34 from by rw [eq_132]; rfl)).trans (p9_q_33)
                            have z_146 : q_132.2.2.1 a0 35 = m35 := ((show q_132.2.2.1 a0 35 = q_33.2.2.1 a0 35 from by rw [eq_132]; rfl)).trans (p10_q_33)
                            have z_147 : q_132.2.2.2.1 m18 = (q.2.2.2.1 m18) := ((show q_132.2.2.2.1 m18 = q_33.2.2.2.1 m18 from by rw [eq_132]; rfl)).trans (p11_q_33)
                            have z_148 : q_132.2.2.2.1 m19 = (q.2.2.2.1 m19) := ((show q_132.2.2.2.1 m19 = q_33.2.2.2.1 m19 from by rw [eq_132]; rfl)).trans (p12_q_33)
                            have z_149 : q_132.2.2.2.1 m23 = (q.2.2.2.1 m23) := ((show q_132.2.2.2.1 m23 = q_33.2.2.2.1 m23 from by rw [eq_132]; rfl)).trans (p13_q_33)
                            have z_150 : q_132.2.2.2.1 m25 = (q.2.2.2.1 m25) := ((show q_132.2.2.2.1 m25 = q_33.2.2.2.1 m25 from by rw [eq_132]; rfl)).trans (p14_q_33)
                            have z_151 : q_132.2.2.2.1 m26 = (q.2.2.2.1 m26) := ((show q_132.2.2.2.1 m26 = q_33.2.2.2.1 m26 from by rw [eq_132]; rfl)).trans (p15_q_33)
                            have z_152 : q_132.2.2.2.1 m27 = (q.2.2.2.1 m27) := ((show q_132.2.2.2.1 m27 = q_33.2.2.2.1 m27 from by rw [eq_132]; rfl)).trans (p16_q_33)
                            have z_153 : q_132.2.2.2.1 m28 = (q.2.2.2.1 m28) := ((show q_132.2.2.2.1 m28 = q_33.2.2.2.1 m28 from by rw [eq_132]; rfl)).trans (p17_q_33)
                            have z_154 : q_132.2.2.2.1 m29 = (q.2.2.2.1 m29) := ((show q_132.2.2.2.1 m29 = q_33.2.2.2.1 m29 from by rw [eq_132]; rfl)).trans (p18_q_33)
                            have z_155 : q_132.2.2.2.1 m30 = (q.2.2.2.1 m30) := ((show q_132.2.2.2.1 m30 = q_33.2.2.2.1 m30 from by rw [eq_132]; rfl)).trans (p19_q_33)
                            refine WA.sub [0, 5, 6, 7, 1, 8, 9, 10, 11] rfl ?_
                            exact ih_57 v_135 v_113 q_132 hV_q_132 hF_q_132 mS_q_132 z_136 z_137 z_138 z_139 z_140 z_141 z_142 z_143 z_144 z_145 z_146 z_147 z_148 z_149 z_150 z_151 z_152 z_153 z_154 z_155 (show 0 ≤ v_135.toInt from by first | assumption | omega | decide) (show v_135.toInt ≤ (q.2.2.2.1 m26 (v_22).toNatClampNeg).toInt from by first | assumption | omega | decide) (show v_113.toInt = ((mv_s (q.2.2.2.1 m28) (q.2.2.2.1 m29) (q.2.2.2.1 m26) n1.toNatClampNeg (v_11).toNatClampNeg + mv_n (q.2.2.2.1 m28) (q.2.2.2.1 m29) (v_22).toNatClampNeg (v_135).toNatClampNeg : Nat) : Int) from by have a6 := zx_nc v_135; rw [show (v_135 : Int32).toNatClampNeg = (v_31 : Int32).toNatClampNeg + 1 by omega]; omega) (show (5 - v_135.toInt : Int).toNat < _ from by omega)
                          refine wa_icmp_ne B 207 dX12_fills_199 (by decide) (fun (t_156 : ¬ ((q_33.2.2.2.1 m34 (v_32 : Int32).toNatClampNeg)).toInt = (-1)) => ?_) (fun (t_156 : ((q_33.2.2.2.1 m34 (v_32 : Int32).toNatClampNeg)).toInt = (-1)) => ?_)
                          · refine wa_bipush B 10 dX12_fills_207 (by decide) ?_
                            refine wa_iload B dX12_fills_209 2 rfl ?_
                            refine wa_imul B dX12_fills_211 (fun v_157 ev_157 => ?_)
                            refine wa_iload B dX12_fills_212 1 rfl ?_
                            refine wa_iadd B dX12_fills_214 (fun v_158 ev_158 => ?_)
                            exact Jn_215_124 v_158
                          · refine wa_iload B dX12_fills_202 2 rfl ?_
                            refine wa_goto B 215 dX12_fills_204 (by decide) ?_
                            exact Jn_215_124 ((q.2.2.2.1 m28 (v_63 : Int32).toNatClampNeg))
                        · refine wa_iconst B 0 dX12_fills_186 (by decide) ?_
                          exact hret _ _ _ _ dX12_fills_187 (Or.inl rfl) ⟨hV_q_33, hF_q_33, mS_q_33, (by have h9 : (0 : Int32).toInt = 0 := rfl; first | omega | (refine ⟨?_, ?_⟩ <;> omega) | trivial)⟩
                    · refine wa_aload_n B dX12_fills_131 rfl 9 rfl ?_
                      refine wa_getR B (C := RX12) (T := TX12) (N := 51) iq_X12_fills_X12 ha0 ka0 (by decide) rfl 34 (by decide) (by decide) (by decide +kernel) rfl (fun _ _ _ => rfl) (v := m34) p9_q_33 dX12_fills_132 ?_
                      refine wa_iload B dX12_fills_135 7 rfl ?_
                      refine wa_iaload B hm34 km34 (by decide) (by decide) (show 0 ≤ v_32.toInt by omega) (show v_32.toInt < (h.2.1 m34 : Int) by omega) (v := (q_33.2.2.2.1 m34 (v_32 : Int32).toNatClampNeg)) rfl dX12_fills_137 ?_
                      refine wa_istore B [(10, .int ((q_33.2.2.2.1 m34 (v_32 : Int32).toNatClampNeg))), (11, .int ((q.2.2.2.1 m29 (v_63 : Int32).toNatClampNeg))), (9, .int v_63), (8, .int v_31), (7, .int ((q.2.2.2.1 m25 (v_22 : Int32).toNatClampNeg))), (6, .int v_22), (5, .int v_11), (4, .int v_32), (3, .int v_4), (0, .ref a0), (1, .int n1), (2, .int n2)] dX12_fills_138 (by decide) rfl ?_
                      obtain ⟨v_159, ev_159⟩ : ∃ z : Int32, z = v_32 + 1 := ⟨_, rfl⟩
                      refine wa_iinc B [(4, .int v_159), (10, .int ((q_33.2.2.2.1 m34 (v_32 : Int32).toNatClampNeg))), (11, .int ((q.2.2.2.1 m29 (v_63 : Int32).toNatClampNeg))), (9, .int v_63), (8, .int v_31), (7, .int ((q.2.2.2.1 m25 (v_22 : Int32).toNatClampNeg))), (6, .int v_22), (5, .int v_11), (3, .int v_4), (0, .ref a0), (1, .int n1), (2, .int n2)] v_159 dX12_fills_140 7 rfl (by rw [ev_159]; rfl) (by decide) rfl ?_
                      refine wa_iload B dX12_fills_143 2 rfl ?_
                      refine wa_bipush B 10 dX12_fills_145 (by decide) ?_
                      refine wa_icmp_ne B 162 dX12_fills_147 (by decide) (fun (t_160 : ¬ ((q.2.2.2.1 m29 (v_63 : Int32).toNatClampNeg)).toInt = 10) => ?_) (fun (t_160 : ((q.2.2.2.1 m29 (v_63 : Int32).toNatClampNeg)).toInt = 10) => ?_)
                      · refine wa_aload_n B dX12_fills_162 rfl 9 rfl ?_
                        refine wa_iload B dX12_fills_163 1 rfl ?_
                        refine wa_iload B dX12_fills_165 2 rfl ?_
                        refine wa_aload_n B dX12_fills_167 rfl 9 rfl ?_
                        refine wa_iload B dX12_fills_168 5 rfl ?_
                        refine wa_aload_n B dX12_fills_170 rfl 9 rfl ?_
                        refine wa_getR B (C := RX12) (T := TX12) (N := 51) iq_X12_fills_X12 ha0 ka0 (by decide) rfl 30 (by decide) (by decide) (by decide +kernel) rfl (fun _ _ _ => rfl) (v := m30) p8_q_33 dX12_fills_171 ?_
                        refine wa_iload B dX12_fills_174 3 rfl ?_
                        have z_161 : q_33.2.2.2.1 m30 (v_63 : Int32).toNatClampNeg = (q.2.2.2.1 m30 (v_63 : Int32).toNatClampNeg) := congrFun p19_q_33 _
                        refine wa_iaload B hm30 km30 (by decide) (by decide) (show 0 ≤ v_63.toInt by omega) (show v_63.toInt < (h.2.1 m30 : Int) by omega) (v := (q.2.2.2.1 m30 (v_63 : Int32).toNatClampNeg)) z_161 dX12_fills_176 ?_
                        have g_162 : (0 : Int) ≤ ((q.2.2.2.1 m30 (v_63 : Int32).toNatClampNeg)).toInt ∧ ((q.2.2.2.1 m30 (v_63 : Int32).toNatClampNeg)).toInt ≤ 4 := by rw [← z_161]; exact hV_q_33.cnt hm30 km30 _
                        refine wa_callVi B (x := (RX12, TX12, 51)) (As := [.int ((q.2.2.2.1 m25 (v_22 : Int32).toNatClampNeg)), .int ((q.2.2.2.1 m30 (v_63 : Int32).toNatClampNeg))]) (rest := [.int ((q.2.2.2.1 m29 (v_63 : Int32).toNatClampNeg)), .int ((q_33.2.2.2.1 m34 (v_32 : Int32).toNatClampNeg)), .ref a0]) (k_X12_mostOf l dC dI h L hN q_33 hV_q_33 (a0 := a0) ha0 ka0 ((q.2.2.2.1 m25 (v_22 : Int32).toNatClampNeg)) ((q.2.2.2.1 m30 (v_63 : Int32).toNatClampNeg))  (by first | assumption | omega | decide) (by first | assumption | omega | decide) (by first | assumption | omega | decide) (by first | assumption | omega | decide)) (cwV 2 B.1.2.2.2.2 gX12_fills_X12_mostOf rfl rfl rfl (by decide +kernel) ⟨Nat.le_of_ble_eq_true rfl, Nat.le_of_ble_eq_true rfl⟩) ha0 ka0 (by decide) rfl rfl rfl (Nat.le_of_ble_eq_true rfl) dX12_fills_177 (fun r_164 q_163 w_165 => ?_)
                        subst w_165
                        refine wa_callVi B (x := (RX12, TX12, 51)) (As := [.int ((q_33.2.2.2.1 m34 (v_32 : Int32).toNatClampNeg)), .int ((q.2.2.2.1 m29 (v_63 : Int32).toNatClampNeg)), .int r_164]) (rest := []) (k_X12_isGood l dC dI h L hN q_33 hV_q_33 (a0 := a0) ha0 ka0 ((q_33.2.2.2.1 m34 (v_32 : Int32).toNatClampNeg)) ((q.2.2.2.1 m29 (v_63 : Int32).toNatClampNeg)) r_164  ) (cwV 3 B.1.2.2.2.2 gX12_fills_X12_isGood rfl rfl rfl (by decide +kernel) ⟨Nat.le_of_ble_eq_true rfl, Nat.le_of_ble_eq_true rfl⟩) ha0 ka0 (by decide) rfl rfl rfl (Nat.le_of_ble_eq_true rfl) dX12_fills_180 (fun r_167 q_166 w_168 => ?_)
                        obtain ⟨ew_168, hw_168⟩ := w_168
                        subst ew_168
                        refine wa_if_ne B 188 dX12_fills_183 (by decide) (fun (t_169 : ¬ r_167.toInt = 0) => ?_) (fun (t_169 : r_167.toInt = 0) => ?_)
                        · refine wa_aload_n B dX12_fills_188 rfl 9 rfl ?_
                          refine wa_getR B (C := RX12) (T := TX12) (N := 51) iq_X12_fills_X12 ha0 ka0 (by decide) rfl 35 (by decide) (by decide) (by decide +kernel) rfl (fun _ _ _ => rfl) (v := m35) p10_q_33 dX12_fills_189 ?_
                          refine wa_iload B dX12_fills_192 7 rfl ?_
                          refine wa_dup2 B dX12_fills_194 rfl rfl ?_
                          refine wa_laload B hm35 km35 (by decide) (by decide) (show 0 ≤ v_11.toInt by omega) (show v_11.toInt < (h.2.1 m35 : Int) by omega) (v := (q_33.2.2.2.2 m35 (v_11 : Int32).toNatClampNeg)) rfl dX12_fills_195 ?_
                          refine wa_iload B dX12_fills_196 2 rfl ?_
                          refine wa_iconst B (-1) dX12_fills_198 (by decide) ?_
                          have Jn_215_171 : ∀  (v_170 : Int32), WA l dC dI h L ({ frames := 1, cells := 0, slots := 0, locals := 24 } : Room) 12 Z q_33 215 [(4, .int v_159), (10, .int ((q_33.2.2.2.1 m34 (v_32 : Int32).toNatClampNeg))), (11, .int ((q.2.2.2.1 m29 (v_63 : Int32).toNatClampNeg))), (9, .int v_63), (8, .int v_31), (7, .int ((q.2.2.2.1 m25 (v_22 : Int32).toNatClampNeg))), (6, .int v_22), (5, .int v_11), (3, .int v_4), (0, .ref a0), (1, .int n1), (2, .int n2)] [.int v_170, .long ((q_33.2.2.2.2 m35 (v_11 : Int32).toNatClampNeg)), .int v_11, .ref m35] := by
                            intro v_170
                            refine wa_i2l B dX12_fills_215 (fun v_172 ev_172 => ?_)
                            refine wa_aload_n B dX12_fills_216 rfl 9 rfl ?_
                            refine wa_iload B dX12_fills_217 5 rfl ?_
                            refine wa_aload_n B dX12_fills_219 rfl 9 rfl ?_
                            refine wa_getR B (C := RX12) (T := TX12) (N := 51) iq_X12_fills_X12 ha0 ka0 (by decide) rfl 30 (by decide) (by decide) (by decide +kernel) rfl (fun _ _ _ => rfl) (v := m30) p8_q_33 dX12_fills_220 ?_
                            refine wa_iload B dX12_fills_223 3 rfl ?_
                            refine wa_iaload B hm30 km30 (by decide) (by decide) (show 0 ≤ v_63.toInt by omega) (show v_63.toInt < (h.2.1 m30 : Int) by omega) (v := (q.2.2.2.1 m30 (v_63 : Int32).toNatClampNeg)) z_161 dX12_fills_225 ?_
                            refine wa_callVi B (x := (RX12, TX12, 51)) (As := [.int ((q.2.2.2.1 m25 (v_22 : Int32).toNatClampNeg)), .int ((q.2.2.2.1 m30 (v_63 : Int32).toNatClampNeg))]) (rest := [.long v_172, .long ((q_33.2.2.2.2 m35 (v_11 : Int32).toNatClampNeg)), .int v_11, .ref m35]) (k_X12_worth l dC dI h L hN q_33 hV_q_33 (a0 := a0) ha0 ka0 ((q.2.2.2.1 m25 (v_22 : Int32).toNatClampNeg)) ((q.2.2.2.1 m30 (v_63 : Int32).toNatClampNeg))  (by first | assumption | omega | decide) (by first | assumption | omega | decide) (by first | assumption | omega | decide) (by first | assumption | omega | decide)) (cwV 2 B.1.2.2.2.2 gX12_fills_X12_worth rfl rfl rfl (by decide +kernel) ⟨Nat.le_of_ble_eq_true rfl, Nat.le_of_ble_eq_true rfl⟩) ha0 ka0 (by decide) rfl rfl rfl (Nat.le_of_ble_eq_true rfl) dX12_fills_226 (fun r_174 q_173 w_175 => ?_)
                            subst w_175
                            refine wa_i2l B dX12_fills_229 (fun v_176 ev_176 => ?_)
                            refine wa_lmul B dX12_fills_230 (fun v_177 ev_177 => ?_)
                            refine wa_ladd B dX12_fills_231 (fun v_178 ev_178 => ?_)
                            refine wa_lastore B hm35 km35 (by decide) (by decide) (show 0 ≤ v_11.toInt by omega) (show v_11.toInt < (h.2.1 m35 : Int) by omega) dX12_fills_232 (fun q_179 eq_179 => ?_)
                            have hV_q_179 : sx_V h L q_179 := by rw [eq_179]; exact hV_q_33.pL
                            have hF_q_179 : sx_fr h L (fun a => h.1 a = 144 ∨ h.1 a = 245) q q_179 := hF_q_33.tr (by rw [eq_179]; exact sx_fr.pL (show h.1 m35 = 200 ∨ (h.1 m35 = 144 ∨ h.1 m35 = 245) from by omega))
                            have z_180 : q_179.2.2.2.2 m35 = (vp_updL (q_33.2.2.2.2 m35) (v_11 : Int32).toNatClampNeg v_178) := by rw [eq_179, sg_pL_e]
                            have z_181 : q_179.2.2.2.2 m35 (v_11 : Int32).toNatClampNeg = v_178 := by rw [eq_179, sg_pL_e]; exact if_pos rfl
                            have mS_q_179 : mv_S m23 m26 m28 m29 q_179 := mv_S.eq ((show q_179.2.2.2.1 m23 = q_33.2.2.2.1 m23 from by rw [eq_179]; rfl)) ((show q_179.2.2.2.1 m26 = q_33.2.2.2.1 m26 from by rw [eq_179]; rfl)) ((show q_179.2.2.2.1 m28 = q_33.2.2.2.1 m28 from by rw [eq_179]; rfl)) ((show q_179.2.2.2.1 m29 = q_33.2.2.2.1 m29 from by rw [eq_179]; rfl)) mS_q_33
                            obtain ⟨v_182, ev_182⟩ : ∃ z : Int32, z = v_31 + 1 := ⟨_, rfl⟩
                            refine wa_iinc B [(8, .int v_182), (4, .int v_159), (10, .int ((q_33.2.2.2.1 m34 (v_32 : Int32).toNatClampNeg))), (11, .int ((q.2.2.2.1 m29 (v_63 : Int32).toNatClampNeg))), (9, .int v_63), (7, .int ((q.2.2.2.1 m25 (v_22 : Int32).toNatClampNeg))), (6, .int v_22), (5, .int v_11), (3, .int v_4), (0, .ref a0), (1, .int n1), (2, .int n2)] v_182 dX12_fills_233 4 rfl (by rw [ev_182]; rfl) (by decide) rfl ?_
                            refine wa_goto B 85 dX12_fills_236 (by decide) ?_
                            have tv_182 : v_182.toInt = v_31.toInt + 1 := by have b0 := zx_bd v_31; rw [ev_182]; exact zx_add (show (-2147483648 : Int) ≤ v_31.toInt + 1 by omega) (show v_31.toInt + 1 < (2147483648 : Int) by omega)
                            have tv_159 : v_159.toInt = v_32.toInt + 1 := by have b0 := zx_bd v_32; rw [ev_159]; exact zx_add (show (-2147483648 : Int) ≤ v_32.toInt + 1 by omega) (show v_32.toInt + 1 < (2147483648 : Int) by omega)
                            have z_183 : q_179.2.2.1 a0 18 = m18 := ((show q_179.2.2.1 a0 18 = q_33.2.2.1 a0 18 from by rw [eq_179]; rfl)).trans (p0_q_33)
                            have z_184 : q_179.2.2.1 a0 19 = m19 := ((show q_179.2.2.1 a0 19 = q_33.2.2.1 a0 19 from by rw [eq_179]; rfl)).trans (p1_q_33)
                            have z_185 : q_179.2.2.1 a0 23 = m23 := ((show q_179.2.2.1 a0 23 = q_33.2.2.1 a0 23 from by rw [eq_179]; rfl)).trans (p2_q_33)
                            have z_186 : q_179.2.2.1 a0 25 = m25 := ((show q_179.2.2.1 a0 25 = q_33.2.2.1 a0 25 from by rw [eq_179]; rfl)).trans (p3_q_33)
                            have z_187 : q_179.2.2.1 a0 26 = m26 := ((show q_179.2.2.1 a0 26 = q_33.2.2.1 a0 26 from by rw [eq_179]; rfl)).trans (p4_q_33)
                            have z_188 : q_179.2.2.1 a0 27 = m27 := ((show q_179.2.2.1 a0 27 = q_33.2.2.1 a0 27 from by rw [eq_179]; rfl)).trans (p5_q_33)
                            have z_189 : q_179.2.2.1 a0 28 = m28 := ((show q_179.2.2.1 a0 28 = q_33.2.2.1 a0 28 from by rw [eq_179]; rfl)).trans (p6_q_33)
                            have z_190 : q_179.2.2.1 a0 29 = m29 := ((show q_179.2.2.1 a0 29 = q_33.2.2.1 a0 29 from by rw [eq_179]; rfl)).trans (p7_q_33)
                            have z_191 : q_179.2.2.1 a0 30 = m30 := ((show q_179.2.2.1 a0 30 = q_33.2.2.1 a0 30 from by rw [eq_179]; rfl)).trans (p8_q_33)
                            have z_192 : q_179.2.2.1 a0 34 = m34 := ((show q_179.2.2.1 a0 34 = q_33.2.2.1 a0 34 from by rw [eq_179]; rfl)).trans (p9_q_33)
                            have z_193 : q_179.2.2.1 a0 35 = m35 := ((show q_179.2.2.1 a0 35 = q_33.2.2.1 a0 35 from by rw [eq_179]; rfl)).trans (p10_q_33)
                            have z_194 : q_179.2.2.2.1 m18 = (q.2.2.2.1 m18) := ((show q_179.2.2.2.1 m18 = q_33.2.2.2.1 m18 from by rw [eq_179]; rfl)).trans (p11_q_33)
                            have z_195 : q_179.2.2.2.1 m19 = (q.2.2.2.1 m19) := ((show q_179.2.2.2.1 m19 = q_33.2.2.2.1 m19 from by rw [eq_179]; rfl)).trans (p12_q_33)
                            have z_196 : q_179.2.2.2.1 m23 = (q.2.2.2.1 m23) := ((show q_179.2.2.2.1 m23 = q_33.2.2.2.1 m23 from by rw [eq_179]; rfl)).trans (p13_q_33)
                            have z_197 : q_179.2.2.2.1 m25 = (q.2.2.2.1 m25) := ((show q_179.2.2.2.1 m25 = q_33.2.2.2.1 m25 from by rw [eq_179]; rfl)).trans (p14_q_33)
                            have z_198 : q_179.2.2.2.1 m26 = (q.2.2.2.1 m26) := ((show q_179.2.2.2.1 m26 = q_33.2.2.2.1 m26 from by rw [eq_179]; rfl)).trans (p15_q_33)
                            have z_199 : q_179.2.2.2.1 m27 = (q.2.2.2.1 m27) := ((show q_179.2.2.2.1 m27 = q_33.2.2.2.1 m27 from by rw [eq_179]; rfl)).trans (p16_q_33)
                            have z_200 : q_179.2.2.2.1 m28 = (q.2.2.2.1 m28) := ((show q_179.2.2.2.1 m28 = q_33.2.2.2.1 m28 from by rw [eq_179]; rfl)).trans (p17_q_33)
                            have z_201 : q_179.2.2.2.1 m29 = (q.2.2.2.1 m29) := ((show q_179.2.2.2.1 m29 = q_33.2.2.2.1 m29 from by rw [eq_179]; rfl)).trans (p18_q_33)
                            have z_202 : q_179.2.2.2.1 m30 = (q.2.2.2.1 m30) := ((show q_179.2.2.2.1 m30 = q_33.2.2.2.1 m30 from by rw [eq_179]; rfl)).trans (p19_q_33)
                            refine WA.sub [0, 5, 6, 7, 1, 8, 9, 10, 11] rfl ?_
                            exact ih_57 v_182 v_159 q_179 hV_q_179 hF_q_179 mS_q_179 z_183 z_184 z_185 z_186 z_187 z_188 z_189 z_190 z_191 z_192 z_193 z_194 z_195 z_196 z_197 z_198 z_199 z_200 z_201 z_202 (show 0 ≤ v_182.toInt from by first | assumption | omega | decide) (show v_182.toInt ≤ (q.2.2.2.1 m26 (v_22).toNatClampNeg).toInt from by first | assumption | omega | decide) (show v_159.toInt = ((mv_s (q.2.2.2.1 m28) (q.2.2.2.1 m29) (q.2.2.2.1 m26) n1.toNatClampNeg (v_11).toNatClampNeg + mv_n (q.2.2.2.1 m28) (q.2.2.2.1 m29) (v_22).toNatClampNeg (v_182).toNatClampNeg : Nat) : Int) from by have a6 := zx_nc v_182; rw [show (v_182 : Int32).toNatClampNeg = (v_31 : Int32).toNatClampNeg + 1 by omega]; omega) (show (5 - v_182.toInt : Int).toNat < _ from by omega)
                          refine wa_icmp_ne B 207 dX12_fills_199 (by decide) (fun (t_203 : ¬ ((q.2.2.2.1 m29 (v_63 : Int32).toNatClampNeg)).toInt = (-1)) => ?_) (fun (t_203 : ((q.2.2.2.1 m29 (v_63 : Int32).toNatClampNeg)).toInt = (-1)) => ?_)
                          · refine wa_bipush B 10 dX12_fills_207 (by decide) ?_
                            refine wa_iload B dX12_fills_209 1 rfl ?_
                            refine wa_imul B dX12_fills_211 (fun v_204 ev_204 => ?_)
                            refine wa_iload B dX12_fills_212 2 rfl ?_
                            refine wa_iadd B dX12_fills_214 (fun v_205 ev_205 => ?_)
                            exact Jn_215_171 v_205
                          · refine wa_iload B dX12_fills_202 1 rfl ?_
                            refine wa_goto B 215 dX12_fills_204 (by decide) ?_
                            exact Jn_215_171 ((q_33.2.2.2.1 m34 (v_32 : Int32).toNatClampNeg))
                        · refine wa_iconst B 0 dX12_fills_186 (by decide) ?_
                          exact hret _ _ _ _ dX12_fills_187 (Or.inl rfl) ⟨hV_q_33, hF_q_33, mS_q_33, (by have h9 : (0 : Int32).toInt = 0 := rfl; first | omega | (refine ⟨?_, ?_⟩ <;> omega) | trivial)⟩
                      · refine wa_aload_n B dX12_fills_150 rfl 9 rfl ?_
                        refine wa_getR B (C := RX12) (T := TX12) (N := 51) iq_X12_fills_X12 ha0 ka0 (by decide) rfl 34 (by decide) (by decide) (by decide +kernel) rfl (fun _ _ _ => rfl) (v := m34) p9_q_33 dX12_fills_151 ?_
                        refine wa_iload B dX12_fills_154 0 rfl ?_
                        have tv_159 : v_159.toInt = v_32.toInt + 1 := by have b0 := zx_bd v_32; rw [ev_159]; exact zx_add (show (-2147483648 : Int) ≤ v_32.toInt + 1 by omega) (show v_32.toInt + 1 < (2147483648 : Int) by omega)
                        refine wa_iaload B hm34 km34 (by decide) (by decide) (show 0 ≤ v_159.toInt by omega) (show v_159.toInt < (h.2.1 m34 : Int) by omega) (v := (q_33.2.2.2.1 m34 (v_159 : Int32).toNatClampNeg)) rfl dX12_fills_156 ?_
                        refine wa_istore B [(11, .int ((q_33.2.2.2.1 m34 (v_159 : Int32).toNatClampNeg))), (4, .int v_159), (10, .int ((q_33.2.2.2.1 m34 (v_32 : Int32).toNatClampNeg))), (9, .int v_63), (8, .int v_31), (7, .int ((q.2.2.2.1 m25 (v_22 : Int32).toNatClampNeg))), (6, .int v_22), (5, .int v_11), (3, .int v_4), (0, .ref a0), (1, .int n1), (2, .int n2)] dX12_fills_157 (by decide) rfl ?_
                        obtain ⟨v_206, ev_206⟩ : ∃ z : Int32, z = v_159 + 1 := ⟨_, rfl⟩
                        refine wa_iinc B [(4, .int v_206), (11, .int ((q_33.2.2.2.1 m34 (v_159 : Int32).toNatClampNeg))), (10, .int ((q_33.2.2.2.1 m34 (v_32 : Int32).toNatClampNeg))), (9, .int v_63), (8, .int v_31), (7, .int ((q.2.2.2.1 m25 (v_22 : Int32).toNatClampNeg))), (6, .int v_22), (5, .int v_11), (3, .int v_4), (0, .ref a0), (1, .int n1), (2, .int n2)] v_206 dX12_fills_159 1 rfl (by rw [ev_206]; rfl) (by decide) rfl ?_
                        refine wa_aload_n B dX12_fills_162 rfl 9 rfl ?_
                        refine wa_iload B dX12_fills_163 2 rfl ?_
                        refine wa_iload B dX12_fills_165 1 rfl ?_
                        refine wa_aload_n B dX12_fills_167 rfl 9 rfl ?_
                        refine wa_iload B dX12_fills_168 5 rfl ?_
                        refine wa_aload_n B dX12_fills_170 rfl 9 rfl ?_
                        refine wa_getR B (C := RX12) (T := TX12) (N := 51) iq_X12_fills_X12 ha0 ka0 (by decide) rfl 30 (by decide) (by decide) (by decide +kernel) rfl (fun _ _ _ => rfl) (v := m30) p8_q_33 dX12_fills_171 ?_
                        refine wa_iload B dX12_fills_174 3 rfl ?_
                        have z_207 : q_33.2.2.2.1 m30 (v_63 : Int32).toNatClampNeg = (q.2.2.2.1 m30 (v_63 : Int32).toNatClampNeg) := congrFun p19_q_33 _
                        refine wa_iaload B hm30 km30 (by decide) (by decide) (show 0 ≤ v_63.toInt by omega) (show v_63.toInt < (h.2.1 m30 : Int) by omega) (v := (q.2.2.2.1 m30 (v_63 : Int32).toNatClampNeg)) z_207 dX12_fills_176 ?_
                        have g_208 : (0 : Int) ≤ ((q.2.2.2.1 m30 (v_63 : Int32).toNatClampNeg)).toInt ∧ ((q.2.2.2.1 m30 (v_63 : Int32).toNatClampNeg)).toInt ≤ 4 := by rw [← z_207]; exact hV_q_33.cnt hm30 km30 _
                        refine wa_callVi B (x := (RX12, TX12, 51)) (As := [.int ((q.2.2.2.1 m25 (v_22 : Int32).toNatClampNeg)), .int ((q.2.2.2.1 m30 (v_63 : Int32).toNatClampNeg))]) (rest := [.int ((q_33.2.2.2.1 m34 (v_159 : Int32).toNatClampNeg)), .int ((q_33.2.2.2.1 m34 (v_32 : Int32).toNatClampNeg)), .ref a0]) (k_X12_mostOf l dC dI h L hN q_33 hV_q_33 (a0 := a0) ha0 ka0 ((q.2.2.2.1 m25 (v_22 : Int32).toNatClampNeg)) ((q.2.2.2.1 m30 (v_63 : Int32).toNatClampNeg))  (by first | assumption | omega | decide) (by first | assumption | omega | decide) (by first | assumption | omega | decide) (by first | assumption | omega | decide)) (cwV 2 B.1.2.2.2.2 gX12_fills_X12_mostOf rfl rfl rfl (by decide +kernel) ⟨Nat.le_of_ble_eq_true rfl, Nat.le_of_ble_eq_true rfl⟩) ha0 ka0 (by decide) rfl rfl rfl (Nat.le_of_ble_eq_true rfl) dX12_fills_177 (fun r_210 q_209 w_211 => ?_)
                        subst w_211
                        refine wa_callVi B (x := (RX12, TX12, 51)) (As := [.int ((q_33.2.2.2.1 m34 (v_32 : Int32).toNatClampNeg)), .int ((q_33.2.2.2.1 m34 (v_159 : Int32).toNatClampNeg)), .int r_210]) (rest := []) (k_X12_isGood l dC dI h L hN q_33 hV_q_33 (a0 := a0) ha0 ka0 ((q_33.2.2.2.1 m34 (v_32 : Int32).toNatClampNeg)) ((q_33.2.2.2.1 m34 (v_159 : Int32).toNatClampNeg)) r_210  ) (cwV 3 B.1.2.2.2.2 gX12_fills_X12_isGood rfl rfl rfl (by decide +kernel) ⟨Nat.le_of_ble_eq_true rfl, Nat.le_of_ble_eq_true rfl⟩) ha0 ka0 (by decide) rfl rfl rfl (Nat.le_of_ble_eq_true rfl) dX12_fills_180 (fun r_213 q_212 w_214 => ?_)
                        obtain ⟨ew_214, hw_214⟩ := w_214
                        subst ew_214
                        refine wa_if_ne B 188 dX12_fills_183 (by decide) (fun (t_215 : ¬ r_213.toInt = 0) => ?_) (fun (t_215 : r_213.toInt = 0) => ?_)
                        · refine wa_aload_n B dX12_fills_188 rfl 9 rfl ?_
                          refine wa_getR B (C := RX12) (T := TX12) (N := 51) iq_X12_fills_X12 ha0 ka0 (by decide) rfl 35 (by decide) (by decide) (by decide +kernel) rfl (fun _ _ _ => rfl) (v := m35) p10_q_33 dX12_fills_189 ?_
                          refine wa_iload B dX12_fills_192 7 rfl ?_
                          refine wa_dup2 B dX12_fills_194 rfl rfl ?_
                          refine wa_laload B hm35 km35 (by decide) (by decide) (show 0 ≤ v_11.toInt by omega) (show v_11.toInt < (h.2.1 m35 : Int) by omega) (v := (q_33.2.2.2.2 m35 (v_11 : Int32).toNatClampNeg)) rfl dX12_fills_195 ?_
                          refine wa_iload B dX12_fills_196 1 rfl ?_
                          refine wa_iconst B (-1) dX12_fills_198 (by decide) ?_
                          have Jn_215_217 : ∀  (v_216 : Int32), WA l dC dI h L ({ frames := 1, cells := 0, slots := 0, locals := 24 } : Room) 12 Z q_33 215 [(4, .int v_206), (11, .int ((q_33.2.2.2.1 m34 (v_159 : Int32).toNatClampNeg))), (10, .int ((q_33.2.2.2.1 m34 (v_32 : Int32).toNatClampNeg))), (9, .int v_63), (8, .int v_31), (7, .int ((q.2.2.2.1 m25 (v_22 : Int32).toNatClampNeg))), (6, .int v_22), (5, .int v_11), (3, .int v_4), (0, .ref a0), (1, .int n1), (2, .int n2)] [.int v_216, .long ((q_33.2.2.2.2 m35 (v_11 : Int32).toNatClampNeg)), .int v_11, .ref m35] := by
                            intro v_216
                            refine wa_i2l B dX12_fills_215 (fun v_218 ev_218 => ?_)
                            refine wa_aload_n B dX12_fills_216 rfl 9 rfl ?_
                            refine wa_iload B dX12_fills_217 5 rfl ?_
                            refine wa_aload_n B dX12_fills_219 rfl 9 rfl ?_
                            refine wa_getR B (C := RX12) (T := TX12) (N := 51) iq_X12_fills_X12 ha0 ka0 (by decide) rfl 30 (by decide) (by decide) (by decide +kernel) rfl (fun _ _ _ => rfl) (v := m30) p8_q_33 dX12_fills_220 ?_
                            refine wa_iload B dX12_fills_223 3 rfl ?_
                            refine wa_iaload B hm30 km30 (by decide) (by decide) (show 0 ≤ v_63.toInt by omega) (show v_63.toInt < (h.2.1 m30 : Int) by omega) (v := (q.2.2.2.1 m30 (v_63 : Int32).toNatClampNeg)) z_207 dX12_fills_225 ?_
                            refine wa_callVi B (x := (RX12, TX12, 51)) (As := [.int ((q.2.2.2.1 m25 (v_22 : Int32).toNatClampNeg)), .int ((q.2.2.2.1 m30 (v_63 : Int32).toNatClampNeg))]) (rest := [.long v_218, .long ((q_33.2.2.2.2 m35 (v_11 : Int32).toNatClampNeg)), .int v_11, .ref m35]) (k_X12_worth l dC dI h L hN q_33 hV_q_33 (a0 := a0) ha0 ka0 ((q.2.2.2.1 m25 (v_22 : Int32).toNatClampNeg)) ((q.2.2.2.1 m30 (v_63 : Int32).toNatClampNeg))  (by first | assumption | omega | decide) (by first | assumption | omega | decide) (by first | assumption | omega | decide) (by first | assumption | omega | decide)) (cwV 2 B.1.2.2.2.2 gX12_fills_X12_worth rfl rfl rfl (by decide +kernel) ⟨Nat.le_of_ble_eq_true rfl, Nat.le_of_ble_eq_true rfl⟩) ha0 ka0 (by decide) rfl rfl rfl (Nat.le_of_ble_eq_true rfl) dX12_fills_226 (fun r_220 q_219 w_221 => ?_)
                            subst w_221
                            refine wa_i2l B dX12_fills_229 (fun v_222 ev_222 => ?_)
                            refine wa_lmul B dX12_fills_230 (fun v_223 ev_223 => ?_)
                            refine wa_ladd B dX12_fills_231 (fun v_224 ev_224 => ?_)
                            refine wa_lastore B hm35 km35 (by decide) (by decide) (show 0 ≤ v_11.toInt by omega) (show v_11.toInt < (h.2.1 m35 : Int) by omega) dX12_fills_232 (fun q_225 eq_225 => ?_)
                            have hV_q_225 : sx_V h L q_225 := by rw [eq_225]; exact hV_q_33.pL
                            have hF_q_225 : sx_fr h L (fun a => h.1 a = 144 ∨ h.1 a = 245) q q_225 := hF_q_33.tr (by rw [eq_225]; exact sx_fr.pL (show h.1 m35 = 200 ∨ (h.1 m35 = 144 ∨ h.1 m35 = 245) from by omega))
                            have z_226 : q_225.2.2.2.2 m35 = (vp_updL (q_33.2.2.2.2 m35) (v_11 : Int32).toNatClampNeg v_224) := by rw [eq_225, sg_pL_e]
                            have z_227 : q_225.2.2.2.2 m35 (v_11 : Int32).toNatClampNeg = v_224 := by rw [eq_225, sg_pL_e]; exact if_pos rfl
                            have mS_q_225 : mv_S m23 m26 m28 m29 q_225 := mv_S.eq ((show q_225.2.2.2.1 m23 = q_33.2.2.2.1 m23 from by rw [eq_225]; rfl)) ((show q_225.2.2.2.1 m26 = q_33.2.2.2.1 m26 from by rw [eq_225]; rfl)) ((show q_225.2.2.2.1 m28 = q_33.2.2.2.1 m28 from by rw [eq_225]; rfl)) ((show q_225.2.2.2.1 m29 = q_33.2.2.2.1 m29 from by rw [eq_225]; rfl)) mS_q_33
                            obtain ⟨v_228, ev_228⟩ : ∃ z : Int32, z = v_31 + 1 := ⟨_, rfl⟩
                            refine wa_iinc B [(8, .int v_228), (4, .int v_206), (11, .int ((q_33.2.2.2.1 m34 (v_159 : Int32).toNatClampNeg))), (10, .int ((q_33.2.2.2.1 m34 (v_32 : Int32).toNatClampNeg))), (9, .int v_63), (7, .int ((q.2.2.2.1 m25 (v_22 : Int32).toNatClampNeg))), (6, .int v_22), (5, .int v_11), (3, .int v_4), (0, .ref a0), (1, .int n1), (2, .int n2)] v_228 dX12_fills_233 4 rfl (by rw [ev_228]; rfl) (by decide) rfl ?_
                            refine wa_goto B 85 dX12_fills_236 (by decide) ?_
                            have tv_228 : v_228.toInt = v_31.toInt + 1 := by have b0 := zx_bd v_31; rw [ev_228]; exact zx_add (show (-2147483648 : Int) ≤ v_31.toInt + 1 by omega) (show v_31.toInt + 1 < (2147483648 : Int) by omega)
                            have tv_206 : v_206.toInt = v_159.toInt + 1 := by have b0 := zx_bd v_159; rw [ev_206]; exact zx_add (show (-2147483648 : Int) ≤ v_159.toInt + 1 by omega) (show v_159.toInt + 1 < (2147483648 : Int) by omega)
                            have z_229 : q_225.2.2.1 a0 18 = m18 := ((show q_225.2.2.1 a0 18 = q_33.2.2.1 a0 18 from by rw [eq_225]; rfl)).trans (p0_q_33)
                            have z_230 : q_225.2.2.1 a0 19 = m19 := ((show q_225.2.2.1 a0 19 = q_33.2.2.1 a0 19 from by rw [eq_225]; rfl)).trans (p1_q_33)
                            have z_231 : q_225.2.2.1 a0 23 = m23 := ((show q_225.2.2.1 a0 23 = q_33.2.2.1 a0 23 from by rw [eq_225]; rfl)).trans (p2_q_33)
                            have z_232 : q_225.2.2.1 a0 25 = m25 := ((show q_225.2.2.1 a0 25 = q_33.2.2.1 a0 25 from by rw [eq_225]; rfl)).trans (p3_q_33)
                            have z_233 : q_225.2.2.1 a0 26 = m26 := ((show q_225.2.2.1 a0 26 = q_33.2.2.1 a0 26 from by rw [eq_225]; rfl)).trans (p4_q_33)
                            have z_234 : q_225.2.2.1 a0 27 = m27 := ((show q_225.2.2.1 a0 27 = q_33.2.2.1 a0 27 from by rw [eq_225]; rfl)).trans (p5_q_33)
                            have z_235 : q_225.2.2.1 a0 28 = m28 := ((show q_225.2.2.1 a0 28 = q_33.2.2.1 a0 28 from by rw [eq_225]; rfl)).trans (p6_q_33)
                            have z_236 : q_225.2.2.1 a0 29 = m29 := ((show q_225.2.2.1 a0 29 = q_33.2.2.1 a0 29 from by rw [eq_225]; rfl)).trans (p7_q_33)
                            have z_237 : q_225.2.2.1 a0 30 = m30 := ((show q_225.2.2.1 a0 30 = q_33.2.2.1 a0 30 from by rw [eq_225]; rfl)).trans (p8_q_33)
                            have z_238 : q_225.2.2.1 a0 34 = m34 := ((show q_225.2.2.1 a0 34 = q_33.2.2.1 a0 34 from by rw [eq_225]; rfl)).trans (p9_q_33)
                            have z_239 : q_225.2.2.1 a0 35 = m35 := ((show q_225.2.2.1 a0 35 = q_33.2.2.1 a0 35 from by rw [eq_225]; rfl)).trans (p10_q_33)
                            have z_240 : q_225.2.2.2.1 m18 = (q.2.2.2.1 m18) := ((show q_225.2.2.2.1 m18 = q_33.2.2.2.1 m18 from by rw [eq_225]; rfl)).trans (p11_q_33)
                            have z_241 : q_225.2.2.2.1 m19 = (q.2.2.2.1 m19) := ((show q_225.2.2.2.1 m19 = q_33.2.2.2.1 m19 from by rw [eq_225]; rfl)).trans (p12_q_33)
                            have z_242 : q_225.2.2.2.1 m23 = (q.2.2.2.1 m23) := ((show q_225.2.2.2.1 m23 = q_33.2.2.2.1 m23 from by rw [eq_225]; rfl)).trans (p13_q_33)
                            have z_243 : q_225.2.2.2.1 m25 = (q.2.2.2.1 m25) := ((show q_225.2.2.2.1 m25 = q_33.2.2.2.1 m25 from by rw [eq_225]; rfl)).trans (p14_q_33)
                            have z_244 : q_225.2.2.2.1 m26 = (q.2.2.2.1 m26) := ((show q_225.2.2.2.1 m26 = q_33.2.2.2.1 m26 from by rw [eq_225]; rfl)).trans (p15_q_33)
                            have z_245 : q_225.2.2.2.1 m27 = (q.2.2.2.1 m27) := ((show q_225.2.2.2.1 m27 = q_33.2.2.2.1 m27 from by rw [eq_225]; rfl)).trans (p16_q_33)
                            have z_246 : q_225.2.2.2.1 m28 = (q.2.2.2.1 m28) := ((show q_225.2.2.2.1 m28 = q_33.2.2.2.1 m28 from by rw [eq_225]; rfl)).trans (p17_q_33)
                            have z_247 : q_225.2.2.2.1 m29 = (q.2.2.2.1 m29) := ((show q_225.2.2.2.1 m29 = q_33.2.2.2.1 m29 from by rw [eq_225]; rfl)).trans (p18_q_33)
                            have z_248 : q_225.2.2.2.1 m30 = (q.2.2.2.1 m30) := ((show q_225.2.2.2.1 m30 = q_33.2.2.2.1 m30 from by rw [eq_225]; rfl)).trans (p19_q_33)
                            refine WA.sub [0, 5, 6, 7, 1, 8, 9, 10, 11] rfl ?_
                            exact ih_57 v_228 v_206 q_225 hV_q_225 hF_q_225 mS_q_225 z_229 z_230 z_231 z_232 z_233 z_234 z_235 z_236 z_237 z_238 z_239 z_240 z_241 z_242 z_243 z_244 z_245 z_246 z_247 z_248 (show 0 ≤ v_228.toInt from by first | assumption | omega | decide) (show v_228.toInt ≤ (q.2.2.2.1 m26 (v_22).toNatClampNeg).toInt from by first | assumption | omega | decide) (show v_206.toInt = ((mv_s (q.2.2.2.1 m28) (q.2.2.2.1 m29) (q.2.2.2.1 m26) n1.toNatClampNeg (v_11).toNatClampNeg + mv_n (q.2.2.2.1 m28) (q.2.2.2.1 m29) (v_22).toNatClampNeg (v_228).toNatClampNeg : Nat) : Int) from by have a6 := zx_nc v_228; rw [show (v_228 : Int32).toNatClampNeg = (v_31 : Int32).toNatClampNeg + 1 by omega]; omega) (show (5 - v_228.toInt : Int).toNat < _ from by omega)
                          refine wa_icmp_ne B 207 dX12_fills_199 (by decide) (fun (t_249 : ¬ ((q_33.2.2.2.1 m34 (v_159 : Int32).toNatClampNeg)).toInt = (-1)) => ?_) (fun (t_249 : ((q_33.2.2.2.1 m34 (v_159 : Int32).toNatClampNeg)).toInt = (-1)) => ?_)
                          · refine wa_bipush B 10 dX12_fills_207 (by decide) ?_
                            refine wa_iload B dX12_fills_209 2 rfl ?_
                            refine wa_imul B dX12_fills_211 (fun v_250 ev_250 => ?_)
                            refine wa_iload B dX12_fills_212 1 rfl ?_
                            refine wa_iadd B dX12_fills_214 (fun v_251 ev_251 => ?_)
                            exact Jn_215_217 v_251
                          · refine wa_iload B dX12_fills_202 2 rfl ?_
                            refine wa_goto B 215 dX12_fills_204 (by decide) ?_
                            exact Jn_215_217 ((q_33.2.2.2.1 m34 (v_32 : Int32).toNatClampNeg))
                        · refine wa_iconst B 0 dX12_fills_186 (by decide) ?_
                          exact hret _ _ _ _ dX12_fills_187 (Or.inl rfl) ⟨hV_q_33, hF_q_33, mS_q_33, (by have h9 : (0 : Int32).toInt = 0 := rfl; first | omega | (refine ⟨?_, ?_⟩ <;> omega) | trivial)⟩
              exact Lp_85_56 _ 0 v_12 q_25 hV_q_25 hF_q_25 mS_q_25 z_34 z_35 z_36 z_37 z_38 z_39 z_40 z_41 z_42 z_43 z_44 z_45 z_46 z_47 z_48 z_28 z_49 z_50 z_51 z_52 (show 0 ≤ 0 from by first | assumption | omega | decide) (show 0 ≤ (q.2.2.2.1 m26 (v_22).toNatClampNeg).toInt from by first | assumption | omega | decide) (show v_12.toInt = ((mv_s (q.2.2.2.1 m28) (q.2.2.2.1 m29) (q.2.2.2.1 m26) n1.toNatClampNeg (v_11).toNatClampNeg + mv_n (q.2.2.2.1 m28) (q.2.2.2.1 m29) (v_22).toNatClampNeg ((0 : Int32)).toNatClampNeg : Nat) : Int) from by rw [show (0 : Int32).toNatClampNeg = 0 from rfl]; show _ = ((_ + 0 : Nat) : Int); omega) (Nat.lt_succ_self _)
        exact Lp_45_16 _ 0 0 q_5 hV_q_5 hF_q_5 mS_q_5 p0_q_5 p1_q_5 p2_q_5 p3_q_5 p4_q_5 p5_q_5 p6_q_5 p7_q_5 p8_q_5 p9_q_5 p10_q_5 p11_q_5 p12_q_5 p13_q_5 p14_q_5 p15_q_5 p16_q_5 p17_q_5 p18_q_5 p19_q_5 (show 0 ≤ 0 from by first | assumption | omega | decide) (show 0 = ((mv_s (q.2.2.2.1 m28) (q.2.2.2.1 m29) (q.2.2.2.1 m26) n1.toNatClampNeg ((0 : Int32)).toNatClampNeg : Nat) : Int) from by rfl) (Nat.lt_succ_self _)
      · refine wa_aload_n B dX12_fills_17 rfl 2 rfl ?_
        refine wa_getR B (C := RX12) (T := TX12) (N := 51) iq_X12_fills_X12 ha0 ka0 (by decide) rfl 34 (by decide) (by decide) (by decide +kernel) rfl (fun _ _ _ => rfl) (v := m34) p9_q_5 dX12_fills_18 ?_
        refine wa_iload B dX12_fills_21 0 rfl ?_
        refine wa_iload_n B dX12_fills_23 rfl 1 rfl ?_
        refine wa_bipush B 10 dX12_fills_24 (by decide) ?_
        refine wa_irem B dX12_fills_26 (by decide) (fun v_252 ev_252 => ?_)
        refine wa_iastore B hm34 km34 (by decide) (by decide) (show 0 ≤ v_3.toInt by omega) (show v_3.toInt < (h.2.1 m34 : Int) by omega) dX12_fills_27 (fun q_253 eq_253 => ?_)
        have hV_q_253 : sx_V h L q_253 := by rw [eq_253]; exact hV_q_5.up1 hm34 km34 trivial
        have hF_q_253 : sx_fr h L (fun a => h.1 a = 144 ∨ h.1 a = 245) q q_253 := hF_q_5.tr (by rw [eq_253]; exact sx_fr.pG (show h.1 m34 = 100 ∨ (h.1 m34 = 144 ∨ h.1 m34 = 245) from by omega))
        have z_254 : q_253.2.2.2.1 m34 = (upd (q_5.2.2.2.1 m34) (v_3 : Int32).toNatClampNeg v_252) := by rw [eq_253, sg_pG_e]
        have z_255 : q_253.2.2.2.1 m34 (v_3 : Int32).toNatClampNeg = v_252 := by rw [eq_253, sg_pG_e]; exact if_pos rfl
        have mS_q_253 : mv_S m23 m26 m28 m29 q_253 := mv_S.eq ((show q_253.2.2.2.1 m23 = q_5.2.2.2.1 m23 from by rw [eq_253]; exact sg_pG_a (sx_ka h km23 km34 (by decide)))) ((show q_253.2.2.2.1 m26 = q_5.2.2.2.1 m26 from by rw [eq_253]; exact sg_pG_a (sx_ka h km26 km34 (by decide)))) ((show q_253.2.2.2.1 m28 = q_5.2.2.2.1 m28 from by rw [eq_253]; exact sg_pG_a (sx_ka h km28 km34 (by decide)))) ((show q_253.2.2.2.1 m29 = q_5.2.2.2.1 m29 from by rw [eq_253]; exact sg_pG_a (sx_ka h km29 km34 (by decide)))) mS_q_5
        refine wa_iload_n B dX12_fills_28 rfl 1 rfl ?_
        refine wa_bipush B 10 dX12_fills_29 (by decide) ?_
        refine wa_idiv B dX12_fills_31 (by decide) (fun v_256 ev_256 => ?_)
        refine wa_istore_n B [(3, .int v_256), (4, .int v_3), (0, .ref a0), (1, .int n1), (2, .int n2)] dX12_fills_32 rfl (by decide) rfl ?_
        obtain ⟨v_257, ev_257⟩ : ∃ z : Int32, z = v_3 + (-1) := ⟨_, rfl⟩
        refine wa_iinc B [(4, .int v_257), (3, .int v_256), (0, .ref a0), (1, .int n1), (2, .int n2)] v_257 dX12_fills_33 1 rfl (by rw [ev_257]; rfl) (by decide) rfl ?_
        refine wa_goto B 12 dX12_fills_36 (by decide) ?_
        have tv_257 : v_257.toInt = v_3.toInt + (-1) := by have b0 := zx_bd v_3; rw [ev_257]; exact zx_add (show (-2147483648 : Int) ≤ v_3.toInt + (-1) by omega) (show v_3.toInt + (-1) < (2147483648 : Int) by omega)
        have z_258 : q_253.2.2.1 a0 18 = m18 := ((show q_253.2.2.1 a0 18 = q_5.2.2.1 a0 18 from by rw [eq_253]; rfl)).trans (p0_q_5)
        have z_259 : q_253.2.2.1 a0 19 = m19 := ((show q_253.2.2.1 a0 19 = q_5.2.2.1 a0 19 from by rw [eq_253]; rfl)).trans (p1_q_5)
        have z_260 : q_253.2.2.1 a0 23 = m23 := ((show q_253.2.2.1 a0 23 = q_5.2.2.1 a0 23 from by rw [eq_253]; rfl)).trans (p2_q_5)
        have z_261 : q_253.2.2.1 a0 25 = m25 := ((show q_253.2.2.1 a0 25 = q_5.2.2.1 a0 25 from by rw [eq_253]; rfl)).trans (p3_q_5)
        have z_262 : q_253.2.2.1 a0 26 = m26 := ((show q_253.2.2.1 a0 26 = q_5.2.2.1 a0 26 from by rw [eq_253]; rfl)).trans (p4_q_5)
        have z_263 : q_253.2.2.1 a0 27 = m27 := ((show q_253.2.2.1 a0 27 = q_5.2.2.1 a0 27 from by rw [eq_253]; rfl)).trans (p5_q_5)
        have z_264 : q_253.2.2.1 a0 28 = m28 := ((show q_253.2.2.1 a0 28 = q_5.2.2.1 a0 28 from by rw [eq_253]; rfl)).trans (p6_q_5)
        have z_265 : q_253.2.2.1 a0 29 = m29 := ((show q_253.2.2.1 a0 29 = q_5.2.2.1 a0 29 from by rw [eq_253]; rfl)).trans (p7_q_5)
        have z_266 : q_253.2.2.1 a0 30 = m30 := ((show q_253.2.2.1 a0 30 = q_5.2.2.1 a0 30 from by rw [eq_253]; rfl)).trans (p8_q_5)
        have z_267 : q_253.2.2.1 a0 34 = m34 := ((show q_253.2.2.1 a0 34 = q_5.2.2.1 a0 34 from by rw [eq_253]; rfl)).trans (p9_q_5)
        have z_268 : q_253.2.2.1 a0 35 = m35 := ((show q_253.2.2.1 a0 35 = q_5.2.2.1 a0 35 from by rw [eq_253]; rfl)).trans (p10_q_5)
        have z_269 : q_253.2.2.2.1 m18 = (q.2.2.2.1 m18) := ((show q_253.2.2.2.1 m18 = q_5.2.2.2.1 m18 from by rw [eq_253]; exact sg_pG_a (sx_ka h km18 km34 (by decide)))).trans (p11_q_5)
        have z_270 : q_253.2.2.2.1 m19 = (q.2.2.2.1 m19) := ((show q_253.2.2.2.1 m19 = q_5.2.2.2.1 m19 from by rw [eq_253]; exact sg_pG_a (sx_ka h km19 km34 (by decide)))).trans (p12_q_5)
        have z_271 : q_253.2.2.2.1 m23 = (q.2.2.2.1 m23) := ((show q_253.2.2.2.1 m23 = q_5.2.2.2.1 m23 from by rw [eq_253]; exact sg_pG_a (sx_ka h km23 km34 (by decide)))).trans (p13_q_5)
        have z_272 : q_253.2.2.2.1 m25 = (q.2.2.2.1 m25) := ((show q_253.2.2.2.1 m25 = q_5.2.2.2.1 m25 from by rw [eq_253]; exact sg_pG_a (sx_ka h km25 km34 (by decide)))).trans (p14_q_5)
        have z_273 : q_253.2.2.2.1 m26 = (q.2.2.2.1 m26) := ((show q_253.2.2.2.1 m26 = q_5.2.2.2.1 m26 from by rw [eq_253]; exact sg_pG_a (sx_ka h km26 km34 (by decide)))).trans (p15_q_5)
        have z_274 : q_253.2.2.2.1 m27 = (q.2.2.2.1 m27) := ((show q_253.2.2.2.1 m27 = q_5.2.2.2.1 m27 from by rw [eq_253]; exact sg_pG_a (sx_ka h km27 km34 (by decide)))).trans (p16_q_5)
        have z_275 : q_253.2.2.2.1 m28 = (q.2.2.2.1 m28) := ((show q_253.2.2.2.1 m28 = q_5.2.2.2.1 m28 from by rw [eq_253]; exact sg_pG_a (sx_ka h km28 km34 (by decide)))).trans (p17_q_5)
        have z_276 : q_253.2.2.2.1 m29 = (q.2.2.2.1 m29) := ((show q_253.2.2.2.1 m29 = q_5.2.2.2.1 m29 from by rw [eq_253]; exact sg_pG_a (sx_ka h km29 km34 (by decide)))).trans (p18_q_5)
        have z_277 : q_253.2.2.2.1 m30 = (q.2.2.2.1 m30) := ((show q_253.2.2.2.1 m30 = q_5.2.2.2.1 m30 from by rw [eq_253]; exact sg_pG_a (sx_ka h km30 km34 (by decide)))).trans (p19_q_5)
        have z_278 : q_253.2.2.2.2 m35 = (q.2.2.2.2 m35) := ((show q_253.2.2.2.2 m35 = q_5.2.2.2.2 m35 from by rw [eq_253]; rfl)).trans (p20_q_5)
        exact ih_9 v_257 v_256 q_253 hV_q_253 hF_q_253 mS_q_253 z_258 z_259 z_260 z_261 z_262 z_263 z_264 z_265 z_266 z_267 z_268 z_269 z_270 z_271 z_272 z_273 z_274 z_275 z_276 z_277 z_278 (show (-1) ≤ v_257.toInt from by first | assumption | omega | decide) (show v_257.toInt ≤ 3 from by first | assumption | omega | decide) (show (v_257.toInt + 1 : Int).toNat < _ from by omega)
  have tv_2 : v_2.toInt = ((q.2.2.2.1 m27 (n1 : Int32).toNatClampNeg)).toInt - 1 := by have b0 := zx_bd ((q.2.2.2.1 m27 (n1 : Int32).toNatClampNeg)); rw [ev_2]; exact zx_sub (show (-2147483648 : Int) ≤ ((q.2.2.2.1 m27 (n1 : Int32).toNatClampNeg)).toInt - 1 by omega) (show ((q.2.2.2.1 m27 (n1 : Int32).toNatClampNeg)).toInt - 1 < (2147483648 : Int) by omega)
  exact Lp_12_8 _ v_2 n2 q hV hF mS em18 em19 em23 em25 em26 em27 em28 em29 em30 em34 em35 rfl rfl rfl rfl rfl rfl rfl rfl rfl rfl (show (-1) ≤ v_2.toInt from by first | assumption | omega | decide) (show v_2.toInt ≤ 3 from by first | assumption | omega | decide) (Nat.lt_succ_self _)
theorem iq_X12_readAll_X12 : ∀ w ∈ wsX120, w ∈ wsX12_readAll := fun _ h => List.mem_cons_of_mem _ (List.mem_append_right _ h)
set_option maxHeartbeats 4000000 in
set_option maxRecDepth 100000 in
theorem k_X12_readAll (l : Launch) (dC : Nat → ClassId) (dI : Nat → Nat → Nat) (h : Sh) (L : List Nat) (hN : sx_nd L) (q : Sg) (hV : sx_V h L q) {a0 : Nat} (ha0 : a0 ∈ L) (ka0 : h.1 a0 = 12) (n1 : Int32) (n2 : Int32) (n3 : Int32) {m18 : Nat} (em18 : q.2.2.1 a0 18 = m18) {m19 : Nat} (em19 : q.2.2.1 a0 19 = m19) {m23 : Nat} (em23 : q.2.2.1 a0 23 = m23) {m25 : Nat} (em25 : q.2.2.1 a0 25 = m25) {m26 : Nat} (em26 : q.2.2.1 a0 26 = m26) {m27 : Nat} (em27 : q.2.2.1 a0 27 = m27) {m28 : Nat} (em28 : q.2.2.1 a0 28 = m28) {m29 : Nat} (em29 : q.2.2.1 a0 29 = m29) {m30 : Nat} (em30 : q.2.2.1 a0 30 = m30) {m34 : Nat} (em34 : q.2.2.1 a0 34 = m34) {m35 : Nat} (em35 : q.2.2.1 a0 35 = m35) (mS : mv_S m23 m26 m28 m29 q)  (hy0 : 0 ≤ n1.toInt) (hy1 : n1.toInt ≤ 8) (hy2 : (-1) ≤ n2.toInt) (hy3 : n2.toInt ≤ 11) (hy4 : (-1) ≤ n3.toInt) (hy5 : n3.toInt ≤ 3) : CMv l dC dI h L yX12_readAll wsX12_readAll ({ frames := 2, cells := 0, slots := 0, locals := 55 } : Room) q [.ref a0, .int n1, .int n2, .int n3] (fun q' => sx_V h L q' ∧ sx_fr h L (fun a => h.1 a = 12 ∨ h.1 a = 144 ∨ h.1 a = 245) q q' ∧ sx_kf a0 [36, 37, 38, 39] q q' ∧ mv_S m23 m26 m28 m29 q') := by
  refine cm_v (cc := cX12_readAll) (mL := 5) (own := RX12) hN (by decide) rfl rfl (Nat.le_of_ble_eq_true rfl) (fun Z B hret => ?_)
  have hF : sx_fr h L (fun a => h.1 a = 12 ∨ h.1 a = 144 ∨ h.1 a = 245) q q := sx_fr.rf
  have hK : sx_kf a0 [36, 37, 38, 39] q q := sx_kf.rf
  obtain ⟨hm18, km18, lm18⟩ : m18 ∈ L ∧ h.1 m18 = 128 ∧ h.2.1 m18 = 6 := by obtain ⟨r9, e9, z1, z2, z3⟩ := hV.refn (t := 128) (n := 6) ha0 ka0 18 rfl (by decide) rfl (by decide); rw [← em18, e9]; exact ⟨z1, z2, z3⟩
  obtain ⟨hm19, km19, lm19⟩ : m19 ∈ L ∧ h.1 m19 = 129 ∧ h.2.1 m19 = 30 := by obtain ⟨r9, e9, z1, z2, z3⟩ := hV.refn (t := 129) (n := 30) ha0 ka0 19 rfl (by decide) rfl (by decide); rw [← em19, e9]; exact ⟨z1, z2, z3⟩
  obtain ⟨hm23, km23, lm23⟩ : m23 ∈ L ∧ h.1 m23 = 133 ∧ h.2.1 m23 = 9 := by obtain ⟨r9, e9, z1, z2, z3⟩ := hV.refn (t := 133) (n := 9) ha0 ka0 23 rfl (by decide) rfl (by decide); rw [← em23, e9]; exact ⟨z1, z2, z3⟩
  obtain ⟨hm25, km25, lm25⟩ : m25 ∈ L ∧ h.1 m25 = 135 ∧ h.2.1 m25 = 108 := by obtain ⟨r9, e9, z1, z2, z3⟩ := hV.refn (t := 135) (n := 108) ha0 ka0 25 rfl (by decide) rfl (by decide); rw [← em25, e9]; exact ⟨z1, z2, z3⟩
  obtain ⟨hm26, km26, lm26⟩ : m26 ∈ L ∧ h.1 m26 = 136 ∧ h.2.1 m26 = 108 := by obtain ⟨r9, e9, z1, z2, z3⟩ := hV.refn (t := 136) (n := 108) ha0 ka0 26 rfl (by decide) rfl (by decide); rw [← em26, e9]; exact ⟨z1, z2, z3⟩
  obtain ⟨hm27, km27, lm27⟩ : m27 ∈ L ∧ h.1 m27 = 137 ∧ h.2.1 m27 = 9 := by obtain ⟨r9, e9, z1, z2, z3⟩ := hV.refn (t := 137) (n := 9) ha0 ka0 27 rfl (by decide) rfl (by decide); rw [← em27, e9]; exact ⟨z1, z2, z3⟩
  obtain ⟨hm28, km28, lm28⟩ : m28 ∈ L ∧ h.1 m28 = 138 ∧ h.2.1 m28 = 540 := by obtain ⟨r9, e9, z1, z2, z3⟩ := hV.refn (t := 138) (n := 540) ha0 ka0 28 rfl (by decide) rfl (by decide); rw [← em28, e9]; exact ⟨z1, z2, z3⟩
  obtain ⟨hm29, km29, lm29⟩ : m29 ∈ L ∧ h.1 m29 = 139 ∧ h.2.1 m29 = 540 := by obtain ⟨r9, e9, z1, z2, z3⟩ := hV.refn (t := 139) (n := 540) ha0 ka0 29 rfl (by decide) rfl (by decide); rw [← em29, e9]; exact ⟨z1, z2, z3⟩
  obtain ⟨hm30, km30, lm30⟩ : m30 ∈ L ∧ h.1 m30 = 140 ∧ h.2.1 m30 = 540 := by obtain ⟨r9, e9, z1, z2, z3⟩ := hV.refn (t := 140) (n := 540) ha0 ka0 30 rfl (by decide) rfl (by decide); rw [← em30, e9]; exact ⟨z1, z2, z3⟩
  obtain ⟨hm34, km34, lm34⟩ : m34 ∈ L ∧ h.1 m34 = 144 ∧ h.2.1 m34 = 4 := by obtain ⟨r9, e9, z1, z2, z3⟩ := hV.refn (t := 144) (n := 4) ha0 ka0 34 rfl (by decide) rfl (by decide); rw [← em34, e9]; exact ⟨z1, z2, z3⟩
  obtain ⟨hm35, km35, lm35⟩ : m35 ∈ L ∧ h.1 m35 = 245 ∧ h.2.1 m35 = 12 := by obtain ⟨r9, e9, z1, z2, z3⟩ := hV.refn (t := 245) (n := 12) ha0 ka0 35 rfl (by decide) rfl (by decide); rw [← em35, e9]; exact ⟨z1, z2, z3⟩
  show WA l dC dI h L ({ frames := 2, cells := 0, slots := 0, locals := 55 } : Room) 5 Z q 0 [(0, .ref a0), (1, .int n1), (2, .int n2), (3, .int n3)] []
  refine wa_aload_n B dX12_readAll_0 rfl 0 rfl ?_
  refine wa_iconst B 0 dX12_readAll_1 (by decide) ?_
  refine wa_putI B (C := RX12) (T := TX12) (N := 51) iq_X12_readAll_X12 ha0 ka0 (by decide) rfl 36 (by decide) (by decide) (by decide +kernel) rfl (by decide) (v := 0) (ty := .int) tyX12 tyX12_ok nmX12 rfl (by decide +kernel) rfl rfl dX12_readAll_2 (fun q_1 eq_1 => ?_)
  have hV_q_1 : sx_V h L q_1 := by rw [eq_1]; exact hV.pI ka0 trivial
  have hF_q_1 : sx_fr h L (fun a => h.1 a = 12 ∨ h.1 a = 144 ∨ h.1 a = 245) q q_1 := hF.tr (by rw [eq_1]; exact sx_fr.pI (show h.1 a0 = 12 ∨ h.1 a0 = 144 ∨ h.1 a0 = 245 from by omega))
  have z_2 : q_1.1 a0 36 = 0 := by rw [eq_1]; exact sg_pI_e
  have hK_q_1 : sx_kf a0 [36, 37, 38, 39] q q_1 := hK.tr (by rw [eq_1]; exact sx_kf.pI (by decide))
  have mS_q_1 : mv_S m23 m26 m28 m29 q_1 := mv_S.eq ((show q_1.2.2.2.1 m23 = q.2.2.2.1 m23 from by rw [eq_1]; rfl)) ((show q_1.2.2.2.1 m26 = q.2.2.2.1 m26 from by rw [eq_1]; rfl)) ((show q_1.2.2.2.1 m28 = q.2.2.2.1 m28 from by rw [eq_1]; rfl)) ((show q_1.2.2.2.1 m29 = q.2.2.2.1 m29 from by rw [eq_1]; rfl)) mS
  refine wa_aload_n B dX12_readAll_5 rfl 0 rfl ?_
  refine wa_iconst B (-1) dX12_readAll_6 (by decide) ?_
  refine wa_putI B (C := RX12) (T := TX12) (N := 51) iq_X12_readAll_X12 ha0 ka0 (by decide) rfl 37 (by decide) (by decide) (by decide +kernel) rfl (by decide) (v := (-1)) (ty := .int) tyX12 tyX12_ok nmX12 rfl (by decide +kernel) rfl rfl dX12_readAll_7 (fun q_3 eq_3 => ?_)
  have hV_q_3 : sx_V h L q_3 := by rw [eq_3]; exact hV_q_1.pI ka0 trivial
  have hF_q_3 : sx_fr h L (fun a => h.1 a = 12 ∨ h.1 a = 144 ∨ h.1 a = 245) q q_3 := hF_q_1.tr (by rw [eq_3]; exact sx_fr.pI (show h.1 a0 = 12 ∨ h.1 a0 = 144 ∨ h.1 a0 = 245 from by omega))
  have z_4 : q_3.1 a0 37 = (-1) := by rw [eq_3]; exact sg_pI_e
  have hK_q_3 : sx_kf a0 [36, 37, 38, 39] q q_3 := hK_q_1.tr (by rw [eq_3]; exact sx_kf.pI (by decide))
  have mS_q_3 : mv_S m23 m26 m28 m29 q_3 := mv_S.eq ((show q_3.2.2.2.1 m23 = q_1.2.2.2.1 m23 from by rw [eq_3]; rfl)) ((show q_3.2.2.2.1 m26 = q_1.2.2.2.1 m26 from by rw [eq_3]; rfl)) ((show q_3.2.2.2.1 m28 = q_1.2.2.2.1 m28 from by rw [eq_3]; rfl)) ((show q_3.2.2.2.1 m29 = q_1.2.2.2.1 m29 from by rw [eq_3]; rfl)) mS_q_1
  refine wa_iconst B 0 dX12_readAll_10 (by decide) ?_
  refine wa_istore B [(4, .int 0), (0, .ref a0), (1, .int n1), (2, .int n2), (3, .int n3)] dX12_readAll_11 (by decide) rfl ?_
  have z_7 : q_3.1 a0 36 = 0 := ((show q_3.1 a0 36 = q_1.1 a0 36 from by rw [eq_3]; exact sg_pI_k (by decide))).trans (z_2)
  have z_8 : q_3.2.2.1 a0 18 = m18 := ((show q_3.2.2.1 a0 18 = q_1.2.2.1 a0 18 from by rw [eq_3]; rfl)).trans (((show q_1.2.2.1 a0 18 = q.2.2.1 a0 18 from by rw [eq_1]; rfl)).trans (em18))
  have z_9 : q_3.2.2.1 a0 19 = m19 := ((show q_3.2.2.1 a0 19 = q_1.2.2.1 a0 19 from by rw [eq_3]; rfl)).trans (((show q_1.2.2.1 a0 19 = q.2.2.1 a0 19 from by rw [eq_1]; rfl)).trans (em19))
  have z_10 : q_3.2.2.1 a0 23 = m23 := ((show q_3.2.2.1 a0 23 = q_1.2.2.1 a0 23 from by rw [eq_3]; rfl)).trans (((show q_1.2.2.1 a0 23 = q.2.2.1 a0 23 from by rw [eq_1]; rfl)).trans (em23))
  have z_11 : q_3.2.2.1 a0 25 = m25 := ((show q_3.2.2.1 a0 25 = q_1.2.2.1 a0 25 from by rw [eq_3]; rfl)).trans (((show q_1.2.2.1 a0 25 = q.2.2.1 a0 25 from by rw [eq_1]; rfl)).trans (em25))
  have z_12 : q_3.2.2.1 a0 26 = m26 := ((show q_3.2.2.1 a0 26 = q_1.2.2.1 a0 26 from by rw [eq_3]; rfl)).trans (((show q_1.2.2.1 a0 26 = q.2.2.1 a0 26 from by rw [eq_1]; rfl)).trans (em26))
  have z_13 : q_3.2.2.1 a0 27 = m27 := ((show q_3.2.2.1 a0 27 = q_1.2.2.1 a0 27 from by rw [eq_3]; rfl)).trans (((show q_1.2.2.1 a0 27 = q.2.2.1 a0 27 from by rw [eq_1]; rfl)).trans (em27))
  have z_14 : q_3.2.2.1 a0 28 = m28 := ((show q_3.2.2.1 a0 28 = q_1.2.2.1 a0 28 from by rw [eq_3]; rfl)).trans (((show q_1.2.2.1 a0 28 = q.2.2.1 a0 28 from by rw [eq_1]; rfl)).trans (em28))
  have z_15 : q_3.2.2.1 a0 29 = m29 := ((show q_3.2.2.1 a0 29 = q_1.2.2.1 a0 29 from by rw [eq_3]; rfl)).trans (((show q_1.2.2.1 a0 29 = q.2.2.1 a0 29 from by rw [eq_1]; rfl)).trans (em29))
  have z_16 : q_3.2.2.1 a0 30 = m30 := ((show q_3.2.2.1 a0 30 = q_1.2.2.1 a0 30 from by rw [eq_3]; rfl)).trans (((show q_1.2.2.1 a0 30 = q.2.2.1 a0 30 from by rw [eq_1]; rfl)).trans (em30))
  have z_17 : q_3.2.2.1 a0 34 = m34 := ((show q_3.2.2.1 a0 34 = q_1.2.2.1 a0 34 from by rw [eq_3]; rfl)).trans (((show q_1.2.2.1 a0 34 = q.2.2.1 a0 34 from by rw [eq_1]; rfl)).trans (em34))
  have z_18 : q_3.2.2.1 a0 35 = m35 := ((show q_3.2.2.1 a0 35 = q_1.2.2.1 a0 35 from by rw [eq_3]; rfl)).trans (((show q_1.2.2.1 a0 35 = q.2.2.1 a0 35 from by rw [eq_1]; rfl)).trans (em35))
  have z_19 : q_3.2.2.2.1 m18 = q.2.2.2.1 m18 := ((show q_3.2.2.2.1 m18 = q_1.2.2.2.1 m18 from by rw [eq_3]; rfl)).trans ((show q_1.2.2.2.1 m18 = q.2.2.2.1 m18 from by rw [eq_1]; rfl))
  have z_20 : q_3.2.2.2.1 m19 = q.2.2.2.1 m19 := ((show q_3.2.2.2.1 m19 = q_1.2.2.2.1 m19 from by rw [eq_3]; rfl)).trans ((show q_1.2.2.2.1 m19 = q.2.2.2.1 m19 from by rw [eq_1]; rfl))
  have z_21 : q_3.2.2.2.1 m23 = q.2.2.2.1 m23 := ((show q_3.2.2.2.1 m23 = q_1.2.2.2.1 m23 from by rw [eq_3]; rfl)).trans ((show q_1.2.2.2.1 m23 = q.2.2.2.1 m23 from by rw [eq_1]; rfl))
  have z_22 : q_3.2.2.2.1 m25 = q.2.2.2.1 m25 := ((show q_3.2.2.2.1 m25 = q_1.2.2.2.1 m25 from by rw [eq_3]; rfl)).trans ((show q_1.2.2.2.1 m25 = q.2.2.2.1 m25 from by rw [eq_1]; rfl))
  have z_23 : q_3.2.2.2.1 m26 = q.2.2.2.1 m26 := ((show q_3.2.2.2.1 m26 = q_1.2.2.2.1 m26 from by rw [eq_3]; rfl)).trans ((show q_1.2.2.2.1 m26 = q.2.2.2.1 m26 from by rw [eq_1]; rfl))
  have z_24 : q_3.2.2.2.1 m27 = q.2.2.2.1 m27 := ((show q_3.2.2.2.1 m27 = q_1.2.2.2.1 m27 from by rw [eq_3]; rfl)).trans ((show q_1.2.2.2.1 m27 = q.2.2.2.1 m27 from by rw [eq_1]; rfl))
  have z_25 : q_3.2.2.2.1 m28 = q.2.2.2.1 m28 := ((show q_3.2.2.2.1 m28 = q_1.2.2.2.1 m28 from by rw [eq_3]; rfl)).trans ((show q_1.2.2.2.1 m28 = q.2.2.2.1 m28 from by rw [eq_1]; rfl))
  have z_26 : q_3.2.2.2.1 m29 = q.2.2.2.1 m29 := ((show q_3.2.2.2.1 m29 = q_1.2.2.2.1 m29 from by rw [eq_3]; rfl)).trans ((show q_1.2.2.2.1 m29 = q.2.2.2.1 m29 from by rw [eq_1]; rfl))
  have z_27 : q_3.2.2.2.1 m30 = q.2.2.2.1 m30 := ((show q_3.2.2.2.1 m30 = q_1.2.2.2.1 m30 from by rw [eq_3]; rfl)).trans ((show q_1.2.2.2.1 m30 = q.2.2.2.1 m30 from by rw [eq_1]; rfl))
  have z_28 : q_3.2.2.2.1 m34 = q.2.2.2.1 m34 := ((show q_3.2.2.2.1 m34 = q_1.2.2.2.1 m34 from by rw [eq_3]; rfl)).trans ((show q_1.2.2.2.1 m34 = q.2.2.2.1 m34 from by rw [eq_1]; rfl))
  have z_29 : q_3.2.2.2.2 m35 = q.2.2.2.2 m35 := ((show q_3.2.2.2.2 m35 = q_1.2.2.2.2 m35 from by rw [eq_3]; rfl)).trans ((show q_1.2.2.2.2 m35 = q.2.2.2.2 m35 from by rw [eq_1]; rfl))
  have Lp_13_31 : ∀ (n : Nat) (v_5 : Int32) (q_6 : Sg), sx_V h L q_6 → sx_fr h L (fun a => h.1 a = 12 ∨ h.1 a = 144 ∨ h.1 a = 245) q q_6 → sx_kf a0 [36, 37, 38, 39] q q_6 → mv_S m23 m26 m28 m29 q_6 → q_6.2.2.1 a0 18 = m18 → q_6.2.2.1 a0 19 = m19 → q_6.2.2.1 a0 23 = m23 → q_6.2.2.1 a0 25 = m25 → q_6.2.2.1 a0 26 = m26 → q_6.2.2.1 a0 27 = m27 → q_6.2.2.1 a0 28 = m28 → q_6.2.2.1 a0 29 = m29 → q_6.2.2.1 a0 30 = m30 → q_6.2.2.1 a0 34 = m34 → q_6.2.2.1 a0 35 = m35 → q_6.2.2.2.1 m18 = (q.2.2.2.1 m18) → q_6.2.2.2.1 m19 = (q.2.2.2.1 m19) → q_6.2.2.2.1 m23 = (q.2.2.2.1 m23) → q_6.2.2.2.1 m25 = (q.2.2.2.1 m25) → q_6.2.2.2.1 m26 = (q.2.2.2.1 m26) → q_6.2.2.2.1 m27 = (q.2.2.2.1 m27) → q_6.2.2.2.1 m28 = (q.2.2.2.1 m28) → q_6.2.2.2.1 m29 = (q.2.2.2.1 m29) → q_6.2.2.2.1 m30 = (q.2.2.2.1 m30) → 0 ≤ v_5.toInt → (10001 - v_5.toInt : Int).toNat < n → WA l dC dI h L ({ frames := 2, cells := 0, slots := 0, locals := 55 } : Room) 5 Z q_6 13 [(4, .int v_5), (0, .ref a0), (1, .int n1), (2, .int n2), (3, .int n3)] [] := by
    intro n
    induction n with
    | zero =>
      intro v_5 q_6 hV_q_6 hF_q_6 hK_q_6 mS_q_6 p0_q_6 p1_q_6 p2_q_6 p3_q_6 p4_q_6 p5_q_6 p6_q_6 p7_q_6 p8_q_6 p9_q_6 p10_q_6 p11_q_6 p12_q_6 p13_q_6 p14_q_6 p15_q_6 p16_q_6 p17_q_6 p18_q_6 p19_q_6 x_30 hn
      exact absurd hn (Nat.not_lt_zero _)
    | succ n ih_32 =>
      intro v_5 q_6 hV_q_6 hF_q_6 hK_q_6 mS_q_6 p0_q_6 p1_q_6 p2_q_6 p3_q_6 p4_q_6 p5_q_6 p6_q_6 p7_q_6 p8_q_6 p9_q_6 p10_q_6 p11_q_6 p12_q_6 p13_q_6 p14_q_6 p15_q_6 p16_q_6 p17_q_6 p18_q_6 p19_q_6 x_30 hn
      refine wa_iload B dX12_readAll_13 0 rfl ?_
      refine wa_aload_n B dX12_readAll_15 rfl 1 rfl ?_
      refine wa_iload_n B dX12_readAll_16 rfl 2 rfl ?_
      refine wa_callVi B (x := (RX12, TX12, 51)) (As := [.int n1]) (rest := [.int v_5]) (k_X12_ways l dC dI h L hN q_6 hV_q_6 (a0 := a0) ha0 ka0 n1  (by first | assumption | omega | decide) (by first | assumption | omega | decide)) (cwV 1 B.1.2.2.2.2 gX12_readAll_X12_ways rfl rfl rfl (by decide +kernel) ⟨Nat.le_of_ble_eq_true rfl, Nat.le_of_ble_eq_true rfl⟩) ha0 ka0 (by decide) rfl rfl rfl (Nat.le_of_ble_eq_true rfl) dX12_readAll_17 (fun r_34 q_33 w_35 => ?_)
      obtain ⟨ew_35, hw_35⟩ := w_35
      subst ew_35
      refine wa_icmp_ge B 181 dX12_readAll_20 (by decide) (fun (t_36 : r_34.toInt ≤ v_5.toInt) => ?_) (fun (t_36 : ¬ r_34.toInt ≤ v_5.toInt) => ?_)
      · exact hret _ _ _ dX12_readAll_181 ⟨hV_q_6, hF_q_6, hK_q_6, mS_q_6⟩
      · refine wa_aload_n B dX12_readAll_23 rfl 1 rfl ?_
        refine wa_iload_n B dX12_readAll_24 rfl 2 rfl ?_
        refine wa_iload B dX12_readAll_25 0 rfl ?_
        refine wa_callVi B (x := (RX12, TX12, 51)) (As := [.int n1, .int v_5]) (rest := []) (k_X12_fills l dC dI h L hN q_6 hV_q_6 (a0 := a0) ha0 ka0 n1 v_5 (m18 := m18) p0_q_6 (m19 := m19) p1_q_6 (m23 := m23) p2_q_6 (m25 := m25) p3_q_6 (m26 := m26) p4_q_6 (m27 := m27) p5_q_6 (m28 := m28) p6_q_6 (m29 := m29) p7_q_6 (m30 := m30) p8_q_6 (m34 := m34) p9_q_6 (m35 := m35) p10_q_6 mS_q_6 (by first | assumption | omega | decide) (by first | assumption | omega | decide)) (cwV 2 B.1.2.2.2.2 gX12_readAll_X12_fills rfl rfl rfl (by decide +kernel) ⟨Nat.le_of_ble_eq_true rfl, Nat.le_of_ble_eq_true rfl⟩) ha0 ka0 (by decide) rfl rfl rfl (Nat.le_of_ble_eq_true rfl) dX12_readAll_27 (fun r_38 q_37 w_39 => ?_)
        obtain ⟨hV_q_37, h2_q_37, mS_q_37, hw_39⟩ := w_39
        have hF_q_37 : sx_fr h L (fun a => h.1 a = 12 ∨ h.1 a = 144 ∨ h.1 a = 245) q q_37 := hF_q_6.tr (h2_q_37.mono (fun a (z : h.1 a = 144 ∨ h.1 a = 245) => (show h.1 a = 12 ∨ h.1 a = 144 ∨ h.1 a = 245 from by omega)))
        have hK_q_37 : sx_kf a0 [36, 37, 38, 39] q q_37 := hK_q_6.tr ⟨fun k _ => h2_q_37.I ha0 (show ¬ (h.1 a0 = 144 ∨ h.1 a0 = 245) from by omega) k, fun k _ => h2_q_37.J ha0 (show ¬ (h.1 a0 = 144 ∨ h.1 a0 = 245) from by omega) k⟩
        have z_41 : q_37.2.2.1 a0 18 = m18 := (h2_q_37.R ha0 (show ¬ ((h.1 a0 = 144 ∨ h.1 a0 = 245) ∧ (h.1 a0 = 8 ∨ h.1 a0 = 11)) from by omega) 18).trans (p0_q_6)
        have z_42 : q_37.2.2.1 a0 19 = m19 := (h2_q_37.R ha0 (show ¬ ((h.1 a0 = 144 ∨ h.1 a0 = 245) ∧ (h.1 a0 = 8 ∨ h.1 a0 = 11)) from by omega) 19).trans (p1_q_6)
        have z_43 : q_37.2.2.1 a0 23 = m23 := (h2_q_37.R ha0 (show ¬ ((h.1 a0 = 144 ∨ h.1 a0 = 245) ∧ (h.1 a0 = 8 ∨ h.1 a0 = 11)) from by omega) 23).trans (p2_q_6)
        have z_44 : q_37.2.2.1 a0 25 = m25 := (h2_q_37.R ha0 (show ¬ ((h.1 a0 = 144 ∨ h.1 a0 = 245) ∧ (h.1 a0 = 8 ∨ h.1 a0 = 11)) from by omega) 25).trans (p3_q_6)
        have z_45 : q_37.2.2.1 a0 26 = m26 := (h2_q_37.R ha0 (show ¬ ((h.1 a0 = 144 ∨ h.1 a0 = 245) ∧ (h.1 a0 = 8 ∨ h.1 a0 = 11)) from by omega) 26).trans (p4_q_6)
        have z_46 : q_37.2.2.1 a0 27 = m27 := (h2_q_37.R ha0 (show ¬ ((h.1 a0 = 144 ∨ h.1 a0 = 245) ∧ (h.1 a0 = 8 ∨ h.1 a0 = 11)) from by omega) 27).trans (p5_q_6)
        have z_47 : q_37.2.2.1 a0 28 = m28 := (h2_q_37.R ha0 (show ¬ ((h.1 a0 = 144 ∨ h.1 a0 = 245) ∧ (h.1 a0 = 8 ∨ h.1 a0 = 11)) from by omega) 28).trans (p6_q_6)
        have z_48 : q_37.2.2.1 a0 29 = m29 := (h2_q_37.R ha0 (show ¬ ((h.1 a0 = 144 ∨ h.1 a0 = 245) ∧ (h.1 a0 = 8 ∨ h.1 a0 = 11)) from by omega) 29).trans (p7_q_6)
        have z_49 : q_37.2.2.1 a0 30 = m30 := (h2_q_37.R ha0 (show ¬ ((h.1 a0 = 144 ∨ h.1 a0 = 245) ∧ (h.1 a0 = 8 ∨ h.1 a0 = 11)) from by omega) 30).trans (p8_q_6)
        have z_50 : q_37.2.2.1 a0 34 = m34 := (h2_q_37.R ha0 (show ¬ ((h.1 a0 = 144 ∨ h.1 a0 = 245) ∧ (h.1 a0 = 8 ∨ h.1 a0 = 11)) from by omega) 34).trans (p9_q_6)
        have z_51 : q_37.2.2.1 a0 35 = m35 := (h2_q_37.R ha0 (show ¬ ((h.1 a0 = 144 ∨ h.1 a0 = 245) ∧ (h.1 a0 = 8 ∨ h.1 a0 = 11)) from by omega) 35).trans (p10_q_6)
        have z_52 : q_37.2.2.2.1 m18 = (q.2.2.2.1 m18) := (h2_q_37.G hm18 (show ¬ (h.1 m18 = 144 ∨ h.1 m18 = 245) from by omega) (by rw [km18]; decide)).trans (p11_q_6)
        have z_53 : q_37.2.2.2.1 m19 = (q.2.2.2.1 m19) := (h2_q_37.G hm19 (show ¬ (h.1 m19 = 144 ∨ h.1 m19 = 245) from by omega) (by rw [km19]; decide)).trans (p12_q_6)
        have z_54 : q_37.2.2.2.1 m23 = (q.2.2.2.1 m23) := (h2_q_37.G hm23 (show ¬ (h.1 m23 = 144 ∨ h.1 m23 = 245) from by omega) (by rw [km23]; decide)).trans (p13_q_6)
        have z_55 : q_37.2.2.2.1 m25 = (q.2.2.2.1 m25) := (h2_q_37.G hm25 (show ¬ (h.1 m25 = 144 ∨ h.1 m25 = 245) from by omega) (by rw [km25]; decide)).trans (p14_q_6)
        have z_56 : q_37.2.2.2.1 m26 = (q.2.2.2.1 m26) := (h2_q_37.G hm26 (show ¬ (h.1 m26 = 144 ∨ h.1 m26 = 245) from by omega) (by rw [km26]; decide)).trans (p15_q_6)
        have z_57 : q_37.2.2.2.1 m27 = (q.2.2.2.1 m27) := (h2_q_37.G hm27 (show ¬ (h.1 m27 = 144 ∨ h.1 m27 = 245) from by omega) (by rw [km27]; decide)).trans (p16_q_6)
        have z_58 : q_37.2.2.2.1 m28 = (q.2.2.2.1 m28) := (h2_q_37.G hm28 (show ¬ (h.1 m28 = 144 ∨ h.1 m28 = 245) from by omega) (by rw [km28]; decide)).trans (p17_q_6)
        have z_59 : q_37.2.2.2.1 m29 = (q.2.2.2.1 m29) := (h2_q_37.G hm29 (show ¬ (h.1 m29 = 144 ∨ h.1 m29 = 245) from by omega) (by rw [km29]; decide)).trans (p18_q_6)
        have z_60 : q_37.2.2.2.1 m30 = (q.2.2.2.1 m30) := (h2_q_37.G hm30 (show ¬ (h.1 m30 = 144 ∨ h.1 m30 = 245) from by omega) (by rw [km30]; decide)).trans (p19_q_6)
        have Jn_175_61 : ∀  (q_40 : Sg), sx_V h L q_40 → sx_fr h L (fun a => h.1 a = 12 ∨ h.1 a = 144 ∨ h.1 a = 245) q q_40 → sx_kf a0 [36, 37, 38, 39] q q_40 → mv_S m23 m26 m28 m29 q_40 → q_40.2.2.1 a0 18 = m18 → q_40.2.2.1 a0 19 = m19 → q_40.2.2.1 a0 23 = m23 → q_40.2.2.1 a0 25 = m25 → q_40.2.2.1 a0 26 = m26 → q_40.2.2.1 a0 27 = m27 → q_40.2.2.1 a0 28 = m28 → q_40.2.2.1 a0 29 = m29 → q_40.2.2.1 a0 30 = m30 → q_40.2.2.1 a0 34 = m34 → q_40.2.2.1 a0 35 = m35 → q_40.2.2.2.1 m18 = (q.2.2.2.1 m18) → q_40.2.2.2.1 m19 = (q.2.2.2.1 m19) → q_40.2.2.2.1 m23 = (q.2.2.2.1 m23) → q_40.2.2.2.1 m25 = (q.2.2.2.1 m25) → q_40.2.2.2.1 m26 = (q.2.2.2.1 m26) → q_40.2.2.2.1 m27 = (q.2.2.2.1 m27) → q_40.2.2.2.1 m28 = (q.2.2.2.1 m28) → q_40.2.2.2.1 m29 = (q.2.2.2.1 m29) → q_40.2.2.2.1 m30 = (q.2.2.2.1 m30) → WA l dC dI h L ({ frames := 2, cells := 0, slots := 0, locals := 55 } : Room) 5 Z q_40 175 [(4, .int v_5), (0, .ref a0), (1, .int n1), (2, .int n2), (3, .int n3)] [] := by
          intro q_40 hV_q_40 hF_q_40 hK_q_40 mS_q_40 p0_q_40 p1_q_40 p2_q_40 p3_q_40 p4_q_40 p5_q_40 p6_q_40 p7_q_40 p8_q_40 p9_q_40 p10_q_40 p11_q_40 p12_q_40 p13_q_40 p14_q_40 p15_q_40 p16_q_40 p17_q_40 p18_q_40 p19_q_40
          obtain ⟨v_62, ev_62⟩ : ∃ z : Int32, z = v_5 + 1 := ⟨_, rfl⟩
          refine wa_iinc B [(4, .int v_62), (0, .ref a0), (1, .int n1), (2, .int n2), (3, .int n3)] v_62 dX12_readAll_175 0 rfl (by rw [ev_62]; rfl) (by decide) rfl ?_
          refine wa_goto B 13 dX12_readAll_178 (by decide) ?_
          have tv_62 : v_62.toInt = v_5.toInt + 1 := by have b0 := zx_bd v_5; rw [ev_62]; exact zx_add (show (-2147483648 : Int) ≤ v_5.toInt + 1 by omega) (show v_5.toInt + 1 < (2147483648 : Int) by omega)
          exact ih_32 v_62 q_40 hV_q_40 hF_q_40 hK_q_40 mS_q_40 p0_q_40 p1_q_40 p2_q_40 p3_q_40 p4_q_40 p5_q_40 p6_q_40 p7_q_40 p8_q_40 p9_q_40 p10_q_40 p11_q_40 p12_q_40 p13_q_40 p14_q_40 p15_q_40 p16_q_40 p17_q_40 p18_q_40 p19_q_40 (show 0 ≤ v_62.toInt from by first | assumption | omega | decide) (show (10001 - v_62.toInt : Int).toNat < _ from by omega)
        refine wa_if_eq B 175 dX12_readAll_30 (by decide) (fun (t_63 : r_38.toInt = 0) => ?_) (fun (t_63 : ¬ r_38.toInt = 0) => ?_)
        · exact Jn_175_61 q_37 hV_q_37 hF_q_37 hK_q_37 mS_q_37 z_41 z_42 z_43 z_44 z_45 z_46 z_47 z_48 z_49 z_50 z_51 z_52 z_53 z_54 z_55 z_56 z_57 z_58 z_59 z_60
        · refine wa_aload_n B dX12_readAll_33 rfl 1 rfl ?_
          refine wa_iload_n B dX12_readAll_34 rfl 2 rfl ?_
          refine wa_callVi B (x := (RX12, TX12, 51)) (As := [.int n1]) (rest := []) (k_X12_wrongs l dC dI h L hN q_37 hV_q_37 (a0 := a0) ha0 ka0 n1  (by first | assumption | omega | decide) (by first | assumption | omega | decide)) (cwV 1 B.1.2.2.2.2 gX12_readAll_X12_wrongs rfl rfl rfl (by decide +kernel) ⟨Nat.le_of_ble_eq_true rfl, Nat.le_of_ble_eq_true rfl⟩) ha0 ka0 (by decide) rfl rfl rfl (Nat.le_of_ble_eq_true rfl) dX12_readAll_35 (fun r_65 q_64 w_66 => ?_)
          subst w_66
          refine wa_if_le B 44 dX12_readAll_38 (by decide) (fun (t_67 : r_65.toInt ≤ 0) => ?_) (fun (t_67 : ¬ r_65.toInt ≤ 0) => ?_)
          · refine wa_iload_n B dX12_readAll_44 rfl 3 rfl ?_
            refine wa_iconst B (-1) dX12_readAll_45 (by decide) ?_
            have Jn_125_69 : ∀  (q_68 : Sg), sx_V h L q_68 → sx_fr h L (fun a => h.1 a = 12 ∨ h.1 a = 144 ∨ h.1 a = 245) q q_68 → sx_kf a0 [36, 37, 38, 39] q q_68 → mv_S m23 m26 m28 m29 q_68 → q_68.2.2.1 a0 18 = m18 → q_68.2.2.1 a0 19 = m19 → q_68.2.2.1 a0 23 = m23 → q_68.2.2.1 a0 25 = m25 → q_68.2.2.1 a0 26 = m26 → q_68.2.2.1 a0 27 = m27 → q_68.2.2.1 a0 28 = m28 → q_68.2.2.1 a0 29 = m29 → q_68.2.2.1 a0 30 = m30 → q_68.2.2.1 a0 34 = m34 → q_68.2.2.1 a0 35 = m35 → q_68.2.2.2.1 m18 = (q.2.2.2.1 m18) → q_68.2.2.2.1 m19 = (q.2.2.2.1 m19) → q_68.2.2.2.1 m23 = (q.2.2.2.1 m23) → q_68.2.2.2.1 m25 = (q.2.2.2.1 m25) → q_68.2.2.2.1 m26 = (q.2.2.2.1 m26) → q_68.2.2.2.1 m27 = (q.2.2.2.1 m27) → q_68.2.2.2.1 m28 = (q.2.2.2.1 m28) → q_68.2.2.2.1 m29 = (q.2.2.2.1 m29) → q_68.2.2.2.1 m30 = (q.2.2.2.1 m30) → WA l dC dI h L ({ frames := 2, cells := 0, slots := 0, locals := 55 } : Room) 5 Z q_68 125 [(4, .int v_5), (0, .ref a0), (1, .int n1), (2, .int n2), (3, .int n3)] [] := by
              intro q_68 hV_q_68 hF_q_68 hK_q_68 mS_q_68 p0_q_68 p1_q_68 p2_q_68 p3_q_68 p4_q_68 p5_q_68 p6_q_68 p7_q_68 p8_q_68 p9_q_68 p10_q_68 p11_q_68 p12_q_68 p13_q_68 p14_q_68 p15_q_68 p16_q_68 p17_q_68 p18_q_68 p19_q_68
              refine wa_iload_n B dX12_readAll_125 rfl 4 rfl ?_
              refine wa_iconst B (-1) dX12_readAll_126 (by decide) ?_
              have Jn_165_71 : ∀  (q_70 : Sg), sx_V h L q_70 → sx_fr h L (fun a => h.1 a = 12 ∨ h.1 a = 144 ∨ h.1 a = 245) q q_70 → sx_kf a0 [36, 37, 38, 39] q q_70 → mv_S m23 m26 m28 m29 q_70 → q_70.2.2.1 a0 18 = m18 → q_70.2.2.1 a0 19 = m19 → q_70.2.2.1 a0 23 = m23 → q_70.2.2.1 a0 25 = m25 → q_70.2.2.1 a0 26 = m26 → q_70.2.2.1 a0 27 = m27 → q_70.2.2.1 a0 28 = m28 → q_70.2.2.1 a0 29 = m29 → q_70.2.2.1 a0 30 = m30 → q_70.2.2.1 a0 34 = m34 → q_70.2.2.1 a0 35 = m35 → q_70.2.2.2.1 m18 = (q.2.2.2.1 m18) → q_70.2.2.2.1 m19 = (q.2.2.2.1 m19) → q_70.2.2.2.1 m23 = (q.2.2.2.1 m23) → q_70.2.2.2.1 m25 = (q.2.2.2.1 m25) → q_70.2.2.2.1 m26 = (q.2.2.2.1 m26) → q_70.2.2.2.1 m27 = (q.2.2.2.1 m27) → q_70.2.2.2.1 m28 = (q.2.2.2.1 m28) → q_70.2.2.2.1 m29 = (q.2.2.2.1 m29) → q_70.2.2.2.1 m30 = (q.2.2.2.1 m30) → WA l dC dI h L ({ frames := 2, cells := 0, slots := 0, locals := 55 } : Room) 5 Z q_70 165 [(4, .int v_5), (0, .ref a0), (1, .int n1), (2, .int n2), (3, .int n3)] [] := by
                intro q_70 hV_q_70 hF_q_70 hK_q_70 mS_q_70 p0_q_70 p1_q_70 p2_q_70 p3_q_70 p4_q_70 p5_q_70 p6_q_70 p7_q_70 p8_q_70 p9_q_70 p10_q_70 p11_q_70 p12_q_70 p13_q_70 p14_q_70 p15_q_70 p16_q_70 p17_q_70 p18_q_70 p19_q_70
                refine wa_aload_n B dX12_readAll_165 rfl 1 rfl ?_
                refine wa_dup B dX12_readAll_166 rfl ?_
                refine wa_getI B (C := RX12) (T := TX12) (N := 51) iq_X12_readAll_X12 ha0 ka0 (by decide) rfl 36 (by decide) (by decide) (by decide +kernel) rfl (by decide) (v := (q_70.1 a0 36)) rfl dX12_readAll_167 ?_
                refine wa_iconst B 1 dX12_readAll_170 (by decide) ?_
                refine wa_iadd B dX12_readAll_171 (fun v_72 ev_72 => ?_)
                refine wa_putI B (C := RX12) (T := TX12) (N := 51) iq_X12_readAll_X12 ha0 ka0 (by decide) rfl 36 (by decide) (by decide) (by decide +kernel) rfl (by decide) (v := v_72) (ty := .int) tyX12 tyX12_ok nmX12 rfl (by decide +kernel) rfl rfl dX12_readAll_172 (fun q_73 eq_73 => ?_)
                have hV_q_73 : sx_V h L q_73 := by rw [eq_73]; exact hV_q_70.pI ka0 trivial
                have hF_q_73 : sx_fr h L (fun a => h.1 a = 12 ∨ h.1 a = 144 ∨ h.1 a = 245) q q_73 := hF_q_70.tr (by rw [eq_73]; exact sx_fr.pI (show h.1 a0 = 12 ∨ h.1 a0 = 144 ∨ h.1 a0 = 245 from by omega))
                have z_74 : q_73.1 a0 36 = v_72 := by rw [eq_73]; exact sg_pI_e
                have hK_q_73 : sx_kf a0 [36, 37, 38, 39] q q_73 := hK_q_70.tr (by rw [eq_73]; exact sx_kf.pI (by decide))
                have mS_q_73 : mv_S m23 m26 m28 m29 q_73 := mv_S.eq ((show q_73.2.2.2.1 m23 = q_70.2.2.2.1 m23 from by rw [eq_73]; rfl)) ((show q_73.2.2.2.1 m26 = q_70.2.2.2.1 m26 from by rw [eq_73]; rfl)) ((show q_73.2.2.2.1 m28 = q_70.2.2.2.1 m28 from by rw [eq_73]; rfl)) ((show q_73.2.2.2.1 m29 = q_70.2.2.2.1 m29 from by rw [eq_73]; rfl)) mS_q_70
                have z_75 : q_73.2.2.1 a0 18 = m18 := ((show q_73.2.2.1 a0 18 = q_70.2.2.1 a0 18 from by rw [eq_73]; rfl)).trans (p0_q_70)
                have z_76 : q_73.2.2.1 a0 19 = m19 := ((show q_73.2.2.1 a0 19 = q_70.2.2.1 a0 19 from by rw [eq_73]; rfl)).trans (p1_q_70)
                have z_77 : q_73.2.2.1 a0 23 = m23 := ((show q_73.2.2.1 a0 23 = q_70.2.2.1 a0 23 from by rw [eq_73]; rfl)).trans (p2_q_70)
                have z_78 : q_73.2.2.1 a0 25 = m25 := ((show q_73.2.2.1 a0 25 = q_70.2.2.1 a0 25 from by rw [eq_73]; rfl)).trans (p3_q_70)
                have z_79 : q_73.2.2.1 a0 26 = m26 := ((show q_73.2.2.1 a0 26 = q_70.2.2.1 a0 26 from by rw [eq_73]; rfl)).trans (p4_q_70)
                have z_80 : q_73.2.2.1 a0 27 = m27 := ((show q_73.2.2.1 a0 27 = q_70.2.2.1 a0 27 from by rw [eq_73]; rfl)).trans (p5_q_70)
                have z_81 : q_73.2.2.1 a0 28 = m28 := ((show q_73.2.2.1 a0 28 = q_70.2.2.1 a0 28 from by rw [eq_73]; rfl)).trans (p6_q_70)
                have z_82 : q_73.2.2.1 a0 29 = m29 := ((show q_73.2.2.1 a0 29 = q_70.2.2.1 a0 29 from by rw [eq_73]; rfl)).trans (p7_q_70)
                have z_83 : q_73.2.2.1 a0 30 = m30 := ((show q_73.2.2.1 a0 30 = q_70.2.2.1 a0 30 from by rw [eq_73]; rfl)).trans (p8_q_70)
                have z_84 : q_73.2.2.1 a0 34 = m34 := ((show q_73.2.2.1 a0 34 = q_70.2.2.1 a0 34 from by rw [eq_73]; rfl)).trans (p9_q_70)
                have z_85 : q_73.2.2.1 a0 35 = m35 := ((show q_73.2.2.1 a0 35 = q_70.2.2.1 a0 35 from by rw [eq_73]; rfl)).trans (p10_q_70)
                have z_86 : q_73.2.2.2.1 m18 = (q.2.2.2.1 m18) := ((show q_73.2.2.2.1 m18 = q_70.2.2.2.1 m18 from by rw [eq_73]; rfl)).trans (p11_q_70)
                have z_87 : q_73.2.2.2.1 m19 = (q.2.2.2.1 m19) := ((show q_73.2.2.2.1 m19 = q_70.2.2.2.1 m19 from by rw [eq_73]; rfl)).trans (p12_q_70)
                have z_88 : q_73.2.2.2.1 m23 = (q.2.2.2.1 m23) := ((show q_73.2.2.2.1 m23 = q_70.2.2.2.1 m23 from by rw [eq_73]; rfl)).trans (p13_q_70)
                have z_89 : q_73.2.2.2.1 m25 = (q.2.2.2.1 m25) := ((show q_73.2.2.2.1 m25 = q_70.2.2.2.1 m25 from by rw [eq_73]; rfl)).trans (p14_q_70)
                have z_90 : q_73.2.2.2.1 m26 = (q.2.2.2.1 m26) := ((show q_73.2.2.2.1 m26 = q_70.2.2.2.1 m26 from by rw [eq_73]; rfl)).trans (p15_q_70)
                have z_91 : q_73.2.2.2.1 m27 = (q.2.2.2.1 m27) := ((show q_73.2.2.2.1 m27 = q_70.2.2.2.1 m27 from by rw [eq_73]; rfl)).trans (p16_q_70)
                have z_92 : q_73.2.2.2.1 m28 = (q.2.2.2.1 m28) := ((show q_73.2.2.2.1 m28 = q_70.2.2.2.1 m28 from by rw [eq_73]; rfl)).trans (p17_q_70)
                have z_93 : q_73.2.2.2.1 m29 = (q.2.2.2.1 m29) := ((show q_73.2.2.2.1 m29 = q_70.2.2.2.1 m29 from by rw [eq_73]; rfl)).trans (p18_q_70)
                have z_94 : q_73.2.2.2.1 m30 = (q.2.2.2.1 m30) := ((show q_73.2.2.2.1 m30 = q_70.2.2.2.1 m30 from by rw [eq_73]; rfl)).trans (p19_q_70)
                exact Jn_175_61 q_73 hV_q_73 hF_q_73 hK_q_73 mS_q_73 z_75 z_76 z_77 z_78 z_79 z_80 z_81 z_82 z_83 z_84 z_85 z_86 z_87 z_88 z_89 z_90 z_91 z_92 z_93 z_94
              refine wa_icmp_eq B 165 dX12_readAll_127 (by decide) (fun (t_95 : n3.toInt = (-1)) => ?_) (fun (t_95 : ¬ n3.toInt = (-1)) => ?_)
              · exact Jn_165_71 q_68 hV_q_68 hF_q_68 hK_q_68 mS_q_68 p0_q_68 p1_q_68 p2_q_68 p3_q_68 p4_q_68 p5_q_68 p6_q_68 p7_q_68 p8_q_68 p9_q_68 p10_q_68 p11_q_68 p12_q_68 p13_q_68 p14_q_68 p15_q_68 p16_q_68 p17_q_68 p18_q_68 p19_q_68
              · refine wa_aload_n B dX12_readAll_130 rfl 1 rfl ?_
                refine wa_aload_n B dX12_readAll_131 rfl 1 rfl ?_
                refine wa_getI B (C := RX12) (T := TX12) (N := 51) iq_X12_readAll_X12 ha0 ka0 (by decide) rfl 36 (by decide) (by decide) (by decide +kernel) rfl (by decide) (v := (q_68.1 a0 36)) rfl dX12_readAll_132 ?_
                have Jn_162_97 : ∀  (v_96 : Int32), WA l dC dI h L ({ frames := 2, cells := 0, slots := 0, locals := 55 } : Room) 5 Z q_68 162 [(4, .int v_5), (0, .ref a0), (1, .int n1), (2, .int n2), (3, .int n3)] [.int v_96, .ref a0] := by
                  intro v_96
                  refine wa_putI B (C := RX12) (T := TX12) (N := 51) iq_X12_readAll_X12 ha0 ka0 (by decide) rfl 37 (by decide) (by decide) (by decide +kernel) rfl (by decide) (v := v_96) (ty := .int) tyX12 tyX12_ok nmX12 rfl (by decide +kernel) rfl rfl dX12_readAll_162 (fun q_98 eq_98 => ?_)
                  have hV_q_98 : sx_V h L q_98 := by rw [eq_98]; exact hV_q_68.pI ka0 trivial
                  have hF_q_98 : sx_fr h L (fun a => h.1 a = 12 ∨ h.1 a = 144 ∨ h.1 a = 245) q q_98 := hF_q_68.tr (by rw [eq_98]; exact sx_fr.pI (show h.1 a0 = 12 ∨ h.1 a0 = 144 ∨ h.1 a0 = 245 from by omega))
                  have z_99 : q_98.1 a0 37 = v_96 := by rw [eq_98]; exact sg_pI_e
                  have hK_q_98 : sx_kf a0 [36, 37, 38, 39] q q_98 := hK_q_68.tr (by rw [eq_98]; exact sx_kf.pI (by decide))
                  have mS_q_98 : mv_S m23 m26 m28 m29 q_98 := mv_S.eq ((show q_98.2.2.2.1 m23 = q_68.2.2.2.1 m23 from by rw [eq_98]; rfl)) ((show q_98.2.2.2.1 m26 = q_68.2.2.2.1 m26 from by rw [eq_98]; rfl)) ((show q_98.2.2.2.1 m28 = q_68.2.2.2.1 m28 from by rw [eq_98]; rfl)) ((show q_98.2.2.2.1 m29 = q_68.2.2.2.1 m29 from by rw [eq_98]; rfl)) mS_q_68
                  have z_100 : q_98.2.2.1 a0 18 = m18 := ((show q_98.2.2.1 a0 18 = q_68.2.2.1 a0 18 from by rw [eq_98]; rfl)).trans (p0_q_68)
                  have z_101 : q_98.2.2.1 a0 19 = m19 := ((show q_98.2.2.1 a0 19 = q_68.2.2.1 a0 19 from by rw [eq_98]; rfl)).trans (p1_q_68)
                  have z_102 : q_98.2.2.1 a0 23 = m23 := ((show q_98.2.2.1 a0 23 = q_68.2.2.1 a0 23 from by rw [eq_98]; rfl)).trans (p2_q_68)
                  have z_103 : q_98.2.2.1 a0 25 = m25 := ((show q_98.2.2.1 a0 25 = q_68.2.2.1 a0 25 from by rw [eq_98]; rfl)).trans (p3_q_68)
                  have z_104 : q_98.2.2.1 a0 26 = m26 := ((show q_98.2.2.1 a0 26 = q_68.2.2.1 a0 26 from by rw [eq_98]; rfl)).trans (p4_q_68)
                  have z_105 : q_98.2.2.1 a0 27 = m27 := ((show q_98.2.2.1 a0 27 = q_68.2.2.1 a0 27 from by rw [eq_98]; rfl)).trans (p5_q_68)
                  have z_106 : q_98.2.2.1 a0 28 = m28 := ((show q_98.2.2.1 a0 28 = q_68.2.2.1 a0 28 from by rw [eq_98]; rfl)).trans (p6_q_68)
                  have z_107 : q_98.2.2.1 a0 29 = m29 := ((show q_98.2.2.1 a0 29 = q_68.2.2.1 a0 29 from by rw [eq_98]; rfl)).trans (p7_q_68)
                  have z_108 : q_98.2.2.1 a0 30 = m30 := ((show q_98.2.2.1 a0 30 = q_68.2.2.1 a0 30 from by rw [eq_98]; rfl)).trans (p8_q_68)
                  have z_109 : q_98.2.2.1 a0 34 = m34 := ((show q_98.2.2.1 a0 34 = q_68.2.2.1 a0 34 from by rw [eq_98]; rfl)).trans (p9_q_68)
                  have z_110 : q_98.2.2.1 a0 35 = m35 := ((show q_98.2.2.1 a0 35 = q_68.2.2.1 a0 35 from by rw [eq_98]; rfl)).trans (p10_q_68)
                  have z_111 : q_98.2.2.2.1 m18 = (q.2.2.2.1 m18) := ((show q_98.2.2.2.1 m18 = q_68.2.2.2.1 m18 from by rw [eq_98]; rfl)).trans (p11_q_68)
                  have z_112 : q_98.2.2.2.1 m19 = (q.2.2.2.1 m19) := ((show q_98.2.2.2.1 m19 = q_68.2.2.2.1 m19 from by rw [eq_98]; rfl)).trans (p12_q_68)
                  have z_113 : q_98.2.2.2.1 m23 = (q.2.2.2.1 m23) := ((show q_98.2.2.2.1 m23 = q_68.2.2.2.1 m23 from by rw [eq_98]; rfl)).trans (p13_q_68)
                  have z_114 : q_98.2.2.2.1 m25 = (q.2.2.2.1 m25) := ((show q_98.2.2.2.1 m25 = q_68.2.2.2.1 m25 from by rw [eq_98]; rfl)).trans (p14_q_68)
                  have z_115 : q_98.2.2.2.1 m26 = (q.2.2.2.1 m26) := ((show q_98.2.2.2.1 m26 = q_68.2.2.2.1 m26 from by rw [eq_98]; rfl)).trans (p15_q_68)
                  have z_116 : q_98.2.2.2.1 m27 = (q.2.2.2.1 m27) := ((show q_98.2.2.2.1 m27 = q_68.2.2.2.1 m27 from by rw [eq_98]; rfl)).trans (p16_q_68)
                  have z_117 : q_98.2.2.2.1 m28 = (q.2.2.2.1 m28) := ((show q_98.2.2.2.1 m28 = q_68.2.2.2.1 m28 from by rw [eq_98]; rfl)).trans (p17_q_68)
                  have z_118 : q_98.2.2.2.1 m29 = (q.2.2.2.1 m29) := ((show q_98.2.2.2.1 m29 = q_68.2.2.2.1 m29 from by rw [eq_98]; rfl)).trans (p18_q_68)
                  have z_119 : q_98.2.2.2.1 m30 = (q.2.2.2.1 m30) := ((show q_98.2.2.2.1 m30 = q_68.2.2.2.1 m30 from by rw [eq_98]; rfl)).trans (p19_q_68)
                  exact Jn_165_71 q_98 hV_q_98 hF_q_98 hK_q_98 mS_q_98 z_100 z_101 z_102 z_103 z_104 z_105 z_106 z_107 z_108 z_109 z_110 z_111 z_112 z_113 z_114 z_115 z_116 z_117 z_118 z_119
                refine wa_if_eq B 151 dX12_readAll_135 (by decide) (fun (t_120 : (q_68.1 a0 36).toInt = 0) => ?_) (fun (t_120 : ¬ (q_68.1 a0 36).toInt = 0) => ?_)
                · refine wa_aload_n B dX12_readAll_151 rfl 1 rfl ?_
                  refine wa_getR B (C := RX12) (T := TX12) (N := 51) iq_X12_readAll_X12 ha0 ka0 (by decide) rfl 34 (by decide) (by decide) (by decide +kernel) rfl (fun _ _ _ => rfl) (v := m34) p9_q_68 dX12_readAll_152 ?_
                  refine wa_iload_n B dX12_readAll_155 rfl 4 rfl ?_
                  refine wa_iaload B hm34 km34 (by decide) (by decide) (show 0 ≤ n3.toInt by omega) (show n3.toInt < (h.2.1 m34 : Int) by omega) (v := (q_68.2.2.2.1 m34 (n3 : Int32).toNatClampNeg)) rfl dX12_readAll_156 ?_
                  refine wa_goto B 162 dX12_readAll_157 (by decide) ?_
                  exact Jn_162_97 ((q_68.2.2.2.1 m34 (n3 : Int32).toNatClampNeg))
                · refine wa_aload_n B dX12_readAll_138 rfl 1 rfl ?_
                  refine wa_getI B (C := RX12) (T := TX12) (N := 51) iq_X12_readAll_X12 ha0 ka0 (by decide) rfl 37 (by decide) (by decide) (by decide +kernel) rfl (by decide) (v := (q_68.1 a0 37)) rfl dX12_readAll_139 ?_
                  refine wa_aload_n B dX12_readAll_142 rfl 1 rfl ?_
                  refine wa_getR B (C := RX12) (T := TX12) (N := 51) iq_X12_readAll_X12 ha0 ka0 (by decide) rfl 34 (by decide) (by decide) (by decide +kernel) rfl (fun _ _ _ => rfl) (v := m34) p9_q_68 dX12_readAll_143 ?_
                  refine wa_iload_n B dX12_readAll_146 rfl 4 rfl ?_
                  refine wa_iaload B hm34 km34 (by decide) (by decide) (show 0 ≤ n3.toInt by omega) (show n3.toInt < (h.2.1 m34 : Int) by omega) (v := (q_68.2.2.2.1 m34 (n3 : Int32).toNatClampNeg)) rfl dX12_readAll_147 ?_
                  refine wa_icmp_ne B 160 dX12_readAll_148 (by decide) (fun (t_121 : ¬ (q_68.1 a0 37).toInt = ((q_68.2.2.2.1 m34 (n3 : Int32).toNatClampNeg)).toInt) => ?_) (fun (t_121 : (q_68.1 a0 37).toInt = ((q_68.2.2.2.1 m34 (n3 : Int32).toNatClampNeg)).toInt) => ?_)
                  · refine wa_bipush B 10 dX12_readAll_160 (by decide) ?_
                    exact Jn_162_97 10
                  · refine wa_aload_n B dX12_readAll_151 rfl 1 rfl ?_
                    refine wa_getR B (C := RX12) (T := TX12) (N := 51) iq_X12_readAll_X12 ha0 ka0 (by decide) rfl 34 (by decide) (by decide) (by decide +kernel) rfl (fun _ _ _ => rfl) (v := m34) p9_q_68 dX12_readAll_152 ?_
                    refine wa_iload_n B dX12_readAll_155 rfl 4 rfl ?_
                    refine wa_iaload B hm34 km34 (by decide) (by decide) (show 0 ≤ n3.toInt by omega) (show n3.toInt < (h.2.1 m34 : Int) by omega) (v := (q_68.2.2.2.1 m34 (n3 : Int32).toNatClampNeg)) rfl dX12_readAll_156 ?_
                    refine wa_goto B 162 dX12_readAll_157 (by decide) ?_
                    exact Jn_162_97 ((q_68.2.2.2.1 m34 (n3 : Int32).toNatClampNeg))
            refine wa_icmp_eq B 125 dX12_readAll_46 (by decide) (fun (t_122 : n2.toInt = (-1)) => ?_) (fun (t_122 : ¬ n2.toInt = (-1)) => ?_)
            · exact Jn_125_69 q_37 hV_q_37 hF_q_37 hK_q_37 mS_q_37 z_41 z_42 z_43 z_44 z_45 z_46 z_47 z_48 z_49 z_50 z_51 z_52 z_53 z_54 z_55 z_56 z_57 z_58 z_59 z_60
            · refine wa_aload_n B dX12_readAll_49 rfl 1 rfl ?_
              refine wa_aload_n B dX12_readAll_50 rfl 1 rfl ?_
              refine wa_getI B (C := RX12) (T := TX12) (N := 51) iq_X12_readAll_X12 ha0 ka0 (by decide) rfl 36 (by decide) (by decide) (by decide +kernel) rfl (by decide) (v := (q_37.1 a0 36)) rfl dX12_readAll_51 ?_
              have Jn_84_124 : ∀  (v_123 : Int64), WA l dC dI h L ({ frames := 2, cells := 0, slots := 0, locals := 55 } : Room) 5 Z q_37 84 [(4, .int v_5), (0, .ref a0), (1, .int n1), (2, .int n2), (3, .int n3)] [.long v_123, .ref a0] := by
                intro v_123
                refine wa_putJ B (C := RX12) (T := TX12) (N := 51) iq_X12_readAll_X12 ha0 ka0 (by decide) rfl 38 (by decide) (by decide) (by decide +kernel) rfl (by decide) (v := v_123) (ty := .long) tyX12 tyX12_ok nmX12 rfl (by decide +kernel) rfl rfl dX12_readAll_84 (fun q_125 eq_125 => ?_)
                have hV_q_125 : sx_V h L q_125 := by rw [eq_125]; exact hV_q_37.pJ
                have hF_q_125 : sx_fr h L (fun a => h.1 a = 12 ∨ h.1 a = 144 ∨ h.1 a = 245) q q_125 := hF_q_37.tr (by rw [eq_125]; exact sx_fr.pJ (show h.1 a0 = 12 ∨ h.1 a0 = 144 ∨ h.1 a0 = 245 from by omega))
                have z_126 : q_125.2.1 a0 38 = v_123 := by rw [eq_125]; exact sg_pJ_e
                have hK_q_125 : sx_kf a0 [36, 37, 38, 39] q q_125 := hK_q_37.tr (by rw [eq_125]; exact sx_kf.pJ (by decide))
                have mS_q_125 : mv_S m23 m26 m28 m29 q_125 := mv_S.eq ((show q_125.2.2.2.1 m23 = q_37.2.2.2.1 m23 from by rw [eq_125]; rfl)) ((show q_125.2.2.2.1 m26 = q_37.2.2.2.1 m26 from by rw [eq_125]; rfl)) ((show q_125.2.2.2.1 m28 = q_37.2.2.2.1 m28 from by rw [eq_125]; rfl)) ((show q_125.2.2.2.1 m29 = q_37.2.2.2.1 m29 from by rw [eq_125]; rfl)) mS_q_37
                refine wa_aload_n B dX12_readAll_87 rfl 1 rfl ?_
                refine wa_aload_n B dX12_readAll_88 rfl 1 rfl ?_
                have z_127 : q_125.1 a0 36 = q_37.1 a0 36 := (show q_125.1 a0 36 = q_37.1 a0 36 from by rw [eq_125]; rfl)
                refine wa_getI B (C := RX12) (T := TX12) (N := 51) iq_X12_readAll_X12 ha0 ka0 (by decide) rfl 36 (by decide) (by decide) (by decide +kernel) rfl (by decide) (v := (q_37.1 a0 36)) z_127 dX12_readAll_89 ?_
                have Jn_122_129 : ∀  (v_128 : Int64), WA l dC dI h L ({ frames := 2, cells := 0, slots := 0, locals := 55 } : Room) 5 Z q_125 122 [(4, .int v_5), (0, .ref a0), (1, .int n1), (2, .int n2), (3, .int n3)] [.long v_128, .ref a0] := by
                  intro v_128
                  refine wa_putJ B (C := RX12) (T := TX12) (N := 51) iq_X12_readAll_X12 ha0 ka0 (by decide) rfl 39 (by decide) (by decide) (by decide +kernel) rfl (by decide) (v := v_128) (ty := .long) tyX12 tyX12_ok nmX12 rfl (by decide +kernel) rfl rfl dX12_readAll_122 (fun q_130 eq_130 => ?_)
                  have hV_q_130 : sx_V h L q_130 := by rw [eq_130]; exact hV_q_125.pJ
                  have hF_q_130 : sx_fr h L (fun a => h.1 a = 12 ∨ h.1 a = 144 ∨ h.1 a = 245) q q_130 := hF_q_125.tr (by rw [eq_130]; exact sx_fr.pJ (show h.1 a0 = 12 ∨ h.1 a0 = 144 ∨ h.1 a0 = 245 from by omega))
                  have z_131 : q_130.2.1 a0 39 = v_128 := by rw [eq_130]; exact sg_pJ_e
                  have hK_q_130 : sx_kf a0 [36, 37, 38, 39] q q_130 := hK_q_125.tr (by rw [eq_130]; exact sx_kf.pJ (by decide))
                  have mS_q_130 : mv_S m23 m26 m28 m29 q_130 := mv_S.eq ((show q_130.2.2.2.1 m23 = q_125.2.2.2.1 m23 from by rw [eq_130]; rfl)) ((show q_130.2.2.2.1 m26 = q_125.2.2.2.1 m26 from by rw [eq_130]; rfl)) ((show q_130.2.2.2.1 m28 = q_125.2.2.2.1 m28 from by rw [eq_130]; rfl)) ((show q_130.2.2.2.1 m29 = q_125.2.2.2.1 m29 from by rw [eq_130]; rfl)) mS_q_125
                  have z_132 : q_130.2.2.1 a0 18 = m18 := ((show q_130.2.2.1 a0 18 = q_125.2.2.1 a0 18 from by rw [eq_130]; rfl)).trans (((show q_125.2.2.1 a0 18 = q_37.2.2.1 a0 18 from by rw [eq_125]; rfl)).trans (z_41))
                  have z_133 : q_130.2.2.1 a0 19 = m19 := ((show q_130.2.2.1 a0 19 = q_125.2.2.1 a0 19 from by rw [eq_130]; rfl)).trans (((show q_125.2.2.1 a0 19 = q_37.2.2.1 a0 19 from by rw [eq_125]; rfl)).trans (z_42))
                  have z_134 : q_130.2.2.1 a0 23 = m23 := ((show q_130.2.2.1 a0 23 = q_125.2.2.1 a0 23 from by rw [eq_130]; rfl)).trans (((show q_125.2.2.1 a0 23 = q_37.2.2.1 a0 23 from by rw [eq_125]; rfl)).trans (z_43))
                  have z_135 : q_130.2.2.1 a0 25 = m25 := ((show q_130.2.2.1 a0 25 = q_125.2.2.1 a0 25 from by rw [eq_130]; rfl)).trans (((show q_125.2.2.1 a0 25 = q_37.2.2.1 a0 25 from by rw [eq_125]; rfl)).trans (z_44))
                  have z_136 : q_130.2.2.1 a0 26 = m26 := ((show q_130.2.2.1 a0 26 = q_125.2.2.1 a0 26 from by rw [eq_130]; rfl)).trans (((show q_125.2.2.1 a0 26 = q_37.2.2.1 a0 26 from by rw [eq_125]; rfl)).trans (z_45))
                  have z_137 : q_130.2.2.1 a0 27 = m27 := ((show q_130.2.2.1 a0 27 = q_125.2.2.1 a0 27 from by rw [eq_130]; rfl)).trans (((show q_125.2.2.1 a0 27 = q_37.2.2.1 a0 27 from by rw [eq_125]; rfl)).trans (z_46))
                  have z_138 : q_130.2.2.1 a0 28 = m28 := ((show q_130.2.2.1 a0 28 = q_125.2.2.1 a0 28 from by rw [eq_130]; rfl)).trans (((show q_125.2.2.1 a0 28 = q_37.2.2.1 a0 28 from by rw [eq_125]; rfl)).trans (z_47))
                  have z_139 : q_130.2.2.1 a0 29 = m29 := ((show q_130.2.2.1 a0 29 = q_125.2.2.1 a0 29 from by rw [eq_130]; rfl)).trans (((show q_125.2.2.1 a0 29 = q_37.2.2.1 a0 29 from by rw [eq_125]; rfl)).trans (z_48))
                  have z_140 : q_130.2.2.1 a0 30 = m30 := ((show q_130.2.2.1 a0 30 = q_125.2.2.1 a0 30 from by rw [eq_130]; rfl)).trans (((show q_125.2.2.1 a0 30 = q_37.2.2.1 a0 30 from by rw [eq_125]; rfl)).trans (z_49))
                  have z_141 : q_130.2.2.1 a0 34 = m34 := ((show q_130.2.2.1 a0 34 = q_125.2.2.1 a0 34 from by rw [eq_130]; rfl)).trans (((show q_125.2.2.1 a0 34 = q_37.2.2.1 a0 34 from by rw [eq_125]; rfl)).trans (z_50))
                  have z_142 : q_130.2.2.1 a0 35 = m35 := ((show q_130.2.2.1 a0 35 = q_125.2.2.1 a0 35 from by rw [eq_130]; rfl)).trans (((show q_125.2.2.1 a0 35 = q_37.2.2.1 a0 35 from by rw [eq_125]; rfl)).trans (z_51))
                  have z_143 : q_130.2.2.2.1 m18 = (q.2.2.2.1 m18) := ((show q_130.2.2.2.1 m18 = q_125.2.2.2.1 m18 from by rw [eq_130]; rfl)).trans (((show q_125.2.2.2.1 m18 = q_37.2.2.2.1 m18 from by rw [eq_125]; rfl)).trans (z_52))
                  have z_144 : q_130.2.2.2.1 m19 = (q.2.2.2.1 m19) := ((show q_130.2.2.2.1 m19 = q_125.2.2.2.1 m19 from by rw [eq_130]; rfl)).trans (((show q_125.2.2.2.1 m19 = q_37.2.2.2.1 m19 from by rw [eq_125]; rfl)).trans (z_53))
                  have z_145 : q_130.2.2.2.1 m23 = (q.2.2.2.1 m23) := ((show q_130.2.2.2.1 m23 = q_125.2.2.2.1 m23 from by rw [eq_130]; rfl)).trans (((show q_125.2.2.2.1 m23 = q_37.2.2.2.1 m23 from by rw [eq_125]; rfl)).trans (z_54))
                  have z_146 : q_130.2.2.2.1 m25 = (q.2.2.2.1 m25) := ((show q_130.2.2.2.1 m25 = q_125.2.2.2.1 m25 from by rw [eq_130]; rfl)).trans (((show q_125.2.2.2.1 m25 = q_37.2.2.2.1 m25 from by rw [eq_125]; rfl)).trans (z_55))
                  have z_147 : q_130.2.2.2.1 m26 = (q.2.2.2.1 m26) := ((show q_130.2.2.2.1 m26 = q_125.2.2.2.1 m26 from by rw [eq_130]; rfl)).trans (((show q_125.2.2.2.1 m26 = q_37.2.2.2.1 m26 from by rw [eq_125]; rfl)).trans (z_56))
                  have z_148 : q_130.2.2.2.1 m27 = (q.2.2.2.1 m27) := ((show q_130.2.2.2.1 m27 = q_125.2.2.2.1 m27 from by rw [eq_130]; rfl)).trans (((show q_125.2.2.2.1 m27 = q_37.2.2.2.1 m27 from by rw [eq_125]; rfl)).trans (z_57))
                  have z_149 : q_130.2.2.2.1 m28 = (q.2.2.2.1 m28) := ((show q_130.2.2.2.1 m28 = q_125.2.2.2.1 m28 from by rw [eq_130]; rfl)).trans (((show q_125.2.2.2.1 m28 = q_37.2.2.2.1 m28 from by rw [eq_125]; rfl)).trans (z_58))
                  have z_150 : q_130.2.2.2.1 m29 = (q.2.2.2.1 m29) := ((show q_130.2.2.2.1 m29 = q_125.2.2.2.1 m29 from by rw [eq_130]; rfl)).trans (((show q_125.2.2.2.1 m29 = q_37.2.2.2.1 m29 from by rw [eq_125]; rfl)).trans (z_59))
                  have z_151 : q_130.2.2.2.1 m30 = (q.2.2.2.1 m30) := ((show q_130.2.2.2.1 m30 = q_125.2.2.2.1 m30 from by rw [eq_130]; rfl)).trans (((show q_125.2.2.2.1 m30 = q_37.2.2.2.1 m30 from by rw [eq_125]; rfl)).trans (z_60))
                  exact Jn_125_69 q_130 hV_q_130 hF_q_130 hK_q_130 mS_q_130 z_132 z_133 z_134 z_135 z_136 z_137 z_138 z_139 z_140 z_141 z_142 z_143 z_144 z_145 z_146 z_147 z_148 z_149 z_150 z_151
                refine wa_if_eq B 109 dX12_readAll_92 (by decide) (fun (t_152 : (q_37.1 a0 36).toInt = 0) => ?_) (fun (t_152 : ¬ (q_37.1 a0 36).toInt = 0) => ?_)
                · refine wa_aload_n B dX12_readAll_109 rfl 1 rfl ?_
                  have z_153 : q_125.2.2.1 a0 35 = m35 := ((show q_125.2.2.1 a0 35 = q_37.2.2.1 a0 35 from by rw [eq_125]; rfl)).trans (z_51)
                  refine wa_getR B (C := RX12) (T := TX12) (N := 51) iq_X12_readAll_X12 ha0 ka0 (by decide) rfl 35 (by decide) (by decide) (by decide +kernel) rfl (fun _ _ _ => rfl) (v := m35) z_153 dX12_readAll_110 ?_
                  refine wa_iload_n B dX12_readAll_113 rfl 3 rfl ?_
                  refine wa_laload B hm35 km35 (by decide) (by decide) (show 0 ≤ n2.toInt by omega) (show n2.toInt < (h.2.1 m35 : Int) by omega) (v := (q_125.2.2.2.2 m35 (n2 : Int32).toNatClampNeg)) rfl dX12_readAll_114 ?_
                  refine wa_goto B 122 dX12_readAll_115 (by decide) ?_
                  exact Jn_122_129 ((q_125.2.2.2.2 m35 (n2 : Int32).toNatClampNeg))
                · refine wa_aload_n B dX12_readAll_95 rfl 1 rfl ?_
                  have z_154 : q_125.2.2.1 a0 35 = m35 := ((show q_125.2.2.1 a0 35 = q_37.2.2.1 a0 35 from by rw [eq_125]; rfl)).trans (z_51)
                  refine wa_getR B (C := RX12) (T := TX12) (N := 51) iq_X12_readAll_X12 ha0 ka0 (by decide) rfl 35 (by decide) (by decide) (by decide +kernel) rfl (fun _ _ _ => rfl) (v := m35) z_154 dX12_readAll_96 ?_
                  refine wa_iload_n B dX12_readAll_99 rfl 3 rfl ?_
                  refine wa_laload B hm35 km35 (by decide) (by decide) (show 0 ≤ n2.toInt by omega) (show n2.toInt < (h.2.1 m35 : Int) by omega) (v := (q_125.2.2.2.2 m35 (n2 : Int32).toNatClampNeg)) rfl dX12_readAll_100 ?_
                  refine wa_aload_n B dX12_readAll_101 rfl 1 rfl ?_
                  refine wa_getJ B (C := RX12) (T := TX12) (N := 51) iq_X12_readAll_X12 ha0 ka0 (by decide) rfl 39 (by decide) (by decide) (by decide +kernel) rfl (by decide) (v := (q_125.2.1 a0 39)) rfl dX12_readAll_102 ?_
                  refine wa_lcmp B dX12_readAll_105 (fun v_155 ev_155 => ?_)
                  refine wa_if_le B 118 dX12_readAll_106 (by decide) (fun (t_156 : v_155.toInt ≤ 0) => ?_) (fun (t_156 : ¬ v_155.toInt ≤ 0) => ?_)
                  · refine wa_aload_n B dX12_readAll_118 rfl 1 rfl ?_
                    refine wa_getJ B (C := RX12) (T := TX12) (N := 51) iq_X12_readAll_X12 ha0 ka0 (by decide) rfl 39 (by decide) (by decide) (by decide +kernel) rfl (by decide) (v := (q_125.2.1 a0 39)) rfl dX12_readAll_119 ?_
                    exact Jn_122_129 (q_125.2.1 a0 39)
                  · refine wa_aload_n B dX12_readAll_109 rfl 1 rfl ?_
                    refine wa_getR B (C := RX12) (T := TX12) (N := 51) iq_X12_readAll_X12 ha0 ka0 (by decide) rfl 35 (by decide) (by decide) (by decide +kernel) rfl (fun _ _ _ => rfl) (v := m35) z_154 dX12_readAll_110 ?_
                    refine wa_iload_n B dX12_readAll_113 rfl 3 rfl ?_
                    refine wa_laload B hm35 km35 (by decide) (by decide) (show 0 ≤ n2.toInt by omega) (show n2.toInt < (h.2.1 m35 : Int) by omega) (v := (q_125.2.2.2.2 m35 (n2 : Int32).toNatClampNeg)) rfl dX12_readAll_114 ?_
                    refine wa_goto B 122 dX12_readAll_115 (by decide) ?_
                    exact Jn_122_129 ((q_125.2.2.2.2 m35 (n2 : Int32).toNatClampNeg))
              refine wa_if_eq B 71 dX12_readAll_54 (by decide) (fun (t_157 : (q_37.1 a0 36).toInt = 0) => ?_) (fun (t_157 : ¬ (q_37.1 a0 36).toInt = 0) => ?_)
              · refine wa_aload_n B dX12_readAll_71 rfl 1 rfl ?_
                refine wa_getR B (C := RX12) (T := TX12) (N := 51) iq_X12_readAll_X12 ha0 ka0 (by decide) rfl 35 (by decide) (by decide) (by decide +kernel) rfl (fun _ _ _ => rfl) (v := m35) z_51 dX12_readAll_72 ?_
                refine wa_iload_n B dX12_readAll_75 rfl 3 rfl ?_
                refine wa_laload B hm35 km35 (by decide) (by decide) (show 0 ≤ n2.toInt by omega) (show n2.toInt < (h.2.1 m35 : Int) by omega) (v := (q_37.2.2.2.2 m35 (n2 : Int32).toNatClampNeg)) rfl dX12_readAll_76 ?_
                refine wa_goto B 84 dX12_readAll_77 (by decide) ?_
                exact Jn_84_124 ((q_37.2.2.2.2 m35 (n2 : Int32).toNatClampNeg))
              · refine wa_aload_n B dX12_readAll_57 rfl 1 rfl ?_
                refine wa_getR B (C := RX12) (T := TX12) (N := 51) iq_X12_readAll_X12 ha0 ka0 (by decide) rfl 35 (by decide) (by decide) (by decide +kernel) rfl (fun _ _ _ => rfl) (v := m35) z_51 dX12_readAll_58 ?_
                refine wa_iload_n B dX12_readAll_61 rfl 3 rfl ?_
                refine wa_laload B hm35 km35 (by decide) (by decide) (show 0 ≤ n2.toInt by omega) (show n2.toInt < (h.2.1 m35 : Int) by omega) (v := (q_37.2.2.2.2 m35 (n2 : Int32).toNatClampNeg)) rfl dX12_readAll_62 ?_
                refine wa_aload_n B dX12_readAll_63 rfl 1 rfl ?_
                refine wa_getJ B (C := RX12) (T := TX12) (N := 51) iq_X12_readAll_X12 ha0 ka0 (by decide) rfl 38 (by decide) (by decide) (by decide +kernel) rfl (by decide) (v := (q_37.2.1 a0 38)) rfl dX12_readAll_64 ?_
                refine wa_lcmp B dX12_readAll_67 (fun v_158 ev_158 => ?_)
                refine wa_if_ge B 80 dX12_readAll_68 (by decide) (fun (t_159 : 0 ≤ v_158.toInt) => ?_) (fun (t_159 : ¬ 0 ≤ v_158.toInt) => ?_)
                · refine wa_aload_n B dX12_readAll_80 rfl 1 rfl ?_
                  refine wa_getJ B (C := RX12) (T := TX12) (N := 51) iq_X12_readAll_X12 ha0 ka0 (by decide) rfl 38 (by decide) (by decide) (by decide +kernel) rfl (by decide) (v := (q_37.2.1 a0 38)) rfl dX12_readAll_81 ?_
                  exact Jn_84_124 (q_37.2.1 a0 38)
                · refine wa_aload_n B dX12_readAll_71 rfl 1 rfl ?_
                  refine wa_getR B (C := RX12) (T := TX12) (N := 51) iq_X12_readAll_X12 ha0 ka0 (by decide) rfl 35 (by decide) (by decide) (by decide +kernel) rfl (fun _ _ _ => rfl) (v := m35) z_51 dX12_readAll_72 ?_
                  refine wa_iload_n B dX12_readAll_75 rfl 3 rfl ?_
                  refine wa_laload B hm35 km35 (by decide) (by decide) (show 0 ≤ n2.toInt by omega) (show n2.toInt < (h.2.1 m35 : Int) by omega) (v := (q_37.2.2.2.2 m35 (n2 : Int32).toNatClampNeg)) rfl dX12_readAll_76 ?_
                  refine wa_goto B 84 dX12_readAll_77 (by decide) ?_
                  exact Jn_84_124 ((q_37.2.2.2.2 m35 (n2 : Int32).toNatClampNeg))
          · refine wa_goto B 175 dX12_readAll_41 (by decide) ?_
            exact Jn_175_61 q_37 hV_q_37 hF_q_37 hK_q_37 mS_q_37 z_41 z_42 z_43 z_44 z_45 z_46 z_47 z_48 z_49 z_50 z_51 z_52 z_53 z_54 z_55 z_56 z_57 z_58 z_59 z_60
  exact Lp_13_31 _ 0 q_3 hV_q_3 hF_q_3 hK_q_3 mS_q_3 z_8 z_9 z_10 z_11 z_12 z_13 z_14 z_15 z_16 z_17 z_18 z_19 z_20 z_21 z_22 z_23 z_24 z_25 z_26 z_27 (show 0 ≤ 0 from by first | assumption | omega | decide) (Nat.lt_succ_self _)
theorem iq_X12_readings_X12 : ∀ w ∈ wsX120, w ∈ wsX12_readings := fun _ h => List.mem_cons_of_mem _ (List.mem_append_right _ h)
set_option maxHeartbeats 4000000 in
set_option maxRecDepth 100000 in
theorem k_X12_readings (l : Launch) (dC : Nat → ClassId) (dI : Nat → Nat → Nat) (h : Sh) (L : List Nat) (hN : sx_nd L) (q : Sg) (hV : sx_V h L q) {a0 : Nat} (ha0 : a0 ∈ L) (ka0 : h.1 a0 = 12) (n1 : Int32) {m18 : Nat} (em18 : q.2.2.1 a0 18 = m18) {m19 : Nat} (em19 : q.2.2.1 a0 19 = m19) {m23 : Nat} (em23 : q.2.2.1 a0 23 = m23) {m25 : Nat} (em25 : q.2.2.1 a0 25 = m25) {m26 : Nat} (em26 : q.2.2.1 a0 26 = m26) {m27 : Nat} (em27 : q.2.2.1 a0 27 = m27) {m28 : Nat} (em28 : q.2.2.1 a0 28 = m28) {m29 : Nat} (em29 : q.2.2.1 a0 29 = m29) {m30 : Nat} (em30 : q.2.2.1 a0 30 = m30) {m34 : Nat} (em34 : q.2.2.1 a0 34 = m34) {m35 : Nat} (em35 : q.2.2.1 a0 35 = m35) (mS : mv_S m23 m26 m28 m29 q)   : CMi l dC dI h L yX12_readings wsX12_readings ({ frames := 3, cells := 0, slots := 0, locals := 79 } : Room) q [.ref a0, .int n1] (fun r q' => sx_V h L q' ∧ sx_fr h L (fun a => h.1 a = 12 ∨ h.1 a = 144 ∨ h.1 a = 245) q q' ∧ sx_kf a0 [0, 36, 37, 38, 39] q q' ∧ mv_S m23 m26 m28 m29 q') := by
  refine cm_i (cc := cX12_readings) (mL := 2) (own := RX12) hN (by decide) rfl rfl (Nat.le_of_ble_eq_true rfl) (fun Z B hret => ?_)
  have hF : sx_fr h L (fun a => h.1 a = 12 ∨ h.1 a = 144 ∨ h.1 a = 245) q q := sx_fr.rf
  have hK : sx_kf a0 [0, 36, 37, 38, 39] q q := sx_kf.rf
  obtain ⟨hm18, km18, lm18⟩ : m18 ∈ L ∧ h.1 m18 = 128 ∧ h.2.1 m18 = 6 := by obtain ⟨r9, e9, z1, z2, z3⟩ := hV.refn (t := 128) (n := 6) ha0 ka0 18 rfl (by decide) rfl (by decide); rw [← em18, e9]; exact ⟨z1, z2, z3⟩
  obtain ⟨hm19, km19, lm19⟩ : m19 ∈ L ∧ h.1 m19 = 129 ∧ h.2.1 m19 = 30 := by obtain ⟨r9, e9, z1, z2, z3⟩ := hV.refn (t := 129) (n := 30) ha0 ka0 19 rfl (by decide) rfl (by decide); rw [← em19, e9]; exact ⟨z1, z2, z3⟩
  obtain ⟨hm23, km23, lm23⟩ : m23 ∈ L ∧ h.1 m23 = 133 ∧ h.2.1 m23 = 9 := by obtain ⟨r9, e9, z1, z2, z3⟩ := hV.refn (t := 133) (n := 9) ha0 ka0 23 rfl (by decide) rfl (by decide); rw [← em23, e9]; exact ⟨z1, z2, z3⟩
  obtain ⟨hm25, km25, lm25⟩ : m25 ∈ L ∧ h.1 m25 = 135 ∧ h.2.1 m25 = 108 := by obtain ⟨r9, e9, z1, z2, z3⟩ := hV.refn (t := 135) (n := 108) ha0 ka0 25 rfl (by decide) rfl (by decide); rw [← em25, e9]; exact ⟨z1, z2, z3⟩
  obtain ⟨hm26, km26, lm26⟩ : m26 ∈ L ∧ h.1 m26 = 136 ∧ h.2.1 m26 = 108 := by obtain ⟨r9, e9, z1, z2, z3⟩ := hV.refn (t := 136) (n := 108) ha0 ka0 26 rfl (by decide) rfl (by decide); rw [← em26, e9]; exact ⟨z1, z2, z3⟩
  obtain ⟨hm27, km27, lm27⟩ : m27 ∈ L ∧ h.1 m27 = 137 ∧ h.2.1 m27 = 9 := by obtain ⟨r9, e9, z1, z2, z3⟩ := hV.refn (t := 137) (n := 9) ha0 ka0 27 rfl (by decide) rfl (by decide); rw [← em27, e9]; exact ⟨z1, z2, z3⟩
  obtain ⟨hm28, km28, lm28⟩ : m28 ∈ L ∧ h.1 m28 = 138 ∧ h.2.1 m28 = 540 := by obtain ⟨r9, e9, z1, z2, z3⟩ := hV.refn (t := 138) (n := 540) ha0 ka0 28 rfl (by decide) rfl (by decide); rw [← em28, e9]; exact ⟨z1, z2, z3⟩
  obtain ⟨hm29, km29, lm29⟩ : m29 ∈ L ∧ h.1 m29 = 139 ∧ h.2.1 m29 = 540 := by obtain ⟨r9, e9, z1, z2, z3⟩ := hV.refn (t := 139) (n := 540) ha0 ka0 29 rfl (by decide) rfl (by decide); rw [← em29, e9]; exact ⟨z1, z2, z3⟩
  obtain ⟨hm30, km30, lm30⟩ : m30 ∈ L ∧ h.1 m30 = 140 ∧ h.2.1 m30 = 540 := by obtain ⟨r9, e9, z1, z2, z3⟩ := hV.refn (t := 140) (n := 540) ha0 ka0 30 rfl (by decide) rfl (by decide); rw [← em30, e9]; exact ⟨z1, z2, z3⟩
  obtain ⟨hm34, km34, lm34⟩ : m34 ∈ L ∧ h.1 m34 = 144 ∧ h.2.1 m34 = 4 := by obtain ⟨r9, e9, z1, z2, z3⟩ := hV.refn (t := 144) (n := 4) ha0 ka0 34 rfl (by decide) rfl (by decide); rw [← em34, e9]; exact ⟨z1, z2, z3⟩
  obtain ⟨hm35, km35, lm35⟩ : m35 ∈ L ∧ h.1 m35 = 245 ∧ h.2.1 m35 = 12 := by obtain ⟨r9, e9, z1, z2, z3⟩ := hV.refn (t := 245) (n := 12) ha0 ka0 35 rfl (by decide) rfl (by decide); rw [← em35, e9]; exact ⟨z1, z2, z3⟩
  show WA l dC dI h L ({ frames := 3, cells := 0, slots := 0, locals := 79 } : Room) 2 Z q 0 [(0, .ref a0), (1, .int n1)] []
  refine wa_aload_n B dX12_readings_0 rfl 0 rfl ?_
  refine wa_iconst B 0 dX12_readings_1 (by decide) ?_
  refine wa_putI B (C := RX12) (T := TX12) (N := 51) iq_X12_readings_X12 ha0 ka0 (by decide) rfl 0 (by decide) (by decide) (by decide +kernel) rfl (by decide) (v := 0) (ty := .int) tyX12 tyX12_ok nmX12 rfl (by decide +kernel) rfl rfl dX12_readings_2 (fun q_1 eq_1 => ?_)
  have hV_q_1 : sx_V h L q_1 := by rw [eq_1]; exact hV.pI ka0 trivial
  have hF_q_1 : sx_fr h L (fun a => h.1 a = 12 ∨ h.1 a = 144 ∨ h.1 a = 245) q q_1 := hF.tr (by rw [eq_1]; exact sx_fr.pI (show h.1 a0 = 12 ∨ h.1 a0 = 144 ∨ h.1 a0 = 245 from by omega))
  have z_2 : q_1.1 a0 0 = 0 := by rw [eq_1]; exact sg_pI_e
  have hK_q_1 : sx_kf a0 [0, 36, 37, 38, 39] q q_1 := hK.tr (by rw [eq_1]; exact sx_kf.pI (by decide))
  have mS_q_1 : mv_S m23 m26 m28 m29 q_1 := mv_S.eq ((show q_1.2.2.2.1 m23 = q.2.2.2.1 m23 from by rw [eq_1]; rfl)) ((show q_1.2.2.2.1 m26 = q.2.2.2.1 m26 from by rw [eq_1]; rfl)) ((show q_1.2.2.2.1 m28 = q.2.2.2.1 m28 from by rw [eq_1]; rfl)) ((show q_1.2.2.2.1 m29 = q.2.2.2.1 m29 from by rw [eq_1]; rfl)) mS
  refine wa_aload_n B dX12_readings_5 rfl 0 rfl ?_
  refine wa_iload_n B dX12_readings_6 rfl 1 rfl ?_
  refine wa_callVi B (x := (RX12, TX12, 51)) (As := [.int n1]) (rest := []) (k_X12_isTablet l dC dI h L hN q_1 hV_q_1 (a0 := a0) ha0 ka0 n1  ) (cwV 1 B.1.2.2.2.2 gX12_readings_X12_isTablet rfl rfl rfl (by decide +kernel) ⟨Nat.le_of_ble_eq_true rfl, Nat.le_of_ble_eq_true rfl⟩) ha0 ka0 (by decide) rfl rfl rfl (Nat.le_of_ble_eq_true rfl) dX12_readings_7 (fun r_4 q_3 w_5 => ?_)
  obtain ⟨ew_5, hw_5⟩ := w_5
  subst ew_5
  refine wa_if_ne B 15 dX12_readings_10 (by decide) (fun (t_6 : ¬ r_4.toInt = 0) => ?_) (fun (t_6 : r_4.toInt = 0) => ?_)
  · refine wa_aload_n B dX12_readings_15 rfl 0 rfl ?_
    refine wa_iload_n B dX12_readings_16 rfl 1 rfl ?_
    refine wa_iconst B (-1) dX12_readings_17 (by decide) ?_
    refine wa_iconst B (-1) dX12_readings_18 (by decide) ?_
    have z_7 : q_1.2.2.1 a0 18 = m18 := ((show q_1.2.2.1 a0 18 = q.2.2.1 a0 18 from by rw [eq_1]; rfl)).trans (em18)
    have z_8 : q_1.2.2.1 a0 19 = m19 := ((show q_1.2.2.1 a0 19 = q.2.2.1 a0 19 from by rw [eq_1]; rfl)).trans (em19)
    have z_9 : q_1.2.2.1 a0 23 = m23 := ((show q_1.2.2.1 a0 23 = q.2.2.1 a0 23 from by rw [eq_1]; rfl)).trans (em23)
    have z_10 : q_1.2.2.1 a0 25 = m25 := ((show q_1.2.2.1 a0 25 = q.2.2.1 a0 25 from by rw [eq_1]; rfl)).trans (em25)
    have z_11 : q_1.2.2.1 a0 26 = m26 := ((show q_1.2.2.1 a0 26 = q.2.2.1 a0 26 from by rw [eq_1]; rfl)).trans (em26)
    have z_12 : q_1.2.2.1 a0 27 = m27 := ((show q_1.2.2.1 a0 27 = q.2.2.1 a0 27 from by rw [eq_1]; rfl)).trans (em27)
    have z_13 : q_1.2.2.1 a0 28 = m28 := ((show q_1.2.2.1 a0 28 = q.2.2.1 a0 28 from by rw [eq_1]; rfl)).trans (em28)
    have z_14 : q_1.2.2.1 a0 29 = m29 := ((show q_1.2.2.1 a0 29 = q.2.2.1 a0 29 from by rw [eq_1]; rfl)).trans (em29)
    have z_15 : q_1.2.2.1 a0 30 = m30 := ((show q_1.2.2.1 a0 30 = q.2.2.1 a0 30 from by rw [eq_1]; rfl)).trans (em30)
    have z_16 : q_1.2.2.1 a0 34 = m34 := ((show q_1.2.2.1 a0 34 = q.2.2.1 a0 34 from by rw [eq_1]; rfl)).trans (em34)
    have z_17 : q_1.2.2.1 a0 35 = m35 := ((show q_1.2.2.1 a0 35 = q.2.2.1 a0 35 from by rw [eq_1]; rfl)).trans (em35)
    refine wa_callVv B (x := (RX12, TX12, 51)) (As := [.int n1, .int (-1), .int (-1)]) (rest := []) (k_X12_readAll l dC dI h L hN q_1 hV_q_1 (a0 := a0) ha0 ka0 n1 (-1) (-1) (m18 := m18) z_7 (m19 := m19) z_8 (m23 := m23) z_9 (m25 := m25) z_10 (m26 := m26) z_11 (m27 := m27) z_12 (m28 := m28) z_13 (m29 := m29) z_14 (m30 := m30) z_15 (m34 := m34) z_16 (m35 := m35) z_17 mS_q_1 (by first | assumption | omega | decide) (by first | assumption | omega | decide) (by first | assumption | omega | decide) (by first | assumption | omega | decide) (by first | assumption | omega | decide) (by first | assumption | omega | decide)) (cwV 3 B.1.2.2.2.2 gX12_readings_X12_readAll rfl rfl rfl (by decide +kernel) ⟨Nat.le_of_ble_eq_true rfl, Nat.le_of_ble_eq_true rfl⟩) ha0 ka0 (by decide) rfl rfl rfl (Nat.le_of_ble_eq_true rfl) dX12_readings_19 (fun q_18 w_19 => ?_)
    obtain ⟨hV_q_18, h2_q_18, h3_q_18, mS_q_18⟩ := w_19
    have hF_q_18 : sx_fr h L (fun a => h.1 a = 12 ∨ h.1 a = 144 ∨ h.1 a = 245) q q_18 := hF_q_1.tr (h2_q_18.mono (fun a (z : h.1 a = 12 ∨ h.1 a = 144 ∨ h.1 a = 245) => (show h.1 a = 12 ∨ h.1 a = 144 ∨ h.1 a = 245 from by omega)))
    have hK_q_18 : sx_kf a0 [0, 36, 37, 38, 39] q q_18 := hK_q_1.tr (h3_q_18.mono (by decide))
    refine wa_aload_n B dX12_readings_22 rfl 0 rfl ?_
    refine wa_getI B (C := RX12) (T := TX12) (N := 51) iq_X12_readings_X12 ha0 ka0 (by decide) rfl 36 (by decide) (by decide) (by decide +kernel) rfl (by decide) (v := (q_18.1 a0 36)) rfl dX12_readings_23 ?_
    exact hret _ _ _ _ dX12_readings_26 ⟨hV_q_18, hF_q_18, hK_q_18, mS_q_18⟩
  · refine wa_iconst B (-1) dX12_readings_13 (by decide) ?_
    exact hret _ _ _ _ dX12_readings_14 ⟨hV_q_1, hF_q_1, hK_q_1, mS_q_1⟩
theorem iq_X12_bound_X12 : ∀ w ∈ wsX120, w ∈ wsX12_bound := fun _ h => List.mem_cons_of_mem _ (List.mem_append_right _ h)
set_option maxHeartbeats 4000000 in
set_option maxRecDepth 100000 in
theorem k_X12_bound (l : Launch) (dC : Nat → ClassId) (dI : Nat → Nat → Nat) (h : Sh) (L : List Nat) (hN : sx_nd L) (q : Sg) (hV : sx_V h L q) {a0 : Nat} (ha0 : a0 ∈ L) (ka0 : h.1 a0 = 12) (n1 : Int32) (n2 : Int32) (n3 : Int32) {m18 : Nat} (em18 : q.2.2.1 a0 18 = m18) {m19 : Nat} (em19 : q.2.2.1 a0 19 = m19) {m23 : Nat} (em23 : q.2.2.1 a0 23 = m23) {m25 : Nat} (em25 : q.2.2.1 a0 25 = m25) {m26 : Nat} (em26 : q.2.2.1 a0 26 = m26) {m27 : Nat} (em27 : q.2.2.1 a0 27 = m27) {m28 : Nat} (em28 : q.2.2.1 a0 28 = m28) {m29 : Nat} (em29 : q.2.2.1 a0 29 = m29) {m30 : Nat} (em30 : q.2.2.1 a0 30 = m30) {m34 : Nat} (em34 : q.2.2.1 a0 34 = m34) {m35 : Nat} (em35 : q.2.2.1 a0 35 = m35) (mS : mv_S m23 m26 m28 m29 q)   : CMi l dC dI h L yX12_bound wsX12_bound ({ frames := 3, cells := 0, slots := 0, locals := 79 } : Room) q [.ref a0, .int n1, .int n2, .int n3] (fun r q' => sx_V h L q' ∧ sx_fr h L (fun a => h.1 a = 12 ∨ h.1 a = 144 ∨ h.1 a = 245) q q' ∧ sx_kf a0 [0, 36, 37, 38, 39] q q' ∧ mv_S m23 m26 m28 m29 q') := by
  refine cm_i (cc := cX12_bound) (mL := 4) (own := RX12) hN (by decide) rfl rfl (Nat.le_of_ble_eq_true rfl) (fun Z B hret => ?_)
  have hF : sx_fr h L (fun a => h.1 a = 12 ∨ h.1 a = 144 ∨ h.1 a = 245) q q := sx_fr.rf
  have hK : sx_kf a0 [0, 36, 37, 38, 39] q q := sx_kf.rf
  obtain ⟨hm18, km18, lm18⟩ : m18 ∈ L ∧ h.1 m18 = 128 ∧ h.2.1 m18 = 6 := by obtain ⟨r9, e9, z1, z2, z3⟩ := hV.refn (t := 128) (n := 6) ha0 ka0 18 rfl (by decide) rfl (by decide); rw [← em18, e9]; exact ⟨z1, z2, z3⟩
  obtain ⟨hm19, km19, lm19⟩ : m19 ∈ L ∧ h.1 m19 = 129 ∧ h.2.1 m19 = 30 := by obtain ⟨r9, e9, z1, z2, z3⟩ := hV.refn (t := 129) (n := 30) ha0 ka0 19 rfl (by decide) rfl (by decide); rw [← em19, e9]; exact ⟨z1, z2, z3⟩
  obtain ⟨hm23, km23, lm23⟩ : m23 ∈ L ∧ h.1 m23 = 133 ∧ h.2.1 m23 = 9 := by obtain ⟨r9, e9, z1, z2, z3⟩ := hV.refn (t := 133) (n := 9) ha0 ka0 23 rfl (by decide) rfl (by decide); rw [← em23, e9]; exact ⟨z1, z2, z3⟩
  obtain ⟨hm25, km25, lm25⟩ : m25 ∈ L ∧ h.1 m25 = 135 ∧ h.2.1 m25 = 108 := by obtain ⟨r9, e9, z1, z2, z3⟩ := hV.refn (t := 135) (n := 108) ha0 ka0 25 rfl (by decide) rfl (by decide); rw [← em25, e9]; exact ⟨z1, z2, z3⟩
  obtain ⟨hm26, km26, lm26⟩ : m26 ∈ L ∧ h.1 m26 = 136 ∧ h.2.1 m26 = 108 := by obtain ⟨r9, e9, z1, z2, z3⟩ := hV.refn (t := 136) (n := 108) ha0 ka0 26 rfl (by decide) rfl (by decide); rw [← em26, e9]; exact ⟨z1, z2, z3⟩
  obtain ⟨hm27, km27, lm27⟩ : m27 ∈ L ∧ h.1 m27 = 137 ∧ h.2.1 m27 = 9 := by obtain ⟨r9, e9, z1, z2, z3⟩ := hV.refn (t := 137) (n := 9) ha0 ka0 27 rfl (by decide) rfl (by decide); rw [← em27, e9]; exact ⟨z1, z2, z3⟩
  obtain ⟨hm28, km28, lm28⟩ : m28 ∈ L ∧ h.1 m28 = 138 ∧ h.2.1 m28 = 540 := by obtain ⟨r9, e9, z1, z2, z3⟩ := hV.refn (t := 138) (n := 540) ha0 ka0 28 rfl (by decide) rfl (by decide); rw [← em28, e9]; exact ⟨z1, z2, z3⟩
  obtain ⟨hm29, km29, lm29⟩ : m29 ∈ L ∧ h.1 m29 = 139 ∧ h.2.1 m29 = 540 := by obtain ⟨r9, e9, z1, z2, z3⟩ := hV.refn (t := 139) (n := 540) ha0 ka0 29 rfl (by decide) rfl (by decide); rw [← em29, e9]; exact ⟨z1, z2, z3⟩
  obtain ⟨hm30, km30, lm30⟩ : m30 ∈ L ∧ h.1 m30 = 140 ∧ h.2.1 m30 = 540 := by obtain ⟨r9, e9, z1, z2, z3⟩ := hV.refn (t := 140) (n := 540) ha0 ka0 30 rfl (by decide) rfl (by decide); rw [← em30, e9]; exact ⟨z1, z2, z3⟩
  obtain ⟨hm34, km34, lm34⟩ : m34 ∈ L ∧ h.1 m34 = 144 ∧ h.2.1 m34 = 4 := by obtain ⟨r9, e9, z1, z2, z3⟩ := hV.refn (t := 144) (n := 4) ha0 ka0 34 rfl (by decide) rfl (by decide); rw [← em34, e9]; exact ⟨z1, z2, z3⟩
  obtain ⟨hm35, km35, lm35⟩ : m35 ∈ L ∧ h.1 m35 = 245 ∧ h.2.1 m35 = 12 := by obtain ⟨r9, e9, z1, z2, z3⟩ := hV.refn (t := 245) (n := 12) ha0 ka0 35 rfl (by decide) rfl (by decide); rw [← em35, e9]; exact ⟨z1, z2, z3⟩
  show WA l dC dI h L ({ frames := 3, cells := 0, slots := 0, locals := 79 } : Room) 4 Z q 0 [(0, .ref a0), (1, .int n1), (2, .int n2), (3, .int n3)] []
  refine wa_aload_n B dX12_bound_0 rfl 0 rfl ?_
  refine wa_iload_n B dX12_bound_1 rfl 1 rfl ?_
  refine wa_iload_n B dX12_bound_2 rfl 2 rfl ?_
  refine wa_callVi B (x := (RX12, TX12, 51)) (As := [.int n1, .int n2]) (rest := []) (k_X12_isLine l dC dI h L hN q hV (a0 := a0) ha0 ka0 n1 n2  ) (cwV 2 B.1.2.2.2.2 gX12_bound_X12_isLine rfl rfl rfl (by decide +kernel) ⟨Nat.le_of_ble_eq_true rfl, Nat.le_of_ble_eq_true rfl⟩) ha0 ka0 (by decide) rfl rfl rfl (Nat.le_of_ble_eq_true rfl) dX12_bound_3 (fun r_2 q_1 w_3 => ?_)
  obtain ⟨ew_3, hw_3⟩ := w_3
  subst ew_3
  refine wa_if_ne B 14 dX12_bound_6 (by decide) (fun (t_4 : ¬ r_2.toInt = 0) => ?_) (fun (t_4 : r_2.toInt = 0) => ?_)
  · refine wa_aload_n B dX12_bound_14 rfl 0 rfl ?_
    refine wa_iconst B 0 dX12_bound_15 (by decide) ?_
    refine wa_putI B (C := RX12) (T := TX12) (N := 51) iq_X12_bound_X12 ha0 ka0 (by decide) rfl 0 (by decide) (by decide) (by decide +kernel) rfl (by decide) (v := 0) (ty := .int) tyX12 tyX12_ok nmX12 rfl (by decide +kernel) rfl rfl dX12_bound_16 (fun q_5 eq_5 => ?_)
    have hV_q_5 : sx_V h L q_5 := by rw [eq_5]; exact hV.pI ka0 trivial
    have hF_q_5 : sx_fr h L (fun a => h.1 a = 12 ∨ h.1 a = 144 ∨ h.1 a = 245) q q_5 := hF.tr (by rw [eq_5]; exact sx_fr.pI (show h.1 a0 = 12 ∨ h.1 a0 = 144 ∨ h.1 a0 = 245 from by omega))
    have z_6 : q_5.1 a0 0 = 0 := by rw [eq_5]; exact sg_pI_e
    have hK_q_5 : sx_kf a0 [0, 36, 37, 38, 39] q q_5 := hK.tr (by rw [eq_5]; exact sx_kf.pI (by decide))
    have mS_q_5 : mv_S m23 m26 m28 m29 q_5 := mv_S.eq ((show q_5.2.2.2.1 m23 = q.2.2.2.1 m23 from by rw [eq_5]; rfl)) ((show q_5.2.2.2.1 m26 = q.2.2.2.1 m26 from by rw [eq_5]; rfl)) ((show q_5.2.2.2.1 m28 = q.2.2.2.1 m28 from by rw [eq_5]; rfl)) ((show q_5.2.2.2.1 m29 = q.2.2.2.1 m29 from by rw [eq_5]; rfl)) mS
    refine wa_aload_n B dX12_bound_19 rfl 0 rfl ?_
    refine wa_iload_n B dX12_bound_20 rfl 1 rfl ?_
    refine wa_iload_n B dX12_bound_21 rfl 2 rfl ?_
    refine wa_iconst B (-1) dX12_bound_22 (by decide) ?_
    have z_7 : q_5.2.2.1 a0 18 = m18 := ((show q_5.2.2.1 a0 18 = q.2.2.1 a0 18 from by rw [eq_5]; rfl)).trans (em18)
    have z_8 : q_5.2.2.1 a0 19 = m19 := ((show q_5.2.2.1 a0 19 = q.2.2.1 a0 19 from by rw [eq_5]; rfl)).trans (em19)
    have z_9 : q_5.2.2.1 a0 23 = m23 := ((show q_5.2.2.1 a0 23 = q.2.2.1 a0 23 from by rw [eq_5]; rfl)).trans (em23)
    have z_10 : q_5.2.2.1 a0 25 = m25 := ((show q_5.2.2.1 a0 25 = q.2.2.1 a0 25 from by rw [eq_5]; rfl)).trans (em25)
    have z_11 : q_5.2.2.1 a0 26 = m26 := ((show q_5.2.2.1 a0 26 = q.2.2.1 a0 26 from by rw [eq_5]; rfl)).trans (em26)
    have z_12 : q_5.2.2.1 a0 27 = m27 := ((show q_5.2.2.1 a0 27 = q.2.2.1 a0 27 from by rw [eq_5]; rfl)).trans (em27)
    have z_13 : q_5.2.2.1 a0 28 = m28 := ((show q_5.2.2.1 a0 28 = q.2.2.1 a0 28 from by rw [eq_5]; rfl)).trans (em28)
    have z_14 : q_5.2.2.1 a0 29 = m29 := ((show q_5.2.2.1 a0 29 = q.2.2.1 a0 29 from by rw [eq_5]; rfl)).trans (em29)
    have z_15 : q_5.2.2.1 a0 30 = m30 := ((show q_5.2.2.1 a0 30 = q.2.2.1 a0 30 from by rw [eq_5]; rfl)).trans (em30)
    have z_16 : q_5.2.2.1 a0 34 = m34 := ((show q_5.2.2.1 a0 34 = q.2.2.1 a0 34 from by rw [eq_5]; rfl)).trans (em34)
    have z_17 : q_5.2.2.1 a0 35 = m35 := ((show q_5.2.2.1 a0 35 = q.2.2.1 a0 35 from by rw [eq_5]; rfl)).trans (em35)
    refine wa_callVv B (x := (RX12, TX12, 51)) (As := [.int n1, .int n2, .int (-1)]) (rest := []) (k_X12_readAll l dC dI h L hN q_5 hV_q_5 (a0 := a0) ha0 ka0 n1 n2 (-1) (m18 := m18) z_7 (m19 := m19) z_8 (m23 := m23) z_9 (m25 := m25) z_10 (m26 := m26) z_11 (m27 := m27) z_12 (m28 := m28) z_13 (m29 := m29) z_14 (m30 := m30) z_15 (m34 := m34) z_16 (m35 := m35) z_17 mS_q_5 (by first | assumption | omega | decide) (by first | assumption | omega | decide) (by first | assumption | omega | decide) (by first | assumption | omega | decide) (by first | assumption | omega | decide) (by first | assumption | omega | decide)) (cwV 3 B.1.2.2.2.2 gX12_bound_X12_readAll rfl rfl rfl (by decide +kernel) ⟨Nat.le_of_ble_eq_true rfl, Nat.le_of_ble_eq_true rfl⟩) ha0 ka0 (by decide) rfl rfl rfl (Nat.le_of_ble_eq_true rfl) dX12_bound_23 (fun q_18 w_19 => ?_)
    obtain ⟨hV_q_18, h2_q_18, h3_q_18, mS_q_18⟩ := w_19
    have hF_q_18 : sx_fr h L (fun a => h.1 a = 12 ∨ h.1 a = 144 ∨ h.1 a = 245) q q_18 := hF_q_5.tr (h2_q_18.mono (fun a (z : h.1 a = 12 ∨ h.1 a = 144 ∨ h.1 a = 245) => (show h.1 a = 12 ∨ h.1 a = 144 ∨ h.1 a = 245 from by omega)))
    have hK_q_18 : sx_kf a0 [0, 36, 37, 38, 39] q q_18 := hK_q_5.tr (h3_q_18.mono (by decide))
    refine wa_aload_n B dX12_bound_26 rfl 0 rfl ?_
    refine wa_getI B (C := RX12) (T := TX12) (N := 51) iq_X12_bound_X12 ha0 ka0 (by decide) rfl 36 (by decide) (by decide) (by decide +kernel) rfl (by decide) (v := (q_18.1 a0 36)) rfl dX12_bound_27 ?_
    refine wa_if_ne B 37 dX12_bound_30 (by decide) (fun (t_20 : ¬ (q_18.1 a0 36).toInt = 0) => ?_) (fun (t_20 : (q_18.1 a0 36).toInt = 0) => ?_)
    · refine wa_iload_n B dX12_bound_37 rfl 3 rfl ?_
      refine wa_if_eq B 48 dX12_bound_38 (by decide) (fun (t_21 : n3.toInt = 0) => ?_) (fun (t_21 : ¬ n3.toInt = 0) => ?_)
      · refine wa_aload_n B dX12_bound_48 rfl 0 rfl ?_
        refine wa_getJ B (C := RX12) (T := TX12) (N := 51) iq_X12_bound_X12 ha0 ka0 (by decide) rfl 38 (by decide) (by decide) (by decide +kernel) rfl (by decide) (v := (q_18.2.1 a0 38)) rfl dX12_bound_49 ?_
        refine wa_l2i B dX12_bound_52 (fun v_22 ev_22 => ?_)
        exact hret _ _ _ _ dX12_bound_53 ⟨hV_q_18, hF_q_18, hK_q_18, mS_q_18⟩
      · refine wa_aload_n B dX12_bound_41 rfl 0 rfl ?_
        refine wa_getJ B (C := RX12) (T := TX12) (N := 51) iq_X12_bound_X12 ha0 ka0 (by decide) rfl 39 (by decide) (by decide) (by decide +kernel) rfl (by decide) (v := (q_18.2.1 a0 39)) rfl dX12_bound_42 ?_
        refine wa_goto B 52 dX12_bound_45 (by decide) ?_
        refine wa_l2i B dX12_bound_52 (fun v_23 ev_23 => ?_)
        exact hret _ _ _ _ dX12_bound_53 ⟨hV_q_18, hF_q_18, hK_q_18, mS_q_18⟩
    · refine wa_iconst B (-1) dX12_bound_33 (by decide) ?_
      refine wa_goto B 53 dX12_bound_34 (by decide) ?_
      exact hret _ _ _ _ dX12_bound_53 ⟨hV_q_18, hF_q_18, hK_q_18, mS_q_18⟩
  · refine wa_aload_n B dX12_bound_9 rfl 0 rfl ?_
    refine wa_callVi B (x := (RX12, TX12, 51)) (As := []) (rest := []) (k_X12_refuse l dC dI h L hN q hV (a0 := a0) ha0 ka0  ) (cwV 0 B.1.2.2.2.2 gX12_bound_X12_refuse rfl rfl rfl (by decide +kernel) ⟨Nat.le_of_ble_eq_true rfl, Nat.le_of_ble_eq_true rfl⟩) ha0 ka0 (by decide) rfl rfl rfl (Nat.le_of_ble_eq_true rfl) dX12_bound_10 (fun r_25 q_24 w_26 => ?_)
    obtain ⟨hV_q_24, h2_q_24, h3_q_24⟩ := w_26
    have hF_q_24 : sx_fr h L (fun a => h.1 a = 12 ∨ h.1 a = 144 ∨ h.1 a = 245) q q_24 := hF.tr (h2_q_24.mono (fun a (z : h.1 a = 12) => (show h.1 a = 12 ∨ h.1 a = 144 ∨ h.1 a = 245 from by omega)))
    have hK_q_24 : sx_kf a0 [0, 36, 37, 38, 39] q q_24 := hK.tr (h3_q_24.mono (by decide))
    have mS_q_24 : mv_S m23 m26 m28 m29 q_24 := mv_S.eq (h2_q_24.G hm23 (show ¬ (h.1 m23 = 12) from by omega) (by rw [km23]; decide)) (h2_q_24.G hm26 (show ¬ (h.1 m26 = 12) from by omega) (by rw [km26]; decide)) (h2_q_24.G hm28 (show ¬ (h.1 m28 = 12) from by omega) (by rw [km28]; decide)) (h2_q_24.G hm29 (show ¬ (h.1 m29 = 12) from by omega) (by rw [km29]; decide)) mS
    exact hret _ _ _ _ dX12_bound_13 ⟨hV_q_24, hF_q_24, hK_q_24, mS_q_24⟩
theorem iq_X12_digit_X12 : ∀ w ∈ wsX120, w ∈ wsX12_digit := fun _ h => List.mem_cons_of_mem _ (List.mem_append_right _ h)
set_option maxHeartbeats 4000000 in
set_option maxRecDepth 100000 in
theorem k_X12_digit (l : Launch) (dC : Nat → ClassId) (dI : Nat → Nat → Nat) (h : Sh) (L : List Nat) (hN : sx_nd L) (q : Sg) (hV : sx_V h L q) {a0 : Nat} (ha0 : a0 ∈ L) (ka0 : h.1 a0 = 12) (n1 : Int32) (n2 : Int32) {m18 : Nat} (em18 : q.2.2.1 a0 18 = m18) {m19 : Nat} (em19 : q.2.2.1 a0 19 = m19) {m23 : Nat} (em23 : q.2.2.1 a0 23 = m23) {m25 : Nat} (em25 : q.2.2.1 a0 25 = m25) {m26 : Nat} (em26 : q.2.2.1 a0 26 = m26) {m27 : Nat} (em27 : q.2.2.1 a0 27 = m27) {m28 : Nat} (em28 : q.2.2.1 a0 28 = m28) {m29 : Nat} (em29 : q.2.2.1 a0 29 = m29) {m30 : Nat} (em30 : q.2.2.1 a0 30 = m30) {m34 : Nat} (em34 : q.2.2.1 a0 34 = m34) {m35 : Nat} (em35 : q.2.2.1 a0 35 = m35) (mS : mv_S m23 m26 m28 m29 q)   : CMi l dC dI h L yX12_digit wsX12_digit ({ frames := 3, cells := 0, slots := 0, locals := 79 } : Room) q [.ref a0, .int n1, .int n2] (fun r q' => sx_V h L q' ∧ sx_fr h L (fun a => h.1 a = 12 ∨ h.1 a = 144 ∨ h.1 a = 245) q q' ∧ sx_kf a0 [0, 36, 37, 38, 39] q q' ∧ mv_S m23 m26 m28 m29 q') := by
  refine cm_i (cc := cX12_digit) (mL := 3) (own := RX12) hN (by decide) rfl rfl (Nat.le_of_ble_eq_true rfl) (fun Z B hret => ?_)
  have hF : sx_fr h L (fun a => h.1 a = 12 ∨ h.1 a = 144 ∨ h.1 a = 245) q q := sx_fr.rf
  have hK : sx_kf a0 [0, 36, 37, 38, 39] q q := sx_kf.rf
  obtain ⟨hm18, km18, lm18⟩ : m18 ∈ L ∧ h.1 m18 = 128 ∧ h.2.1 m18 = 6 := by obtain ⟨r9, e9, z1, z2, z3⟩ := hV.refn (t := 128) (n := 6) ha0 ka0 18 rfl (by decide) rfl (by decide); rw [← em18, e9]; exact ⟨z1, z2, z3⟩
  obtain ⟨hm19, km19, lm19⟩ : m19 ∈ L ∧ h.1 m19 = 129 ∧ h.2.1 m19 = 30 := by obtain ⟨r9, e9, z1, z2, z3⟩ := hV.refn (t := 129) (n := 30) ha0 ka0 19 rfl (by decide) rfl (by decide); rw [← em19, e9]; exact ⟨z1, z2, z3⟩
  obtain ⟨hm23, km23, lm23⟩ : m23 ∈ L ∧ h.1 m23 = 133 ∧ h.2.1 m23 = 9 := by obtain ⟨r9, e9, z1, z2, z3⟩ := hV.refn (t := 133) (n := 9) ha0 ka0 23 rfl (by decide) rfl (by decide); rw [← em23, e9]; exact ⟨z1, z2, z3⟩
  obtain ⟨hm25, km25, lm25⟩ : m25 ∈ L ∧ h.1 m25 = 135 ∧ h.2.1 m25 = 108 := by obtain ⟨r9, e9, z1, z2, z3⟩ := hV.refn (t := 135) (n := 108) ha0 ka0 25 rfl (by decide) rfl (by decide); rw [← em25, e9]; exact ⟨z1, z2, z3⟩
  obtain ⟨hm26, km26, lm26⟩ : m26 ∈ L ∧ h.1 m26 = 136 ∧ h.2.1 m26 = 108 := by obtain ⟨r9, e9, z1, z2, z3⟩ := hV.refn (t := 136) (n := 108) ha0 ka0 26 rfl (by decide) rfl (by decide); rw [← em26, e9]; exact ⟨z1, z2, z3⟩
  obtain ⟨hm27, km27, lm27⟩ : m27 ∈ L ∧ h.1 m27 = 137 ∧ h.2.1 m27 = 9 := by obtain ⟨r9, e9, z1, z2, z3⟩ := hV.refn (t := 137) (n := 9) ha0 ka0 27 rfl (by decide) rfl (by decide); rw [← em27, e9]; exact ⟨z1, z2, z3⟩
  obtain ⟨hm28, km28, lm28⟩ : m28 ∈ L ∧ h.1 m28 = 138 ∧ h.2.1 m28 = 540 := by obtain ⟨r9, e9, z1, z2, z3⟩ := hV.refn (t := 138) (n := 540) ha0 ka0 28 rfl (by decide) rfl (by decide); rw [← em28, e9]; exact ⟨z1, z2, z3⟩
  obtain ⟨hm29, km29, lm29⟩ : m29 ∈ L ∧ h.1 m29 = 139 ∧ h.2.1 m29 = 540 := by obtain ⟨r9, e9, z1, z2, z3⟩ := hV.refn (t := 139) (n := 540) ha0 ka0 29 rfl (by decide) rfl (by decide); rw [← em29, e9]; exact ⟨z1, z2, z3⟩
  obtain ⟨hm30, km30, lm30⟩ : m30 ∈ L ∧ h.1 m30 = 140 ∧ h.2.1 m30 = 540 := by obtain ⟨r9, e9, z1, z2, z3⟩ := hV.refn (t := 140) (n := 540) ha0 ka0 30 rfl (by decide) rfl (by decide); rw [← em30, e9]; exact ⟨z1, z2, z3⟩
  obtain ⟨hm34, km34, lm34⟩ : m34 ∈ L ∧ h.1 m34 = 144 ∧ h.2.1 m34 = 4 := by obtain ⟨r9, e9, z1, z2, z3⟩ := hV.refn (t := 144) (n := 4) ha0 ka0 34 rfl (by decide) rfl (by decide); rw [← em34, e9]; exact ⟨z1, z2, z3⟩
  obtain ⟨hm35, km35, lm35⟩ : m35 ∈ L ∧ h.1 m35 = 245 ∧ h.2.1 m35 = 12 := by obtain ⟨r9, e9, z1, z2, z3⟩ := hV.refn (t := 245) (n := 12) ha0 ka0 35 rfl (by decide) rfl (by decide); rw [← em35, e9]; exact ⟨z1, z2, z3⟩
  show WA l dC dI h L ({ frames := 3, cells := 0, slots := 0, locals := 79 } : Room) 3 Z q 0 [(0, .ref a0), (1, .int n1), (2, .int n2)] []
  refine wa_aload_n B dX12_digit_0 rfl 0 rfl ?_
  refine wa_iload_n B dX12_digit_1 rfl 1 rfl ?_
  refine wa_callVi B (x := (RX12, TX12, 51)) (As := [.int n1]) (rest := []) (k_X12_isTablet l dC dI h L hN q hV (a0 := a0) ha0 ka0 n1  ) (cwV 1 B.1.2.2.2.2 gX12_digit_X12_isTablet rfl rfl rfl (by decide +kernel) ⟨Nat.le_of_ble_eq_true rfl, Nat.le_of_ble_eq_true rfl⟩) ha0 ka0 (by decide) rfl rfl rfl (Nat.le_of_ble_eq_true rfl) dX12_digit_2 (fun r_2 q_1 w_3 => ?_)
  obtain ⟨ew_3, hw_3⟩ := w_3
  subst ew_3
  refine wa_if_eq B 22 dX12_digit_5 (by decide) (fun (t_4 : r_2.toInt = 0) => ?_) (fun (t_4 : ¬ r_2.toInt = 0) => ?_)
  · refine wa_aload_n B dX12_digit_22 rfl 0 rfl ?_
    refine wa_callVi B (x := (RX12, TX12, 51)) (As := []) (rest := []) (k_X12_refuse l dC dI h L hN q hV (a0 := a0) ha0 ka0  ) (cwV 0 B.1.2.2.2.2 gX12_digit_X12_refuse rfl rfl rfl (by decide +kernel) ⟨Nat.le_of_ble_eq_true rfl, Nat.le_of_ble_eq_true rfl⟩) ha0 ka0 (by decide) rfl rfl rfl (Nat.le_of_ble_eq_true rfl) dX12_digit_23 (fun r_6 q_5 w_7 => ?_)
    obtain ⟨hV_q_5, h2_q_5, h3_q_5⟩ := w_7
    have hF_q_5 : sx_fr h L (fun a => h.1 a = 12 ∨ h.1 a = 144 ∨ h.1 a = 245) q q_5 := hF.tr (h2_q_5.mono (fun a (z : h.1 a = 12) => (show h.1 a = 12 ∨ h.1 a = 144 ∨ h.1 a = 245 from by omega)))
    have hK_q_5 : sx_kf a0 [0, 36, 37, 38, 39] q q_5 := hK.tr (h3_q_5.mono (by decide))
    have mS_q_5 : mv_S m23 m26 m28 m29 q_5 := mv_S.eq (h2_q_5.G hm23 (show ¬ (h.1 m23 = 12) from by omega) (by rw [km23]; decide)) (h2_q_5.G hm26 (show ¬ (h.1 m26 = 12) from by omega) (by rw [km26]; decide)) (h2_q_5.G hm28 (show ¬ (h.1 m28 = 12) from by omega) (by rw [km28]; decide)) (h2_q_5.G hm29 (show ¬ (h.1 m29 = 12) from by omega) (by rw [km29]; decide)) mS
    exact hret _ _ _ _ dX12_digit_26 ⟨hV_q_5, hF_q_5, hK_q_5, mS_q_5⟩
  · refine wa_iload_n B dX12_digit_8 rfl 2 rfl ?_
    refine wa_if_lt B 22 dX12_digit_9 (by decide) (fun (t_8 : n2.toInt < 0) => ?_) (fun (t_8 : ¬ n2.toInt < 0) => ?_)
    · refine wa_aload_n B dX12_digit_22 rfl 0 rfl ?_
      refine wa_callVi B (x := (RX12, TX12, 51)) (As := []) (rest := []) (k_X12_refuse l dC dI h L hN q hV (a0 := a0) ha0 ka0  ) (cwV 0 B.1.2.2.2.2 gX12_digit_X12_refuse rfl rfl rfl (by decide +kernel) ⟨Nat.le_of_ble_eq_true rfl, Nat.le_of_ble_eq_true rfl⟩) ha0 ka0 (by decide) rfl rfl rfl (Nat.le_of_ble_eq_true rfl) dX12_digit_23 (fun r_10 q_9 w_11 => ?_)
      obtain ⟨hV_q_9, h2_q_9, h3_q_9⟩ := w_11
      have hF_q_9 : sx_fr h L (fun a => h.1 a = 12 ∨ h.1 a = 144 ∨ h.1 a = 245) q q_9 := hF.tr (h2_q_9.mono (fun a (z : h.1 a = 12) => (show h.1 a = 12 ∨ h.1 a = 144 ∨ h.1 a = 245 from by omega)))
      have hK_q_9 : sx_kf a0 [0, 36, 37, 38, 39] q q_9 := hK.tr (h3_q_9.mono (by decide))
      have mS_q_9 : mv_S m23 m26 m28 m29 q_9 := mv_S.eq (h2_q_9.G hm23 (show ¬ (h.1 m23 = 12) from by omega) (by rw [km23]; decide)) (h2_q_9.G hm26 (show ¬ (h.1 m26 = 12) from by omega) (by rw [km26]; decide)) (h2_q_9.G hm28 (show ¬ (h.1 m28 = 12) from by omega) (by rw [km28]; decide)) (h2_q_9.G hm29 (show ¬ (h.1 m29 = 12) from by omega) (by rw [km29]; decide)) mS
      exact hret _ _ _ _ dX12_digit_26 ⟨hV_q_9, hF_q_9, hK_q_9, mS_q_9⟩
    · refine wa_iload_n B dX12_digit_12 rfl 2 rfl ?_
      refine wa_aload_n B dX12_digit_13 rfl 0 rfl ?_
      refine wa_getR B (C := RX12) (T := TX12) (N := 51) iq_X12_digit_X12 ha0 ka0 (by decide) rfl 27 (by decide) (by decide) (by decide +kernel) rfl (fun _ _ _ => rfl) (v := m27) em27 dX12_digit_14 ?_
      refine wa_iload_n B dX12_digit_17 rfl 1 rfl ?_
      refine wa_iaload B hm27 km27 (by decide) (by decide) (show 0 ≤ n1.toInt by omega) (show n1.toInt < (h.2.1 m27 : Int) by omega) (v := (q.2.2.2.1 m27 (n1 : Int32).toNatClampNeg)) rfl dX12_digit_18 ?_
      have g_12 : (0 : Int) ≤ ((q.2.2.2.1 m27 (n1 : Int32).toNatClampNeg)).toInt ∧ ((q.2.2.2.1 m27 (n1 : Int32).toNatClampNeg)).toInt ≤ 4 := hV.cnt hm27 km27 _
      refine wa_icmp_lt B 27 dX12_digit_19 (by decide) (fun (t_13 : n2.toInt < ((q.2.2.2.1 m27 (n1 : Int32).toNatClampNeg)).toInt) => ?_) (fun (t_13 : ¬ n2.toInt < ((q.2.2.2.1 m27 (n1 : Int32).toNatClampNeg)).toInt) => ?_)
      · refine wa_aload_n B dX12_digit_27 rfl 0 rfl ?_
        refine wa_iconst B 0 dX12_digit_28 (by decide) ?_
        refine wa_putI B (C := RX12) (T := TX12) (N := 51) iq_X12_digit_X12 ha0 ka0 (by decide) rfl 0 (by decide) (by decide) (by decide +kernel) rfl (by decide) (v := 0) (ty := .int) tyX12 tyX12_ok nmX12 rfl (by decide +kernel) rfl rfl dX12_digit_29 (fun q_14 eq_14 => ?_)
        have hV_q_14 : sx_V h L q_14 := by rw [eq_14]; exact hV.pI ka0 trivial
        have hF_q_14 : sx_fr h L (fun a => h.1 a = 12 ∨ h.1 a = 144 ∨ h.1 a = 245) q q_14 := hF.tr (by rw [eq_14]; exact sx_fr.pI (show h.1 a0 = 12 ∨ h.1 a0 = 144 ∨ h.1 a0 = 245 from by omega))
        have z_15 : q_14.1 a0 0 = 0 := by rw [eq_14]; exact sg_pI_e
        have hK_q_14 : sx_kf a0 [0, 36, 37, 38, 39] q q_14 := hK.tr (by rw [eq_14]; exact sx_kf.pI (by decide))
        have mS_q_14 : mv_S m23 m26 m28 m29 q_14 := mv_S.eq ((show q_14.2.2.2.1 m23 = q.2.2.2.1 m23 from by rw [eq_14]; rfl)) ((show q_14.2.2.2.1 m26 = q.2.2.2.1 m26 from by rw [eq_14]; rfl)) ((show q_14.2.2.2.1 m28 = q.2.2.2.1 m28 from by rw [eq_14]; rfl)) ((show q_14.2.2.2.1 m29 = q.2.2.2.1 m29 from by rw [eq_14]; rfl)) mS
        refine wa_aload_n B dX12_digit_32 rfl 0 rfl ?_
        refine wa_iload_n B dX12_digit_33 rfl 1 rfl ?_
        refine wa_iconst B (-1) dX12_digit_34 (by decide) ?_
        refine wa_iload_n B dX12_digit_35 rfl 2 rfl ?_
        have z_16 : q_14.2.2.1 a0 18 = m18 := ((show q_14.2.2.1 a0 18 = q.2.2.1 a0 18 from by rw [eq_14]; rfl)).trans (em18)
        have z_17 : q_14.2.2.1 a0 19 = m19 := ((show q_14.2.2.1 a0 19 = q.2.2.1 a0 19 from by rw [eq_14]; rfl)).trans (em19)
        have z_18 : q_14.2.2.1 a0 23 = m23 := ((show q_14.2.2.1 a0 23 = q.2.2.1 a0 23 from by rw [eq_14]; rfl)).trans (em23)
        have z_19 : q_14.2.2.1 a0 25 = m25 := ((show q_14.2.2.1 a0 25 = q.2.2.1 a0 25 from by rw [eq_14]; rfl)).trans (em25)
        have z_20 : q_14.2.2.1 a0 26 = m26 := ((show q_14.2.2.1 a0 26 = q.2.2.1 a0 26 from by rw [eq_14]; rfl)).trans (em26)
        have z_21 : q_14.2.2.1 a0 27 = m27 := ((show q_14.2.2.1 a0 27 = q.2.2.1 a0 27 from by rw [eq_14]; rfl)).trans (em27)
        have z_22 : q_14.2.2.1 a0 28 = m28 := ((show q_14.2.2.1 a0 28 = q.2.2.1 a0 28 from by rw [eq_14]; rfl)).trans (em28)
        have z_23 : q_14.2.2.1 a0 29 = m29 := ((show q_14.2.2.1 a0 29 = q.2.2.1 a0 29 from by rw [eq_14]; rfl)).trans (em29)
        have z_24 : q_14.2.2.1 a0 30 = m30 := ((show q_14.2.2.1 a0 30 = q.2.2.1 a0 30 from by rw [eq_14]; rfl)).trans (em30)
        have z_25 : q_14.2.2.1 a0 34 = m34 := ((show q_14.2.2.1 a0 34 = q.2.2.1 a0 34 from by rw [eq_14]; rfl)).trans (em34)
        have z_26 : q_14.2.2.1 a0 35 = m35 := ((show q_14.2.2.1 a0 35 = q.2.2.1 a0 35 from by rw [eq_14]; rfl)).trans (em35)
        refine wa_callVv B (x := (RX12, TX12, 51)) (As := [.int n1, .int (-1), .int n2]) (rest := []) (k_X12_readAll l dC dI h L hN q_14 hV_q_14 (a0 := a0) ha0 ka0 n1 (-1) n2 (m18 := m18) z_16 (m19 := m19) z_17 (m23 := m23) z_18 (m25 := m25) z_19 (m26 := m26) z_20 (m27 := m27) z_21 (m28 := m28) z_22 (m29 := m29) z_23 (m30 := m30) z_24 (m34 := m34) z_25 (m35 := m35) z_26 mS_q_14 (by first | assumption | omega | decide) (by first | assumption | omega | decide) (by first | assumption | omega | decide) (by first | assumption | omega | decide) (by first | assumption | omega | decide) (by first | assumption | omega | decide)) (cwV 3 B.1.2.2.2.2 gX12_digit_X12_readAll rfl rfl rfl (by decide +kernel) ⟨Nat.le_of_ble_eq_true rfl, Nat.le_of_ble_eq_true rfl⟩) ha0 ka0 (by decide) rfl rfl rfl (Nat.le_of_ble_eq_true rfl) dX12_digit_36 (fun q_27 w_28 => ?_)
        obtain ⟨hV_q_27, h2_q_27, h3_q_27, mS_q_27⟩ := w_28
        have hF_q_27 : sx_fr h L (fun a => h.1 a = 12 ∨ h.1 a = 144 ∨ h.1 a = 245) q q_27 := hF_q_14.tr (h2_q_27.mono (fun a (z : h.1 a = 12 ∨ h.1 a = 144 ∨ h.1 a = 245) => (show h.1 a = 12 ∨ h.1 a = 144 ∨ h.1 a = 245 from by omega)))
        have hK_q_27 : sx_kf a0 [0, 36, 37, 38, 39] q q_27 := hK_q_14.tr (h3_q_27.mono (by decide))
        refine wa_aload_n B dX12_digit_39 rfl 0 rfl ?_
        refine wa_getI B (C := RX12) (T := TX12) (N := 51) iq_X12_digit_X12 ha0 ka0 (by decide) rfl 36 (by decide) (by decide) (by decide +kernel) rfl (by decide) (v := (q_27.1 a0 36)) rfl dX12_digit_40 ?_
        refine wa_if_eq B 55 dX12_digit_43 (by decide) (fun (t_29 : (q_27.1 a0 36).toInt = 0) => ?_) (fun (t_29 : ¬ (q_27.1 a0 36).toInt = 0) => ?_)
        · refine wa_iconst B (-1) dX12_digit_55 (by decide) ?_
          refine wa_goto B 63 dX12_digit_56 (by decide) ?_
          exact hret _ _ _ _ dX12_digit_63 ⟨hV_q_27, hF_q_27, hK_q_27, mS_q_27⟩
        · refine wa_aload_n B dX12_digit_46 rfl 0 rfl ?_
          refine wa_getI B (C := RX12) (T := TX12) (N := 51) iq_X12_digit_X12 ha0 ka0 (by decide) rfl 37 (by decide) (by decide) (by decide +kernel) rfl (by decide) (v := (q_27.1 a0 37)) rfl dX12_digit_47 ?_
          refine wa_bipush B 10 dX12_digit_50 (by decide) ?_
          refine wa_icmp_ne B 59 dX12_digit_52 (by decide) (fun (t_30 : ¬ (q_27.1 a0 37).toInt = 10) => ?_) (fun (t_30 : (q_27.1 a0 37).toInt = 10) => ?_)
          · refine wa_aload_n B dX12_digit_59 rfl 0 rfl ?_
            refine wa_getI B (C := RX12) (T := TX12) (N := 51) iq_X12_digit_X12 ha0 ka0 (by decide) rfl 37 (by decide) (by decide) (by decide +kernel) rfl (by decide) (v := (q_27.1 a0 37)) rfl dX12_digit_60 ?_
            exact hret _ _ _ _ dX12_digit_63 ⟨hV_q_27, hF_q_27, hK_q_27, mS_q_27⟩
          · refine wa_iconst B (-1) dX12_digit_55 (by decide) ?_
            refine wa_goto B 63 dX12_digit_56 (by decide) ?_
            exact hret _ _ _ _ dX12_digit_63 ⟨hV_q_27, hF_q_27, hK_q_27, mS_q_27⟩
      · refine wa_aload_n B dX12_digit_22 rfl 0 rfl ?_
        refine wa_callVi B (x := (RX12, TX12, 51)) (As := []) (rest := []) (k_X12_refuse l dC dI h L hN q hV (a0 := a0) ha0 ka0  ) (cwV 0 B.1.2.2.2.2 gX12_digit_X12_refuse rfl rfl rfl (by decide +kernel) ⟨Nat.le_of_ble_eq_true rfl, Nat.le_of_ble_eq_true rfl⟩) ha0 ka0 (by decide) rfl rfl rfl (Nat.le_of_ble_eq_true rfl) dX12_digit_23 (fun r_32 q_31 w_33 => ?_)
        obtain ⟨hV_q_31, h2_q_31, h3_q_31⟩ := w_33
        have hF_q_31 : sx_fr h L (fun a => h.1 a = 12 ∨ h.1 a = 144 ∨ h.1 a = 245) q q_31 := hF.tr (h2_q_31.mono (fun a (z : h.1 a = 12) => (show h.1 a = 12 ∨ h.1 a = 144 ∨ h.1 a = 245 from by omega)))
        have hK_q_31 : sx_kf a0 [0, 36, 37, 38, 39] q q_31 := hK.tr (h3_q_31.mono (by decide))
        have mS_q_31 : mv_S m23 m26 m28 m29 q_31 := mv_S.eq (h2_q_31.G hm23 (show ¬ (h.1 m23 = 12) from by omega) (by rw [km23]; decide)) (h2_q_31.G hm26 (show ¬ (h.1 m26 = 12) from by omega) (by rw [km26]; decide)) (h2_q_31.G hm28 (show ¬ (h.1 m28 = 12) from by omega) (by rw [km28]; decide)) (h2_q_31.G hm29 (show ¬ (h.1 m29 = 12) from by omega) (by rw [km29]; decide)) mS
        exact hret _ _ _ _ dX12_digit_26 ⟨hV_q_31, hF_q_31, hK_q_31, mS_q_31⟩
theorem iq_X12_wrong_X12 : ∀ w ∈ wsX120, w ∈ wsX12_wrong := fun _ h => List.mem_cons_of_mem _ (List.mem_append_right _ h)
set_option maxHeartbeats 4000000 in
set_option maxRecDepth 100000 in
theorem k_X12_wrong (l : Launch) (dC : Nat → ClassId) (dI : Nat → Nat → Nat) (h : Sh) (L : List Nat) (hN : sx_nd L) (q : Sg) (hV : sx_V h L q) {a0 : Nat} (ha0 : a0 ∈ L) (ka0 : h.1 a0 = 12) (n1 : Int32) {m18 : Nat} (em18 : q.2.2.1 a0 18 = m18) {m19 : Nat} (em19 : q.2.2.1 a0 19 = m19) {m23 : Nat} (em23 : q.2.2.1 a0 23 = m23) {m25 : Nat} (em25 : q.2.2.1 a0 25 = m25) {m26 : Nat} (em26 : q.2.2.1 a0 26 = m26) {m27 : Nat} (em27 : q.2.2.1 a0 27 = m27) {m28 : Nat} (em28 : q.2.2.1 a0 28 = m28) {m29 : Nat} (em29 : q.2.2.1 a0 29 = m29) {m30 : Nat} (em30 : q.2.2.1 a0 30 = m30) {m34 : Nat} (em34 : q.2.2.1 a0 34 = m34) {m35 : Nat} (em35 : q.2.2.1 a0 35 = m35) (mS : mv_S m23 m26 m28 m29 q)   : CMi l dC dI h L yX12_wrong wsX12_wrong ({ frames := 2, cells := 0, slots := 0, locals := 55 } : Room) q [.ref a0, .int n1] (fun r q' => sx_V h L q' ∧ sx_fr h L (fun a => h.1 a = 12 ∨ h.1 a = 144 ∨ h.1 a = 245) q q' ∧ sx_kf a0 [0] q q' ∧ mv_S m23 m26 m28 m29 q') := by
  refine cm_i (cc := cX12_wrong) (mL := 5) (own := RX12) hN (by decide) rfl rfl (Nat.le_of_ble_eq_true rfl) (fun Z B hret => ?_)
  have hF : sx_fr h L (fun a => h.1 a = 12 ∨ h.1 a = 144 ∨ h.1 a = 245) q q := sx_fr.rf
  have hK : sx_kf a0 [0] q q := sx_kf.rf
  obtain ⟨hm18, km18, lm18⟩ : m18 ∈ L ∧ h.1 m18 = 128 ∧ h.2.1 m18 = 6 := by obtain ⟨r9, e9, z1, z2, z3⟩ := hV.refn (t := 128) (n := 6) ha0 ka0 18 rfl (by decide) rfl (by decide); rw [← em18, e9]; exact ⟨z1, z2, z3⟩
  obtain ⟨hm19, km19, lm19⟩ : m19 ∈ L ∧ h.1 m19 = 129 ∧ h.2.1 m19 = 30 := by obtain ⟨r9, e9, z1, z2, z3⟩ := hV.refn (t := 129) (n := 30) ha0 ka0 19 rfl (by decide) rfl (by decide); rw [← em19, e9]; exact ⟨z1, z2, z3⟩
  obtain ⟨hm23, km23, lm23⟩ : m23 ∈ L ∧ h.1 m23 = 133 ∧ h.2.1 m23 = 9 := by obtain ⟨r9, e9, z1, z2, z3⟩ := hV.refn (t := 133) (n := 9) ha0 ka0 23 rfl (by decide) rfl (by decide); rw [← em23, e9]; exact ⟨z1, z2, z3⟩
  obtain ⟨hm25, km25, lm25⟩ : m25 ∈ L ∧ h.1 m25 = 135 ∧ h.2.1 m25 = 108 := by obtain ⟨r9, e9, z1, z2, z3⟩ := hV.refn (t := 135) (n := 108) ha0 ka0 25 rfl (by decide) rfl (by decide); rw [← em25, e9]; exact ⟨z1, z2, z3⟩
  obtain ⟨hm26, km26, lm26⟩ : m26 ∈ L ∧ h.1 m26 = 136 ∧ h.2.1 m26 = 108 := by obtain ⟨r9, e9, z1, z2, z3⟩ := hV.refn (t := 136) (n := 108) ha0 ka0 26 rfl (by decide) rfl (by decide); rw [← em26, e9]; exact ⟨z1, z2, z3⟩
  obtain ⟨hm27, km27, lm27⟩ : m27 ∈ L ∧ h.1 m27 = 137 ∧ h.2.1 m27 = 9 := by obtain ⟨r9, e9, z1, z2, z3⟩ := hV.refn (t := 137) (n := 9) ha0 ka0 27 rfl (by decide) rfl (by decide); rw [← em27, e9]; exact ⟨z1, z2, z3⟩
  obtain ⟨hm28, km28, lm28⟩ : m28 ∈ L ∧ h.1 m28 = 138 ∧ h.2.1 m28 = 540 := by obtain ⟨r9, e9, z1, z2, z3⟩ := hV.refn (t := 138) (n := 540) ha0 ka0 28 rfl (by decide) rfl (by decide); rw [← em28, e9]; exact ⟨z1, z2, z3⟩
  obtain ⟨hm29, km29, lm29⟩ : m29 ∈ L ∧ h.1 m29 = 139 ∧ h.2.1 m29 = 540 := by obtain ⟨r9, e9, z1, z2, z3⟩ := hV.refn (t := 139) (n := 540) ha0 ka0 29 rfl (by decide) rfl (by decide); rw [← em29, e9]; exact ⟨z1, z2, z3⟩
  obtain ⟨hm30, km30, lm30⟩ : m30 ∈ L ∧ h.1 m30 = 140 ∧ h.2.1 m30 = 540 := by obtain ⟨r9, e9, z1, z2, z3⟩ := hV.refn (t := 140) (n := 540) ha0 ka0 30 rfl (by decide) rfl (by decide); rw [← em30, e9]; exact ⟨z1, z2, z3⟩
  obtain ⟨hm34, km34, lm34⟩ : m34 ∈ L ∧ h.1 m34 = 144 ∧ h.2.1 m34 = 4 := by obtain ⟨r9, e9, z1, z2, z3⟩ := hV.refn (t := 144) (n := 4) ha0 ka0 34 rfl (by decide) rfl (by decide); rw [← em34, e9]; exact ⟨z1, z2, z3⟩
  obtain ⟨hm35, km35, lm35⟩ : m35 ∈ L ∧ h.1 m35 = 245 ∧ h.2.1 m35 = 12 := by obtain ⟨r9, e9, z1, z2, z3⟩ := hV.refn (t := 245) (n := 12) ha0 ka0 35 rfl (by decide) rfl (by decide); rw [← em35, e9]; exact ⟨z1, z2, z3⟩
  show WA l dC dI h L ({ frames := 2, cells := 0, slots := 0, locals := 55 } : Room) 5 Z q 0 [(0, .ref a0), (1, .int n1)] []
  refine wa_aload_n B dX12_wrong_0 rfl 0 rfl ?_
  refine wa_iconst B 0 dX12_wrong_1 (by decide) ?_
  refine wa_putI B (C := RX12) (T := TX12) (N := 51) iq_X12_wrong_X12 ha0 ka0 (by decide) rfl 0 (by decide) (by decide) (by decide +kernel) rfl (by decide) (v := 0) (ty := .int) tyX12 tyX12_ok nmX12 rfl (by decide +kernel) rfl rfl dX12_wrong_2 (fun q_1 eq_1 => ?_)
  have hV_q_1 : sx_V h L q_1 := by rw [eq_1]; exact hV.pI ka0 trivial
  have hF_q_1 : sx_fr h L (fun a => h.1 a = 12 ∨ h.1 a = 144 ∨ h.1 a = 245) q q_1 := hF.tr (by rw [eq_1]; exact sx_fr.pI (show h.1 a0 = 12 ∨ h.1 a0 = 144 ∨ h.1 a0 = 245 from by omega))
  have z_2 : q_1.1 a0 0 = 0 := by rw [eq_1]; exact sg_pI_e
  have hK_q_1 : sx_kf a0 [0] q q_1 := hK.tr (by rw [eq_1]; exact sx_kf.pI (by decide))
  have mS_q_1 : mv_S m23 m26 m28 m29 q_1 := mv_S.eq ((show q_1.2.2.2.1 m23 = q.2.2.2.1 m23 from by rw [eq_1]; rfl)) ((show q_1.2.2.2.1 m26 = q.2.2.2.1 m26 from by rw [eq_1]; rfl)) ((show q_1.2.2.2.1 m28 = q.2.2.2.1 m28 from by rw [eq_1]; rfl)) ((show q_1.2.2.2.1 m29 = q.2.2.2.1 m29 from by rw [eq_1]; rfl)) mS
  refine wa_aload_n B dX12_wrong_5 rfl 0 rfl ?_
  refine wa_iload_n B dX12_wrong_6 rfl 1 rfl ?_
  refine wa_callVi B (x := (RX12, TX12, 51)) (As := [.int n1]) (rest := []) (k_X12_isTablet l dC dI h L hN q_1 hV_q_1 (a0 := a0) ha0 ka0 n1  ) (cwV 1 B.1.2.2.2.2 gX12_wrong_X12_isTablet rfl rfl rfl (by decide +kernel) ⟨Nat.le_of_ble_eq_true rfl, Nat.le_of_ble_eq_true rfl⟩) ha0 ka0 (by decide) rfl rfl rfl (Nat.le_of_ble_eq_true rfl) dX12_wrong_7 (fun r_4 q_3 w_5 => ?_)
  obtain ⟨ew_5, hw_5⟩ := w_5
  subst ew_5
  refine wa_if_ne B 15 dX12_wrong_10 (by decide) (fun (t_6 : ¬ r_4.toInt = 0) => ?_) (fun (t_6 : r_4.toInt = 0) => ?_)
  · refine wa_bipush B 12 dX12_wrong_15 (by decide) ?_
    refine wa_istore_n B [(2, .int 12), (0, .ref a0), (1, .int n1)] dX12_wrong_17 rfl (by decide) rfl ?_
    refine wa_iconst B 0 dX12_wrong_18 (by decide) ?_
    refine wa_istore_n B [(3, .int 0), (2, .int 12), (0, .ref a0), (1, .int n1)] dX12_wrong_19 rfl (by decide) rfl ?_
    have z_10 : q_1.2.2.1 a0 18 = m18 := ((show q_1.2.2.1 a0 18 = q.2.2.1 a0 18 from by rw [eq_1]; rfl)).trans (em18)
    have z_11 : q_1.2.2.1 a0 19 = m19 := ((show q_1.2.2.1 a0 19 = q.2.2.1 a0 19 from by rw [eq_1]; rfl)).trans (em19)
    have z_12 : q_1.2.2.1 a0 23 = m23 := ((show q_1.2.2.1 a0 23 = q.2.2.1 a0 23 from by rw [eq_1]; rfl)).trans (em23)
    have z_13 : q_1.2.2.1 a0 25 = m25 := ((show q_1.2.2.1 a0 25 = q.2.2.1 a0 25 from by rw [eq_1]; rfl)).trans (em25)
    have z_14 : q_1.2.2.1 a0 26 = m26 := ((show q_1.2.2.1 a0 26 = q.2.2.1 a0 26 from by rw [eq_1]; rfl)).trans (em26)
    have z_15 : q_1.2.2.1 a0 27 = m27 := ((show q_1.2.2.1 a0 27 = q.2.2.1 a0 27 from by rw [eq_1]; rfl)).trans (em27)
    have z_16 : q_1.2.2.1 a0 28 = m28 := ((show q_1.2.2.1 a0 28 = q.2.2.1 a0 28 from by rw [eq_1]; rfl)).trans (em28)
    have z_17 : q_1.2.2.1 a0 29 = m29 := ((show q_1.2.2.1 a0 29 = q.2.2.1 a0 29 from by rw [eq_1]; rfl)).trans (em29)
    have z_18 : q_1.2.2.1 a0 30 = m30 := ((show q_1.2.2.1 a0 30 = q.2.2.1 a0 30 from by rw [eq_1]; rfl)).trans (em30)
    have z_19 : q_1.2.2.1 a0 34 = m34 := ((show q_1.2.2.1 a0 34 = q.2.2.1 a0 34 from by rw [eq_1]; rfl)).trans (em34)
    have z_20 : q_1.2.2.1 a0 35 = m35 := ((show q_1.2.2.1 a0 35 = q.2.2.1 a0 35 from by rw [eq_1]; rfl)).trans (em35)
    have z_21 : q_1.2.2.2.1 m18 = q.2.2.2.1 m18 := (show q_1.2.2.2.1 m18 = q.2.2.2.1 m18 from by rw [eq_1]; rfl)
    have z_22 : q_1.2.2.2.1 m19 = q.2.2.2.1 m19 := (show q_1.2.2.2.1 m19 = q.2.2.2.1 m19 from by rw [eq_1]; rfl)
    have z_23 : q_1.2.2.2.1 m23 = q.2.2.2.1 m23 := (show q_1.2.2.2.1 m23 = q.2.2.2.1 m23 from by rw [eq_1]; rfl)
    have z_24 : q_1.2.2.2.1 m25 = q.2.2.2.1 m25 := (show q_1.2.2.2.1 m25 = q.2.2.2.1 m25 from by rw [eq_1]; rfl)
    have z_25 : q_1.2.2.2.1 m26 = q.2.2.2.1 m26 := (show q_1.2.2.2.1 m26 = q.2.2.2.1 m26 from by rw [eq_1]; rfl)
    have z_26 : q_1.2.2.2.1 m27 = q.2.2.2.1 m27 := (show q_1.2.2.2.1 m27 = q.2.2.2.1 m27 from by rw [eq_1]; rfl)
    have z_27 : q_1.2.2.2.1 m28 = q.2.2.2.1 m28 := (show q_1.2.2.2.1 m28 = q.2.2.2.1 m28 from by rw [eq_1]; rfl)
    have z_28 : q_1.2.2.2.1 m29 = q.2.2.2.1 m29 := (show q_1.2.2.2.1 m29 = q.2.2.2.1 m29 from by rw [eq_1]; rfl)
    have z_29 : q_1.2.2.2.1 m30 = q.2.2.2.1 m30 := (show q_1.2.2.2.1 m30 = q.2.2.2.1 m30 from by rw [eq_1]; rfl)
    have z_30 : q_1.2.2.2.1 m34 = q.2.2.2.1 m34 := (show q_1.2.2.2.1 m34 = q.2.2.2.1 m34 from by rw [eq_1]; rfl)
    have z_31 : q_1.2.2.2.2 m35 = q.2.2.2.2 m35 := (show q_1.2.2.2.2 m35 = q.2.2.2.2 m35 from by rw [eq_1]; rfl)
    have Lp_20_33 : ∀ (n : Nat) (v_7 : Int32) (v_8 : Int32) (q_9 : Sg), sx_V h L q_9 → sx_fr h L (fun a => h.1 a = 12 ∨ h.1 a = 144 ∨ h.1 a = 245) q q_9 → sx_kf a0 [0] q q_9 → mv_S m23 m26 m28 m29 q_9 → q_9.1 a0 0 = 0 → q_9.2.2.1 a0 18 = m18 → q_9.2.2.1 a0 19 = m19 → q_9.2.2.1 a0 23 = m23 → q_9.2.2.1 a0 25 = m25 → q_9.2.2.1 a0 26 = m26 → q_9.2.2.1 a0 27 = m27 → q_9.2.2.1 a0 28 = m28 → q_9.2.2.1 a0 29 = m29 → q_9.2.2.1 a0 30 = m30 → q_9.2.2.1 a0 34 = m34 → q_9.2.2.1 a0 35 = m35 → q_9.2.2.2.1 m18 = (q.2.2.2.1 m18) → q_9.2.2.2.1 m19 = (q.2.2.2.1 m19) → q_9.2.2.2.1 m23 = (q.2.2.2.1 m23) → q_9.2.2.2.1 m25 = (q.2.2.2.1 m25) → q_9.2.2.2.1 m26 = (q.2.2.2.1 m26) → q_9.2.2.2.1 m27 = (q.2.2.2.1 m27) → q_9.2.2.2.1 m28 = (q.2.2.2.1 m28) → q_9.2.2.2.1 m29 = (q.2.2.2.1 m29) → q_9.2.2.2.1 m30 = (q.2.2.2.1 m30) → 0 ≤ v_7.toInt → (10001 - v_7.toInt : Int).toNat < n → WA l dC dI h L ({ frames := 2, cells := 0, slots := 0, locals := 55 } : Room) 5 Z q_9 20 [(3, .int v_7), (2, .int v_8), (0, .ref a0), (1, .int n1)] [] := by
      intro n
      induction n with
      | zero =>
        intro v_7 v_8 q_9 hV_q_9 hF_q_9 hK_q_9 mS_q_9 p0_q_9 p1_q_9 p2_q_9 p3_q_9 p4_q_9 p5_q_9 p6_q_9 p7_q_9 p8_q_9 p9_q_9 p10_q_9 p11_q_9 p12_q_9 p13_q_9 p14_q_9 p15_q_9 p16_q_9 p17_q_9 p18_q_9 p19_q_9 p20_q_9 x_32 hn
        exact absurd hn (Nat.not_lt_zero _)
      | succ n ih_34 =>
        intro v_7 v_8 q_9 hV_q_9 hF_q_9 hK_q_9 mS_q_9 p0_q_9 p1_q_9 p2_q_9 p3_q_9 p4_q_9 p5_q_9 p6_q_9 p7_q_9 p8_q_9 p9_q_9 p10_q_9 p11_q_9 p12_q_9 p13_q_9 p14_q_9 p15_q_9 p16_q_9 p17_q_9 p18_q_9 p19_q_9 p20_q_9 x_32 hn
        refine wa_iload_n B dX12_wrong_20 rfl 0 rfl ?_
        refine wa_aload_n B dX12_wrong_21 rfl 2 rfl ?_
        refine wa_iload_n B dX12_wrong_22 rfl 3 rfl ?_
        refine wa_callVi B (x := (RX12, TX12, 51)) (As := [.int n1]) (rest := [.int v_7]) (k_X12_ways l dC dI h L hN q_9 hV_q_9 (a0 := a0) ha0 ka0 n1  (by first | assumption | omega | decide) (by first | assumption | omega | decide)) (cwV 1 B.1.2.2.2.2 gX12_wrong_X12_ways rfl rfl rfl (by decide +kernel) ⟨Nat.le_of_ble_eq_true rfl, Nat.le_of_ble_eq_true rfl⟩) ha0 ka0 (by decide) rfl rfl rfl (Nat.le_of_ble_eq_true rfl) dX12_wrong_23 (fun r_36 q_35 w_37 => ?_)
        obtain ⟨ew_37, hw_37⟩ := w_37
        subst ew_37
        refine wa_icmp_ge B 63 dX12_wrong_26 (by decide) (fun (t_38 : r_36.toInt ≤ v_7.toInt) => ?_) (fun (t_38 : ¬ r_36.toInt ≤ v_7.toInt) => ?_)
        · refine wa_iload_n B dX12_wrong_63 rfl 1 rfl ?_
          exact hret _ _ _ _ dX12_wrong_64 ⟨hV_q_9, hF_q_9, hK_q_9, mS_q_9⟩
        · refine wa_aload_n B dX12_wrong_29 rfl 2 rfl ?_
          refine wa_iload_n B dX12_wrong_30 rfl 3 rfl ?_
          refine wa_iload_n B dX12_wrong_31 rfl 0 rfl ?_
          refine wa_callVi B (x := (RX12, TX12, 51)) (As := [.int n1, .int v_7]) (rest := []) (k_X12_fills l dC dI h L hN q_9 hV_q_9 (a0 := a0) ha0 ka0 n1 v_7 (m18 := m18) p1_q_9 (m19 := m19) p2_q_9 (m23 := m23) p3_q_9 (m25 := m25) p4_q_9 (m26 := m26) p5_q_9 (m27 := m27) p6_q_9 (m28 := m28) p7_q_9 (m29 := m29) p8_q_9 (m30 := m30) p9_q_9 (m34 := m34) p10_q_9 (m35 := m35) p11_q_9 mS_q_9 (by first | assumption | omega | decide) (by first | assumption | omega | decide)) (cwV 2 B.1.2.2.2.2 gX12_wrong_X12_fills rfl rfl rfl (by decide +kernel) ⟨Nat.le_of_ble_eq_true rfl, Nat.le_of_ble_eq_true rfl⟩) ha0 ka0 (by decide) rfl rfl rfl (Nat.le_of_ble_eq_true rfl) dX12_wrong_32 (fun r_40 q_39 w_41 => ?_)
          obtain ⟨hV_q_39, h2_q_39, mS_q_39, hw_41⟩ := w_41
          have hF_q_39 : sx_fr h L (fun a => h.1 a = 12 ∨ h.1 a = 144 ∨ h.1 a = 245) q q_39 := hF_q_9.tr (h2_q_39.mono (fun a (z : h.1 a = 144 ∨ h.1 a = 245) => (show h.1 a = 12 ∨ h.1 a = 144 ∨ h.1 a = 245 from by omega)))
          have hK_q_39 : sx_kf a0 [0] q q_39 := hK_q_9.tr ⟨fun k _ => h2_q_39.I ha0 (show ¬ (h.1 a0 = 144 ∨ h.1 a0 = 245) from by omega) k, fun k _ => h2_q_39.J ha0 (show ¬ (h.1 a0 = 144 ∨ h.1 a0 = 245) from by omega) k⟩
          have Jn_57_43 : ∀  (v_42 : Int32), WA l dC dI h L ({ frames := 2, cells := 0, slots := 0, locals := 55 } : Room) 5 Z q_39 57 [(3, .int v_7), (2, .int v_42), (0, .ref a0), (1, .int n1)] [] := by
            intro v_42
            obtain ⟨v_44, ev_44⟩ : ∃ z : Int32, z = v_7 + 1 := ⟨_, rfl⟩
            refine wa_iinc B [(3, .int v_44), (2, .int v_42), (0, .ref a0), (1, .int n1)] v_44 dX12_wrong_57 0 rfl (by rw [ev_44]; rfl) (by decide) rfl ?_
            refine wa_goto B 20 dX12_wrong_60 (by decide) ?_
            have tv_44 : v_44.toInt = v_7.toInt + 1 := by have b0 := zx_bd v_7; rw [ev_44]; exact zx_add (show (-2147483648 : Int) ≤ v_7.toInt + 1 by omega) (show v_7.toInt + 1 < (2147483648 : Int) by omega)
            have z_45 : q_39.1 a0 0 = 0 := (h2_q_39.I ha0 (show ¬ (h.1 a0 = 144 ∨ h.1 a0 = 245) from by omega) 0).trans (p0_q_9)
            have z_46 : q_39.2.2.1 a0 18 = m18 := (h2_q_39.R ha0 (show ¬ ((h.1 a0 = 144 ∨ h.1 a0 = 245) ∧ (h.1 a0 = 8 ∨ h.1 a0 = 11)) from by omega) 18).trans (p1_q_9)
            have z_47 : q_39.2.2.1 a0 19 = m19 := (h2_q_39.R ha0 (show ¬ ((h.1 a0 = 144 ∨ h.1 a0 = 245) ∧ (h.1 a0 = 8 ∨ h.1 a0 = 11)) from by omega) 19).trans (p2_q_9)
            have z_48 : q_39.2.2.1 a0 23 = m23 := (h2_q_39.R ha0 (show ¬ ((h.1 a0 = 144 ∨ h.1 a0 = 245) ∧ (h.1 a0 = 8 ∨ h.1 a0 = 11)) from by omega) 23).trans (p3_q_9)
            have z_49 : q_39.2.2.1 a0 25 = m25 := (h2_q_39.R ha0 (show ¬ ((h.1 a0 = 144 ∨ h.1 a0 = 245) ∧ (h.1 a0 = 8 ∨ h.1 a0 = 11)) from by omega) 25).trans (p4_q_9)
            have z_50 : q_39.2.2.1 a0 26 = m26 := (h2_q_39.R ha0 (show ¬ ((h.1 a0 = 144 ∨ h.1 a0 = 245) ∧ (h.1 a0 = 8 ∨ h.1 a0 = 11)) from by omega) 26).trans (p5_q_9)
            have z_51 : q_39.2.2.1 a0 27 = m27 := (h2_q_39.R ha0 (show ¬ ((h.1 a0 = 144 ∨ h.1 a0 = 245) ∧ (h.1 a0 = 8 ∨ h.1 a0 = 11)) from by omega) 27).trans (p6_q_9)
            have z_52 : q_39.2.2.1 a0 28 = m28 := (h2_q_39.R ha0 (show ¬ ((h.1 a0 = 144 ∨ h.1 a0 = 245) ∧ (h.1 a0 = 8 ∨ h.1 a0 = 11)) from by omega) 28).trans (p7_q_9)
            have z_53 : q_39.2.2.1 a0 29 = m29 := (h2_q_39.R ha0 (show ¬ ((h.1 a0 = 144 ∨ h.1 a0 = 245) ∧ (h.1 a0 = 8 ∨ h.1 a0 = 11)) from by omega) 29).trans (p8_q_9)
            have z_54 : q_39.2.2.1 a0 30 = m30 := (h2_q_39.R ha0 (show ¬ ((h.1 a0 = 144 ∨ h.1 a0 = 245) ∧ (h.1 a0 = 8 ∨ h.1 a0 = 11)) from by omega) 30).trans (p9_q_9)
            have z_55 : q_39.2.2.1 a0 34 = m34 := (h2_q_39.R ha0 (show ¬ ((h.1 a0 = 144 ∨ h.1 a0 = 245) ∧ (h.1 a0 = 8 ∨ h.1 a0 = 11)) from by omega) 34).trans (p10_q_9)
            have z_56 : q_39.2.2.1 a0 35 = m35 := (h2_q_39.R ha0 (show ¬ ((h.1 a0 = 144 ∨ h.1 a0 = 245) ∧ (h.1 a0 = 8 ∨ h.1 a0 = 11)) from by omega) 35).trans (p11_q_9)
            have z_57 : q_39.2.2.2.1 m18 = (q.2.2.2.1 m18) := (h2_q_39.G hm18 (show ¬ (h.1 m18 = 144 ∨ h.1 m18 = 245) from by omega) (by rw [km18]; decide)).trans (p12_q_9)
            have z_58 : q_39.2.2.2.1 m19 = (q.2.2.2.1 m19) := (h2_q_39.G hm19 (show ¬ (h.1 m19 = 144 ∨ h.1 m19 = 245) from by omega) (by rw [km19]; decide)).trans (p13_q_9)
            have z_59 : q_39.2.2.2.1 m23 = (q.2.2.2.1 m23) := (h2_q_39.G hm23 (show ¬ (h.1 m23 = 144 ∨ h.1 m23 = 245) from by omega) (by rw [km23]; decide)).trans (p14_q_9)
            have z_60 : q_39.2.2.2.1 m25 = (q.2.2.2.1 m25) := (h2_q_39.G hm25 (show ¬ (h.1 m25 = 144 ∨ h.1 m25 = 245) from by omega) (by rw [km25]; decide)).trans (p15_q_9)
            have z_61 : q_39.2.2.2.1 m26 = (q.2.2.2.1 m26) := (h2_q_39.G hm26 (show ¬ (h.1 m26 = 144 ∨ h.1 m26 = 245) from by omega) (by rw [km26]; decide)).trans (p16_q_9)
            have z_62 : q_39.2.2.2.1 m27 = (q.2.2.2.1 m27) := (h2_q_39.G hm27 (show ¬ (h.1 m27 = 144 ∨ h.1 m27 = 245) from by omega) (by rw [km27]; decide)).trans (p17_q_9)
            have z_63 : q_39.2.2.2.1 m28 = (q.2.2.2.1 m28) := (h2_q_39.G hm28 (show ¬ (h.1 m28 = 144 ∨ h.1 m28 = 245) from by omega) (by rw [km28]; decide)).trans (p18_q_9)
            have z_64 : q_39.2.2.2.1 m29 = (q.2.2.2.1 m29) := (h2_q_39.G hm29 (show ¬ (h.1 m29 = 144 ∨ h.1 m29 = 245) from by omega) (by rw [km29]; decide)).trans (p19_q_9)
            have z_65 : q_39.2.2.2.1 m30 = (q.2.2.2.1 m30) := (h2_q_39.G hm30 (show ¬ (h.1 m30 = 144 ∨ h.1 m30 = 245) from by omega) (by rw [km30]; decide)).trans (p20_q_9)
            exact ih_34 v_44 v_42 q_39 hV_q_39 hF_q_39 hK_q_39 mS_q_39 z_45 z_46 z_47 z_48 z_49 z_50 z_51 z_52 z_53 z_54 z_55 z_56 z_57 z_58 z_59 z_60 z_61 z_62 z_63 z_64 z_65 (show 0 ≤ v_44.toInt from by first | assumption | omega | decide) (show (10001 - v_44.toInt : Int).toNat < _ from by omega)
          refine wa_if_ne B 41 dX12_wrong_35 (by decide) (fun (t_66 : ¬ r_40.toInt = 0) => ?_) (fun (t_66 : r_40.toInt = 0) => ?_)
          · refine wa_aload_n B dX12_wrong_41 rfl 2 rfl ?_
            refine wa_iload_n B dX12_wrong_42 rfl 3 rfl ?_
            refine wa_callVi B (x := (RX12, TX12, 51)) (As := [.int n1]) (rest := []) (k_X12_wrongs l dC dI h L hN q_39 hV_q_39 (a0 := a0) ha0 ka0 n1  (by first | assumption | omega | decide) (by first | assumption | omega | decide)) (cwV 1 B.1.2.2.2.2 gX12_wrong_X12_wrongs rfl rfl rfl (by decide +kernel) ⟨Nat.le_of_ble_eq_true rfl, Nat.le_of_ble_eq_true rfl⟩) ha0 ka0 (by decide) rfl rfl rfl (Nat.le_of_ble_eq_true rfl) dX12_wrong_43 (fun r_68 q_67 w_69 => ?_)
            subst w_69
            refine wa_istore B [(4, .int r_68), (3, .int v_7), (2, .int v_8), (0, .ref a0), (1, .int n1)] dX12_wrong_46 (by decide) rfl ?_
            refine wa_iload B dX12_wrong_48 0 rfl ?_
            refine wa_iload_n B dX12_wrong_50 rfl 2 rfl ?_
            refine wa_icmp_ge B 57 dX12_wrong_51 (by decide) (fun (t_70 : v_8.toInt ≤ r_68.toInt) => ?_) (fun (t_70 : ¬ v_8.toInt ≤ r_68.toInt) => ?_)
            · refine WA.sub [1, 2, 3, 4] rfl ?_
              exact Jn_57_43 v_8
            · refine wa_iload B dX12_wrong_54 0 rfl ?_
              refine wa_istore_n B [(2, .int r_68), (4, .int r_68), (3, .int v_7), (0, .ref a0), (1, .int n1)] dX12_wrong_56 rfl (by decide) rfl ?_
              refine WA.sub [2, 0, 3, 4] rfl ?_
              exact Jn_57_43 r_68
          · refine wa_goto B 57 dX12_wrong_38 (by decide) ?_
            exact Jn_57_43 v_8
    exact Lp_20_33 _ 0 12 q_1 hV_q_1 hF_q_1 hK_q_1 mS_q_1 z_2 z_10 z_11 z_12 z_13 z_14 z_15 z_16 z_17 z_18 z_19 z_20 z_21 z_22 z_23 z_24 z_25 z_26 z_27 z_28 z_29 (show 0 ≤ 0 from by first | assumption | omega | decide) (Nat.lt_succ_self _)
  · refine wa_iconst B (-1) dX12_wrong_13 (by decide) ?_
    exact hret _ _ _ _ dX12_wrong_14 ⟨hV_q_1, hF_q_1, hK_q_1, mS_q_1⟩
theorem iq_X12_line_X12 : ∀ w ∈ wsX120, w ∈ wsX12_line := fun _ h => List.mem_cons_of_mem _ (List.mem_append_right _ h)
set_option maxHeartbeats 4000000 in
set_option maxRecDepth 100000 in
theorem k_X12_line (l : Launch) (dC : Nat → ClassId) (dI : Nat → Nat → Nat) (h : Sh) (L : List Nat) (hN : sx_nd L) (q : Sg) (hV : sx_V h L q) {a0 : Nat} (ha0 : a0 ∈ L) (ka0 : h.1 a0 = 12) (n1 : Int32) (n2 : Int32) (n3 : Int32)    : CMi l dC dI h L yX12_line wsX12_line ({ frames := 2, cells := 0, slots := 0, locals := 43 } : Room) q [.ref a0, .int n1, .int n2, .int n3] (fun r q' => sx_V h L q' ∧ sx_fr h L (fun a => h.1 a = 12) q q' ∧ sx_kf a0 [0] q q') := by
  refine cm_i (cc := cX12_line) (mL := 9) (own := RX12) hN (by decide) rfl rfl (Nat.le_of_ble_eq_true rfl) (fun Z B hret => ?_)
  have hF : sx_fr h L (fun a => h.1 a = 12) q q := sx_fr.rf
  have hK : sx_kf a0 [0] q q := sx_kf.rf
  show WA l dC dI h L ({ frames := 2, cells := 0, slots := 0, locals := 43 } : Room) 9 Z q 0 [(0, .ref a0), (1, .int n1), (2, .int n2), (3, .int n3)] []
  refine wa_aload_n B dX12_line_0 rfl 0 rfl ?_
  refine wa_iload_n B dX12_line_1 rfl 1 rfl ?_
  refine wa_iload_n B dX12_line_2 rfl 2 rfl ?_
  refine wa_callVi B (x := (RX12, TX12, 51)) (As := [.int n1, .int n2]) (rest := []) (k_X12_isLine l dC dI h L hN q hV (a0 := a0) ha0 ka0 n1 n2  ) (cwV 2 B.1.2.2.2.2 gX12_line_X12_isLine rfl rfl rfl (by decide +kernel) ⟨Nat.le_of_ble_eq_true rfl, Nat.le_of_ble_eq_true rfl⟩) ha0 ka0 (by decide) rfl rfl rfl (Nat.le_of_ble_eq_true rfl) dX12_line_3 (fun r_2 q_1 w_3 => ?_)
  obtain ⟨ew_3, hw_3⟩ := w_3
  subst ew_3
  refine wa_if_eq B 18 dX12_line_6 (by decide) (fun (t_4 : r_2.toInt = 0) => ?_) (fun (t_4 : ¬ r_2.toInt = 0) => ?_)
  · refine wa_aload_n B dX12_line_18 rfl 0 rfl ?_
    refine wa_callVi B (x := (RX12, TX12, 51)) (As := []) (rest := []) (k_X12_refuse l dC dI h L hN q hV (a0 := a0) ha0 ka0  ) (cwV 0 B.1.2.2.2.2 gX12_line_X12_refuse rfl rfl rfl (by decide +kernel) ⟨Nat.le_of_ble_eq_true rfl, Nat.le_of_ble_eq_true rfl⟩) ha0 ka0 (by decide) rfl rfl rfl (Nat.le_of_ble_eq_true rfl) dX12_line_19 (fun r_6 q_5 w_7 => ?_)
    obtain ⟨hV_q_5, h2_q_5, h3_q_5⟩ := w_7
    have hF_q_5 : sx_fr h L (fun a => h.1 a = 12) q q_5 := hF.tr (h2_q_5.mono (fun a (z : h.1 a = 12) => (show h.1 a = 12 from by omega)))
    have hK_q_5 : sx_kf a0 [0] q q_5 := hK.tr (h3_q_5.mono (by decide))
    exact hret _ _ _ _ dX12_line_22 ⟨hV_q_5, hF_q_5, hK_q_5⟩
  · refine wa_iload_n B dX12_line_9 rfl 3 rfl ?_
    refine wa_if_lt B 18 dX12_line_10 (by decide) (fun (t_8 : n3.toInt < 0) => ?_) (fun (t_8 : ¬ n3.toInt < 0) => ?_)
    · refine wa_aload_n B dX12_line_18 rfl 0 rfl ?_
      refine wa_callVi B (x := (RX12, TX12, 51)) (As := []) (rest := []) (k_X12_refuse l dC dI h L hN q hV (a0 := a0) ha0 ka0  ) (cwV 0 B.1.2.2.2.2 gX12_line_X12_refuse rfl rfl rfl (by decide +kernel) ⟨Nat.le_of_ble_eq_true rfl, Nat.le_of_ble_eq_true rfl⟩) ha0 ka0 (by decide) rfl rfl rfl (Nat.le_of_ble_eq_true rfl) dX12_line_19 (fun r_10 q_9 w_11 => ?_)
      obtain ⟨hV_q_9, h2_q_9, h3_q_9⟩ := w_11
      have hF_q_9 : sx_fr h L (fun a => h.1 a = 12) q q_9 := hF.tr (h2_q_9.mono (fun a (z : h.1 a = 12) => (show h.1 a = 12 from by omega)))
      have hK_q_9 : sx_kf a0 [0] q q_9 := hK.tr (h3_q_9.mono (by decide))
      exact hret _ _ _ _ dX12_line_22 ⟨hV_q_9, hF_q_9, hK_q_9⟩
    · refine wa_iload_n B dX12_line_13 rfl 3 rfl ?_
      refine wa_iconst B 3 dX12_line_14 (by decide) ?_
      refine wa_icmp_le B 23 dX12_line_15 (by decide) (fun (t_12 : n3.toInt ≤ 3) => ?_) (fun (t_12 : ¬ n3.toInt ≤ 3) => ?_)
      · refine wa_aload_n B dX12_line_23 rfl 0 rfl ?_
        refine wa_iconst B 0 dX12_line_24 (by decide) ?_
        refine wa_putI B (C := RX12) (T := TX12) (N := 51) iq_X12_line_X12 ha0 ka0 (by decide) rfl 0 (by decide) (by decide) (by decide +kernel) rfl (by decide) (v := 0) (ty := .int) tyX12 tyX12_ok nmX12 rfl (by decide +kernel) rfl rfl dX12_line_25 (fun q_13 eq_13 => ?_)
        have hV_q_13 : sx_V h L q_13 := by rw [eq_13]; exact hV.pI ka0 trivial
        have hF_q_13 : sx_fr h L (fun a => h.1 a = 12) q q_13 := hF.tr (by rw [eq_13]; exact sx_fr.pI (show h.1 a0 = 12 from by omega))
        have z_14 : q_13.1 a0 0 = 0 := by rw [eq_13]; exact sg_pI_e
        have hK_q_13 : sx_kf a0 [0] q q_13 := hK.tr (by rw [eq_13]; exact sx_kf.pI (by decide))
        refine wa_bipush B 12 dX12_line_28 (by decide) ?_
        refine wa_iload_n B dX12_line_30 rfl 1 rfl ?_
        refine wa_imul B dX12_line_31 (fun v_15 ev_15 => ?_)
        refine wa_iload_n B dX12_line_32 rfl 2 rfl ?_
        refine wa_iadd B dX12_line_33 (fun v_16 ev_16 => ?_)
        refine wa_istore B [(4, .int v_16), (0, .ref a0), (1, .int n1), (2, .int n2), (3, .int n3)] dX12_line_34 (by decide) rfl ?_
        have tv_15 : v_15.toInt = 12 * n1.toInt := by have b1 := zx_bd n1; rw [ev_15]; exact zx_mul (show (-2147483648 : Int) ≤ 12 * n1.toInt by omega) (show 12 * n1.toInt < (2147483648 : Int) by omega)
        have tv_16 : v_16.toInt = v_15.toInt + n2.toInt := by have b0 := zx_bd v_15; have b1 := zx_bd n2; rw [ev_16]; exact zx_add (show (-2147483648 : Int) ≤ v_15.toInt + n2.toInt by omega) (show v_15.toInt + n2.toInt < (2147483648 : Int) by omega)
        refine wa_iconst B 0 dX12_line_36 (by decide) ?_
        refine wa_istore B [(5, .int 0), (4, .int v_16), (0, .ref a0), (1, .int n1), (2, .int n2), (3, .int n3)] dX12_line_37 (by decide) rfl ?_
        refine wa_iconst B 0 dX12_line_39 (by decide) ?_
        refine wa_istore B [(6, .int 0), (5, .int 0), (4, .int v_16), (0, .ref a0), (1, .int n1), (2, .int n2), (3, .int n3)] dX12_line_40 (by decide) rfl ?_
        have Lp_42_20 : ∀ (n : Nat) (v_17 : Int32) (v_18 : Int32), 0 ≤ v_17.toInt → (5 - v_17.toInt : Int).toNat < n → WA l dC dI h L ({ frames := 2, cells := 0, slots := 0, locals := 43 } : Room) 9 Z q_13 42 [(6, .int v_17), (5, .int v_18), (4, .int v_16), (0, .ref a0), (1, .int n1), (2, .int n2), (3, .int n3)] [] := by
          intro n
          induction n with
          | zero =>
            intro v_17 v_18 x_19 hn
            exact absurd hn (Nat.not_lt_zero _)
          | succ n ih_21 =>
            intro v_17 v_18 x_19 hn
            refine wa_iload B dX12_line_42 0 rfl ?_
            refine wa_aload_n B dX12_line_44 rfl 3 rfl ?_
            obtain ⟨a_22, ea_22, ha_22, ka_22, la_22⟩ := hV_q_13.refn (n := 108) (t := 136) ha0 ka0 26 rfl (by decide) rfl (by decide)
            refine wa_getR B (C := RX12) (T := TX12) (N := 51) iq_X12_line_X12 ha0 ka0 (by decide) rfl 26 (by decide) (by decide) (by decide +kernel) rfl (fun _ _ _ => rfl) (v := a_22) ea_22 dX12_line_45 ?_
            refine wa_iload B dX12_line_48 2 rfl ?_
            refine wa_iaload B ha_22 ka_22 (by decide) (by decide) (show 0 ≤ v_16.toInt by omega) (show v_16.toInt < (h.2.1 a_22 : Int) by omega) (v := (q_13.2.2.2.1 a_22 (v_16 : Int32).toNatClampNeg)) rfl dX12_line_50 ?_
            have g_23 : (0 : Int) ≤ ((q_13.2.2.2.1 a_22 (v_16 : Int32).toNatClampNeg)).toInt ∧ ((q_13.2.2.2.1 a_22 (v_16 : Int32).toNatClampNeg)).toInt ≤ 5 := hV_q_13.cnt ha_22 ka_22 _
            refine wa_icmp_ge B 110 dX12_line_51 (by decide) (fun (t_24 : ((q_13.2.2.2.1 a_22 (v_16 : Int32).toNatClampNeg)).toInt ≤ v_17.toInt) => ?_) (fun (t_24 : ¬ ((q_13.2.2.2.1 a_22 (v_16 : Int32).toNatClampNeg)).toInt ≤ v_17.toInt) => ?_)
            · refine wa_iload_n B dX12_line_110 rfl 6 rfl ?_
              refine wa_iconst B 3 dX12_line_111 (by decide) ?_
              refine wa_icmp_ge B 147 dX12_line_112 (by decide) (fun (t_25 : 3 ≤ n3.toInt) => ?_) (fun (t_25 : ¬ 3 ≤ n3.toInt) => ?_)
              · refine wa_iload B dX12_line_147 1 rfl ?_
                refine wa_if_le B 154 dX12_line_149 (by decide) (fun (t_26 : v_18.toInt ≤ 0) => ?_) (fun (t_26 : ¬ v_18.toInt ≤ 0) => ?_)
                · refine wa_iconst B 0 dX12_line_154 (by decide) ?_
                  refine wa_istore B [(6, .int 0), (5, .int v_18), (4, .int v_16), (0, .ref a0), (1, .int n1), (2, .int n2), (3, .int n3)] dX12_line_155 (by decide) rfl ?_
                  refine wa_iconst B 0 dX12_line_157 (by decide) ?_
                  refine wa_istore B [(7, .int 0), (6, .int 0), (5, .int v_18), (4, .int v_16), (0, .ref a0), (1, .int n1), (2, .int n2), (3, .int n3)] dX12_line_158 (by decide) rfl ?_
                  have Lp_160_30 : ∀ (n : Nat) (v_27 : Int32) (v_28 : Int32), 0 ≤ v_27.toInt → (5 - v_27.toInt : Int).toNat < n → WA l dC dI h L ({ frames := 2, cells := 0, slots := 0, locals := 43 } : Room) 9 Z q_13 160 [(7, .int v_27), (6, .int v_28), (5, .int v_18), (4, .int v_16), (0, .ref a0), (1, .int n1), (2, .int n2), (3, .int n3)] [] := by
                    intro n
                    induction n with
                    | zero =>
                      intro v_27 v_28 x_29 hn
                      exact absurd hn (Nat.not_lt_zero _)
                    | succ n ih_31 =>
                      intro v_27 v_28 x_29 hn
                      refine wa_iload B dX12_line_160 0 rfl ?_
                      refine wa_aload_n B dX12_line_162 rfl 4 rfl ?_
                      refine wa_getR B (C := RX12) (T := TX12) (N := 51) iq_X12_line_X12 ha0 ka0 (by decide) rfl 26 (by decide) (by decide) (by decide +kernel) rfl (fun _ _ _ => rfl) (v := a_22) ea_22 dX12_line_163 ?_
                      refine wa_iload B dX12_line_166 3 rfl ?_
                      refine wa_iaload B ha_22 ka_22 (by decide) (by decide) (show 0 ≤ v_16.toInt by omega) (show v_16.toInt < (h.2.1 a_22 : Int) by omega) (v := (q_13.2.2.2.1 a_22 (v_16 : Int32).toNatClampNeg)) rfl dX12_line_168 ?_
                      refine wa_icmp_ge B 250 dX12_line_169 (by decide) (fun (t_32 : ((q_13.2.2.2.1 a_22 (v_16 : Int32).toNatClampNeg)).toInt ≤ v_27.toInt) => ?_) (fun (t_32 : ¬ ((q_13.2.2.2.1 a_22 (v_16 : Int32).toNatClampNeg)).toInt ≤ v_27.toInt) => ?_)
                      · refine wa_iload B dX12_line_250 1 rfl ?_
                        exact hret _ _ _ _ dX12_line_252 ⟨hV_q_13, hF_q_13, hK_q_13⟩
                      · refine wa_iconst B 5 dX12_line_172 (by decide) ?_
                        refine wa_iload B dX12_line_173 3 rfl ?_
                        refine wa_imul B dX12_line_175 (fun v_33 ev_33 => ?_)
                        refine wa_iload B dX12_line_176 0 rfl ?_
                        refine wa_iadd B dX12_line_178 (fun v_34 ev_34 => ?_)
                        refine wa_istore B [(8, .int v_34), (7, .int v_27), (6, .int v_28), (5, .int v_18), (4, .int v_16), (0, .ref a0), (1, .int n1), (2, .int n2), (3, .int n3)] dX12_line_179 (by decide) rfl ?_
                        refine wa_iload B dX12_line_181 2 rfl ?_
                        refine wa_aload_n B dX12_line_183 rfl 5 rfl ?_
                        obtain ⟨a_35, ea_35, ha_35, ka_35, la_35⟩ := hV_q_13.refn (n := 540) (t := 139) ha0 ka0 29 rfl (by decide) rfl (by decide)
                        refine wa_getR B (C := RX12) (T := TX12) (N := 51) iq_X12_line_X12 ha0 ka0 (by decide) rfl 29 (by decide) (by decide) (by decide +kernel) rfl (fun _ _ _ => rfl) (v := a_35) ea_35 dX12_line_184 ?_
                        refine wa_iload B dX12_line_187 0 rfl ?_
                        have tv_33 : v_33.toInt = 5 * v_16.toInt := by have b1 := zx_bd v_16; rw [ev_33]; exact zx_mul (show (-2147483648 : Int) ≤ 5 * v_16.toInt by omega) (show 5 * v_16.toInt < (2147483648 : Int) by omega)
                        have tv_34 : v_34.toInt = v_33.toInt + v_27.toInt := by have b0 := zx_bd v_33; have b1 := zx_bd v_27; rw [ev_34]; exact zx_add (show (-2147483648 : Int) ≤ v_33.toInt + v_27.toInt by omega) (show v_33.toInt + v_27.toInt < (2147483648 : Int) by omega)
                        refine wa_iaload B ha_35 ka_35 (by decide) (by decide) (show 0 ≤ v_34.toInt by omega) (show v_34.toInt < (h.2.1 a_35 : Int) by omega) (v := (q_13.2.2.2.1 a_35 (v_34 : Int32).toNatClampNeg)) rfl dX12_line_189 ?_
                        refine wa_iconst B (-1) dX12_line_190 (by decide) ?_
                        have Jn_222_37 : ∀  (v_36 : Int32), WA l dC dI h L ({ frames := 2, cells := 0, slots := 0, locals := 43 } : Room) 9 Z q_13 222 [(8, .int v_34), (7, .int v_27), (6, .int v_28), (5, .int v_18), (4, .int v_16), (0, .ref a0), (1, .int n1), (2, .int n2), (3, .int n3)] [.int v_36, .int v_28] := by
                          intro v_36
                          refine wa_aload_n B dX12_line_222 rfl 5 rfl ?_
                          refine wa_aload_n B dX12_line_223 rfl 5 rfl ?_
                          obtain ⟨a_38, ea_38, ha_38, ka_38, la_38⟩ := hV_q_13.refn (n := 108) (t := 135) ha0 ka0 25 rfl (by decide) rfl (by decide)
                          refine wa_getR B (C := RX12) (T := TX12) (N := 51) iq_X12_line_X12 ha0 ka0 (by decide) rfl 25 (by decide) (by decide) (by decide +kernel) rfl (fun _ _ _ => rfl) (v := a_38) ea_38 dX12_line_224 ?_
                          refine wa_iload B dX12_line_227 4 rfl ?_
                          refine wa_iaload B ha_38 ka_38 (by decide) (by decide) (show 0 ≤ v_16.toInt by omega) (show v_16.toInt < (h.2.1 a_38 : Int) by omega) (v := (q_13.2.2.2.1 a_38 (v_16 : Int32).toNatClampNeg)) rfl dX12_line_229 ?_
                          have g_39 : (0 : Int) ≤ ((q_13.2.2.2.1 a_38 (v_16 : Int32).toNatClampNeg)).toInt ∧ ((q_13.2.2.2.1 a_38 (v_16 : Int32).toNatClampNeg)).toInt ≤ 2 := hV_q_13.cnt ha_38 ka_38 _
                          refine wa_aload_n B dX12_line_230 rfl 5 rfl ?_
                          obtain ⟨a_40, ea_40, ha_40, ka_40, la_40⟩ := hV_q_13.refn (n := 540) (t := 140) ha0 ka0 30 rfl (by decide) rfl (by decide)
                          refine wa_getR B (C := RX12) (T := TX12) (N := 51) iq_X12_line_X12 ha0 ka0 (by decide) rfl 30 (by decide) (by decide) (by decide +kernel) rfl (fun _ _ _ => rfl) (v := a_40) ea_40 dX12_line_231 ?_
                          refine wa_iload B dX12_line_234 0 rfl ?_
                          refine wa_iaload B ha_40 ka_40 (by decide) (by decide) (show 0 ≤ v_34.toInt by omega) (show v_34.toInt < (h.2.1 a_40 : Int) by omega) (v := (q_13.2.2.2.1 a_40 (v_34 : Int32).toNatClampNeg)) rfl dX12_line_236 ?_
                          have g_41 : (0 : Int) ≤ ((q_13.2.2.2.1 a_40 (v_34 : Int32).toNatClampNeg)).toInt ∧ ((q_13.2.2.2.1 a_40 (v_34 : Int32).toNatClampNeg)).toInt ≤ 4 := hV_q_13.cnt ha_40 ka_40 _
                          refine wa_callVi B (x := (RX12, TX12, 51)) (As := [.int ((q_13.2.2.2.1 a_38 (v_16 : Int32).toNatClampNeg)), .int ((q_13.2.2.2.1 a_40 (v_34 : Int32).toNatClampNeg))]) (rest := [.int v_36, .int v_28]) (k_X12_worth l dC dI h L hN q_13 hV_q_13 (a0 := a0) ha0 ka0 ((q_13.2.2.2.1 a_38 (v_16 : Int32).toNatClampNeg)) ((q_13.2.2.2.1 a_40 (v_34 : Int32).toNatClampNeg))  (by first | assumption | omega | decide) (by first | assumption | omega | decide) (by first | assumption | omega | decide) (by first | assumption | omega | decide)) (cwV 2 B.1.2.2.2.2 gX12_line_X12_worth rfl rfl rfl (by decide +kernel) ⟨Nat.le_of_ble_eq_true rfl, Nat.le_of_ble_eq_true rfl⟩) ha0 ka0 (by decide) rfl rfl rfl (Nat.le_of_ble_eq_true rfl) dX12_line_237 (fun r_43 q_42 w_44 => ?_)
                          subst w_44
                          refine wa_imul B dX12_line_240 (fun v_45 ev_45 => ?_)
                          refine wa_iadd B dX12_line_241 (fun v_46 ev_46 => ?_)
                          refine wa_istore B [(6, .int v_46), (8, .int v_34), (7, .int v_27), (5, .int v_18), (4, .int v_16), (0, .ref a0), (1, .int n1), (2, .int n2), (3, .int n3)] dX12_line_242 (by decide) rfl ?_
                          obtain ⟨v_47, ev_47⟩ : ∃ z : Int32, z = v_27 + 1 := ⟨_, rfl⟩
                          refine wa_iinc B [(7, .int v_47), (6, .int v_46), (8, .int v_34), (5, .int v_18), (4, .int v_16), (0, .ref a0), (1, .int n1), (2, .int n2), (3, .int n3)] v_47 dX12_line_244 2 rfl (by rw [ev_47]; rfl) (by decide) rfl ?_
                          refine wa_goto B 160 dX12_line_247 (by decide) ?_
                          have tv_47 : v_47.toInt = v_27.toInt + 1 := by have b0 := zx_bd v_27; rw [ev_47]; exact zx_add (show (-2147483648 : Int) ≤ v_27.toInt + 1 by omega) (show v_27.toInt + 1 < (2147483648 : Int) by omega)
                          refine WA.sub [0, 1, 3, 4, 5, 6, 7, 8] rfl ?_
                          exact ih_31 v_47 v_46 (show 0 ≤ v_47.toInt from by first | assumption | omega | decide) (show (5 - v_47.toInt : Int).toNat < _ from by omega)
                        refine wa_icmp_ne B 204 dX12_line_191 (by decide) (fun (t_48 : ¬ ((q_13.2.2.2.1 a_35 (v_34 : Int32).toNatClampNeg)).toInt = (-1)) => ?_) (fun (t_48 : ((q_13.2.2.2.1 a_35 (v_34 : Int32).toNatClampNeg)).toInt = (-1)) => ?_)
                        · refine wa_bipush B 10 dX12_line_204 (by decide) ?_
                          refine wa_aload_n B dX12_line_206 rfl 5 rfl ?_
                          obtain ⟨a_49, ea_49, ha_49, ka_49, la_49⟩ := hV_q_13.refn (n := 540) (t := 138) ha0 ka0 28 rfl (by decide) rfl (by decide)
                          refine wa_getR B (C := RX12) (T := TX12) (N := 51) iq_X12_line_X12 ha0 ka0 (by decide) rfl 28 (by decide) (by decide) (by decide +kernel) rfl (fun _ _ _ => rfl) (v := a_49) ea_49 dX12_line_207 ?_
                          refine wa_iload B dX12_line_210 0 rfl ?_
                          refine wa_iaload B ha_49 ka_49 (by decide) (by decide) (show 0 ≤ v_34.toInt by omega) (show v_34.toInt < (h.2.1 a_49 : Int) by omega) (v := (q_13.2.2.2.1 a_49 (v_34 : Int32).toNatClampNeg)) rfl dX12_line_212 ?_
                          refine wa_imul B dX12_line_213 (fun v_50 ev_50 => ?_)
                          refine wa_aload_n B dX12_line_214 rfl 5 rfl ?_
                          refine wa_getR B (C := RX12) (T := TX12) (N := 51) iq_X12_line_X12 ha0 ka0 (by decide) rfl 29 (by decide) (by decide) (by decide +kernel) rfl (fun _ _ _ => rfl) (v := a_35) ea_35 dX12_line_215 ?_
                          refine wa_iload B dX12_line_218 0 rfl ?_
                          refine wa_iaload B ha_35 ka_35 (by decide) (by decide) (show 0 ≤ v_34.toInt by omega) (show v_34.toInt < (h.2.1 a_35 : Int) by omega) (v := (q_13.2.2.2.1 a_35 (v_34 : Int32).toNatClampNeg)) rfl dX12_line_220 ?_
                          refine wa_iadd B dX12_line_221 (fun v_51 ev_51 => ?_)
                          exact Jn_222_37 v_51
                        · refine wa_aload_n B dX12_line_194 rfl 5 rfl ?_
                          obtain ⟨a_52, ea_52, ha_52, ka_52, la_52⟩ := hV_q_13.refn (n := 540) (t := 138) ha0 ka0 28 rfl (by decide) rfl (by decide)
                          refine wa_getR B (C := RX12) (T := TX12) (N := 51) iq_X12_line_X12 ha0 ka0 (by decide) rfl 28 (by decide) (by decide) (by decide +kernel) rfl (fun _ _ _ => rfl) (v := a_52) ea_52 dX12_line_195 ?_
                          refine wa_iload B dX12_line_198 0 rfl ?_
                          refine wa_iaload B ha_52 ka_52 (by decide) (by decide) (show 0 ≤ v_34.toInt by omega) (show v_34.toInt < (h.2.1 a_52 : Int) by omega) (v := (q_13.2.2.2.1 a_52 (v_34 : Int32).toNatClampNeg)) rfl dX12_line_200 ?_
                          refine wa_goto B 222 dX12_line_201 (by decide) ?_
                          exact Jn_222_37 ((q_13.2.2.2.1 a_52 (v_34 : Int32).toNatClampNeg))
                  exact Lp_160_30 _ 0 0 (show 0 ≤ 0 from by first | assumption | omega | decide) (Nat.lt_succ_self _)
                · refine wa_iconst B (-1) dX12_line_152 (by decide) ?_
                  exact hret _ _ _ _ dX12_line_153 ⟨hV_q_13, hF_q_13, hK_q_13⟩
              · refine wa_iload_n B dX12_line_115 rfl 6 rfl ?_
                refine wa_if_ne B 129 dX12_line_116 (by decide) (fun (t_53 : ¬ n3.toInt = 0) => ?_) (fun (t_53 : n3.toInt = 0) => ?_)
                · refine wa_iload_n B dX12_line_129 rfl 6 rfl ?_
                  refine wa_iconst B 1 dX12_line_130 (by decide) ?_
                  refine wa_icmp_ne B 144 dX12_line_131 (by decide) (fun (t_54 : ¬ n3.toInt = 1) => ?_) (fun (t_54 : n3.toInt = 1) => ?_)
                  · refine wa_iload B dX12_line_144 1 rfl ?_
                    exact hret _ _ _ _ dX12_line_146 ⟨hV_q_13, hF_q_13, hK_q_13⟩
                  · refine wa_aload_n B dX12_line_134 rfl 3 rfl ?_
                    obtain ⟨a_55, ea_55, ha_55, ka_55, la_55⟩ := hV_q_13.refn (n := 108) (t := 135) ha0 ka0 25 rfl (by decide) rfl (by decide)
                    refine wa_getR B (C := RX12) (T := TX12) (N := 51) iq_X12_line_X12 ha0 ka0 (by decide) rfl 25 (by decide) (by decide) (by decide +kernel) rfl (fun _ _ _ => rfl) (v := a_55) ea_55 dX12_line_135 ?_
                    refine wa_iload B dX12_line_138 2 rfl ?_
                    refine wa_iaload B ha_55 ka_55 (by decide) (by decide) (show 0 ≤ v_16.toInt by omega) (show v_16.toInt < (h.2.1 a_55 : Int) by omega) (v := (q_13.2.2.2.1 a_55 (v_16 : Int32).toNatClampNeg)) rfl dX12_line_140 ?_
                    have g_56 : (0 : Int) ≤ ((q_13.2.2.2.1 a_55 (v_16 : Int32).toNatClampNeg)).toInt ∧ ((q_13.2.2.2.1 a_55 (v_16 : Int32).toNatClampNeg)).toInt ≤ 2 := hV_q_13.cnt ha_55 ka_55 _
                    refine wa_goto B 146 dX12_line_141 (by decide) ?_
                    exact hret _ _ _ _ dX12_line_146 ⟨hV_q_13, hF_q_13, hK_q_13⟩
                · refine wa_aload_n B dX12_line_119 rfl 3 rfl ?_
                  obtain ⟨a_57, ea_57, ha_57, ka_57, la_57⟩ := hV_q_13.refn (n := 108) (t := 134) ha0 ka0 24 rfl (by decide) rfl (by decide)
                  refine wa_getR B (C := RX12) (T := TX12) (N := 51) iq_X12_line_X12 ha0 ka0 (by decide) rfl 24 (by decide) (by decide) (by decide +kernel) rfl (fun _ _ _ => rfl) (v := a_57) ea_57 dX12_line_120 ?_
                  refine wa_iload B dX12_line_123 2 rfl ?_
                  refine wa_iaload B ha_57 ka_57 (by decide) (by decide) (show 0 ≤ v_16.toInt by omega) (show v_16.toInt < (h.2.1 a_57 : Int) by omega) (v := (q_13.2.2.2.1 a_57 (v_16 : Int32).toNatClampNeg)) rfl dX12_line_125 ?_
                  refine wa_goto B 146 dX12_line_126 (by decide) ?_
                  exact hret _ _ _ _ dX12_line_146 ⟨hV_q_13, hF_q_13, hK_q_13⟩
            · refine wa_iload B dX12_line_54 1 rfl ?_
              refine wa_aload_n B dX12_line_56 rfl 3 rfl ?_
              obtain ⟨a_58, ea_58, ha_58, ka_58, la_58⟩ := hV_q_13.refn (n := 540) (t := 138) ha0 ka0 28 rfl (by decide) rfl (by decide)
              refine wa_getR B (C := RX12) (T := TX12) (N := 51) iq_X12_line_X12 ha0 ka0 (by decide) rfl 28 (by decide) (by decide) (by decide +kernel) rfl (fun _ _ _ => rfl) (v := a_58) ea_58 dX12_line_57 ?_
              refine wa_iconst B 5 dX12_line_60 (by decide) ?_
              refine wa_iload B dX12_line_61 2 rfl ?_
              refine wa_imul B dX12_line_63 (fun v_59 ev_59 => ?_)
              refine wa_iload B dX12_line_64 0 rfl ?_
              refine wa_iadd B dX12_line_66 (fun v_60 ev_60 => ?_)
              have tv_59 : v_59.toInt = 5 * v_16.toInt := by have b1 := zx_bd v_16; rw [ev_59]; exact zx_mul (show (-2147483648 : Int) ≤ 5 * v_16.toInt by omega) (show 5 * v_16.toInt < (2147483648 : Int) by omega)
              have tv_60 : v_60.toInt = v_59.toInt + v_17.toInt := by have b0 := zx_bd v_59; have b1 := zx_bd v_17; rw [ev_60]; exact zx_add (show (-2147483648 : Int) ≤ v_59.toInt + v_17.toInt by omega) (show v_59.toInt + v_17.toInt < (2147483648 : Int) by omega)
              refine wa_iaload B ha_58 ka_58 (by decide) (by decide) (show 0 ≤ v_60.toInt by omega) (show v_60.toInt < (h.2.1 a_58 : Int) by omega) (v := (q_13.2.2.2.1 a_58 (v_60 : Int32).toNatClampNeg)) rfl dX12_line_67 ?_
              refine wa_bipush B 10 dX12_line_68 (by decide) ?_
              have Jn_78_62 : ∀  (v_61 : Int32), WA l dC dI h L ({ frames := 2, cells := 0, slots := 0, locals := 43 } : Room) 9 Z q_13 78 [(6, .int v_17), (5, .int v_18), (4, .int v_16), (0, .ref a0), (1, .int n1), (2, .int n2), (3, .int n3)] [.int v_61, .int v_18] := by
                intro v_61
                refine wa_aload_n B dX12_line_78 rfl 3 rfl ?_
                obtain ⟨a_63, ea_63, ha_63, ka_63, la_63⟩ := hV_q_13.refn (n := 540) (t := 139) ha0 ka0 29 rfl (by decide) rfl (by decide)
                refine wa_getR B (C := RX12) (T := TX12) (N := 51) iq_X12_line_X12 ha0 ka0 (by decide) rfl 29 (by decide) (by decide) (by decide +kernel) rfl (fun _ _ _ => rfl) (v := a_63) ea_63 dX12_line_79 ?_
                refine wa_iconst B 5 dX12_line_82 (by decide) ?_
                refine wa_iload B dX12_line_83 2 rfl ?_
                refine wa_imul B dX12_line_85 (fun v_64 ev_64 => ?_)
                refine wa_iload B dX12_line_86 0 rfl ?_
                refine wa_iadd B dX12_line_88 (fun v_65 ev_65 => ?_)
                have tv_64 : v_64.toInt = 5 * v_16.toInt := by have b1 := zx_bd v_16; rw [ev_64]; exact zx_mul (show (-2147483648 : Int) ≤ 5 * v_16.toInt by omega) (show 5 * v_16.toInt < (2147483648 : Int) by omega)
                have tv_65 : v_65.toInt = v_64.toInt + v_17.toInt := by have b0 := zx_bd v_64; have b1 := zx_bd v_17; rw [ev_65]; exact zx_add (show (-2147483648 : Int) ≤ v_64.toInt + v_17.toInt by omega) (show v_64.toInt + v_17.toInt < (2147483648 : Int) by omega)
                refine wa_iaload B ha_63 ka_63 (by decide) (by decide) (show 0 ≤ v_65.toInt by omega) (show v_65.toInt < (h.2.1 a_63 : Int) by omega) (v := (q_13.2.2.2.1 a_63 (v_65 : Int32).toNatClampNeg)) rfl dX12_line_89 ?_
                refine wa_bipush B 10 dX12_line_90 (by decide) ?_
                have Jn_100_67 : ∀  (v_66 : Int32), WA l dC dI h L ({ frames := 2, cells := 0, slots := 0, locals := 43 } : Room) 9 Z q_13 100 [(6, .int v_17), (5, .int v_18), (4, .int v_16), (0, .ref a0), (1, .int n1), (2, .int n2), (3, .int n3)] [.int v_66, .int v_61, .int v_18] := by
                  intro v_66
                  refine wa_iadd B dX12_line_100 (fun v_68 ev_68 => ?_)
                  refine wa_iadd B dX12_line_101 (fun v_69 ev_69 => ?_)
                  refine wa_istore B [(5, .int v_69), (6, .int v_17), (4, .int v_16), (0, .ref a0), (1, .int n1), (2, .int n2), (3, .int n3)] dX12_line_102 (by decide) rfl ?_
                  obtain ⟨v_70, ev_70⟩ : ∃ z : Int32, z = v_17 + 1 := ⟨_, rfl⟩
                  refine wa_iinc B [(6, .int v_70), (5, .int v_69), (4, .int v_16), (0, .ref a0), (1, .int n1), (2, .int n2), (3, .int n3)] v_70 dX12_line_104 1 rfl (by rw [ev_70]; rfl) (by decide) rfl ?_
                  refine wa_goto B 42 dX12_line_107 (by decide) ?_
                  have tv_70 : v_70.toInt = v_17.toInt + 1 := by have b0 := zx_bd v_17; rw [ev_70]; exact zx_add (show (-2147483648 : Int) ≤ v_17.toInt + 1 by omega) (show v_17.toInt + 1 < (2147483648 : Int) by omega)
                  exact ih_21 v_70 v_69 (show 0 ≤ v_70.toInt from by first | assumption | omega | decide) (show (5 - v_70.toInt : Int).toNat < _ from by omega)
                refine wa_icmp_ne B 99 dX12_line_92 (by decide) (fun (t_71 : ¬ ((q_13.2.2.2.1 a_63 (v_65 : Int32).toNatClampNeg)).toInt = 10) => ?_) (fun (t_71 : ((q_13.2.2.2.1 a_63 (v_65 : Int32).toNatClampNeg)).toInt = 10) => ?_)
                · refine wa_iconst B 0 dX12_line_99 (by decide) ?_
                  exact Jn_100_67 0
                · refine wa_iconst B 1 dX12_line_95 (by decide) ?_
                  refine wa_goto B 100 dX12_line_96 (by decide) ?_
                  exact Jn_100_67 1
              refine wa_icmp_ne B 77 dX12_line_70 (by decide) (fun (t_72 : ¬ ((q_13.2.2.2.1 a_58 (v_60 : Int32).toNatClampNeg)).toInt = 10) => ?_) (fun (t_72 : ((q_13.2.2.2.1 a_58 (v_60 : Int32).toNatClampNeg)).toInt = 10) => ?_)
              · refine wa_iconst B 0 dX12_line_77 (by decide) ?_
                exact Jn_78_62 0
              · refine wa_iconst B 1 dX12_line_73 (by decide) ?_
                refine wa_goto B 78 dX12_line_74 (by decide) ?_
                exact Jn_78_62 1
        exact Lp_42_20 _ 0 0 (show 0 ≤ 0 from by first | assumption | omega | decide) (Nat.lt_succ_self _)
      · refine wa_aload_n B dX12_line_18 rfl 0 rfl ?_
        refine wa_callVi B (x := (RX12, TX12, 51)) (As := []) (rest := []) (k_X12_refuse l dC dI h L hN q hV (a0 := a0) ha0 ka0  ) (cwV 0 B.1.2.2.2.2 gX12_line_X12_refuse rfl rfl rfl (by decide +kernel) ⟨Nat.le_of_ble_eq_true rfl, Nat.le_of_ble_eq_true rfl⟩) ha0 ka0 (by decide) rfl rfl rfl (Nat.le_of_ble_eq_true rfl) dX12_line_19 (fun r_74 q_73 w_75 => ?_)
        obtain ⟨hV_q_73, h2_q_73, h3_q_73⟩ := w_75
        have hF_q_73 : sx_fr h L (fun a => h.1 a = 12) q q_73 := hF.tr (h2_q_73.mono (fun a (z : h.1 a = 12) => (show h.1 a = 12 from by omega)))
        have hK_q_73 : sx_kf a0 [0] q q_73 := hK.tr (h3_q_73.mono (by decide))
        exact hret _ _ _ _ dX12_line_22 ⟨hV_q_73, hF_q_73, hK_q_73⟩
