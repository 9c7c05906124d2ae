set_option maxHeartbeats 4000000 in
set_option maxRecDepth 100000 in
theorem k_X9_writeTo_c (l : Launch) (dC : Nat → ClassId) (dI : Nat → Nat → Nat) (h : Sh) (L : List Nat) (hN : sx_nd L) (q : Sg) (hV : sx_V h L q) {a0 : Nat} (ha0 : a0 ∈ L) (ka0 : h.1 a0 = 9) {a1 : Nat} (ha1 : a1 ∈ L) (ka1 : h.1 a1 = 7) (n1 : Int32) (n2 : Int32) {b0 : Nat} (eb0 : q.2.2.1 a1 0 = b0) {c0 : Nat} (ec0 : q.2.2.1 a0 1 = c0) {m0 : Nat} (em0 : q.2.2.1 a0 2 = m0) {w0 : Nat} (ew0 : q.2.2.1 a0 4 = w0)  (Wf : Nat → Nat) (Xf : Nat → List Nat) (T9 : List Nat) (hy0 : 0 ≤ n1.toInt) (hy1 : n1.toInt < 3) (hy2 : 0 ≤ n2.toInt) (hy3 : h.2.1 b0 = 59) (hcc : pw_c Wf Xf (q.2.2.2.1 c0 n1.toNatClampNeg) (q.2.2.2.1 w0) (q.2.2.2.2 m0) n1.toNatClampNeg) (hT9 : pw_all Wf Xf (q.2.2.2.1 c0 n1.toNatClampNeg).toInt.toNat n2.toInt.toNat [] = T9) (h99 : n2.toInt.toNat / Wf ((q.2.2.2.1 c0 n1.toNatClampNeg).toInt.toNat - 1) ≤ 99) (hC : pw_C [] (q.1 a1 1) (q.2.2.2.1 b0)) : CMv l dC dI h L yX9_writeTo wsX9_writeTo ({ frames := 2, cells := 0, slots := 0, locals := 46 } : Room) q [.ref a0, .ref a1, .int n1, .int n2] (fun q' => sx_V h L q' ∧ sx_fr h L (fun a => a = a1 ∧ h.1 a = 7 ∨ a = b0 ∧ h.1 a = 300) q q' ∧ (pw_C T9 (q'.1 a1 1) (q'.2.2.2.1 b0))) := by
  refine cm_v (cc := cX9_writeTo) (mL := 9) (own := RX9) hN (by decide) rfl rfl (Nat.le_of_ble_eq_true rfl) (fun Z B hret => ?_)
  have hF : sx_fr h L (fun a => a = a1 ∧ h.1 a = 7 ∨ a = b0 ∧ h.1 a = 300) q q := sx_fr.rf
  obtain ⟨hb0, kb0⟩ : b0 ∈ L ∧ h.1 b0 = 300 := by obtain ⟨r9, e9, z1, z2⟩ := hV.ref (t := 300) ha1 ka1 0 rfl (by decide); rw [← eb0, e9]; exact ⟨z1, z2⟩
  obtain ⟨hc0, kc0, lc0⟩ : c0 ∈ L ∧ h.1 c0 = 101 ∧ h.2.1 c0 = 3 := by obtain ⟨r9, e9, z1, z2, z3⟩ := hV.refn (t := 101) (n := 3) ha0 ka0 1 rfl (by decide) rfl (by decide); rw [← ec0, e9]; exact ⟨z1, z2, z3⟩
  obtain ⟨hm0, km0, lm0⟩ : m0 ∈ L ∧ h.1 m0 = 202 ∧ h.2.1 m0 = 15 := by obtain ⟨r9, e9, z1, z2, z3⟩ := hV.refn (t := 202) (n := 15) ha0 ka0 2 rfl (by decide) rfl (by decide); rw [← em0, e9]; exact ⟨z1, z2, z3⟩
  obtain ⟨hw0, kw0, lw0⟩ : w0 ∈ L ∧ h.1 w0 = 103 ∧ h.2.1 w0 = 15 := by obtain ⟨r9, e9, z1, z2, z3⟩ := hV.refn (t := 103) (n := 15) ha0 ka0 4 rfl (by decide) rfl (by decide); rw [← ew0, e9]; exact ⟨z1, z2, z3⟩
  show WA l dC dI h L ({ frames := 2, cells := 0, slots := 0, locals := 46 } : Room) 9 Z q 0 [(0, .ref a0), (1, .ref a1), (2, .int n1), (3, .int n2)] []
  have hu5 := hcc.1
  refine wa_iload_n B dX9_writeTo_0 rfl 3 rfl ?_
  refine wa_istore B [(4, .int n2), (0, .ref a0), (1, .ref a1), (2, .int n1), (3, .int n2)] dX9_writeTo_1 (by decide) rfl ?_
  refine wa_aload_n B dX9_writeTo_3 rfl 1 rfl ?_
  refine wa_getR B (C := RX9) (T := TX9) (N := 7) iq_X9_writeTo_X9 ha0 ka0 (by decide) rfl 1 (by decide) (by decide) (by decide +kernel) rfl (fun _ _ _ => rfl) (v := c0) ec0 dX9_writeTo_4 ?_
  refine wa_iload_n B dX9_writeTo_7 rfl 3 rfl ?_
  refine wa_iaload B hc0 kc0 (by decide) (by decide) (show 0 ≤ n1.toInt by omega) (show n1.toInt < (h.2.1 c0 : Int) by omega) (v := (q.2.2.2.1 c0 (n1 : Int32).toNatClampNeg)) rfl dX9_writeTo_8 ?_
  have g_1 : (0 : Int) ≤ ((q.2.2.2.1 c0 (n1 : Int32).toNatClampNeg)).toInt ∧ ((q.2.2.2.1 c0 (n1 : Int32).toNatClampNeg)).toInt ≤ 5 := hV.cnt hc0 kc0 _
  refine wa_iconst B 1 dX9_writeTo_9 (by decide) ?_
  refine wa_isub B dX9_writeTo_10 (fun v_2 ev_2 => ?_)
  refine wa_istore B [(5, .int v_2), (4, .int n2), (0, .ref a0), (1, .ref a1), (2, .int n1), (3, .int n2)] dX9_writeTo_11 (by decide) rfl ?_
  have Lp_13_10 : ∀ (n : Nat) (v_3 : Int32) (v_4 : Int32) (q_5 : Sg), sx_V h L q_5 → sx_fr h L (fun a => a = a1 ∧ h.1 a = 7 ∨ a = b0 ∧ h.1 a = 300) q q_5 → q_5.2.2.1 a1 0 = b0 → q_5.2.2.1 a0 1 = c0 → q_5.2.2.1 a0 2 = m0 → q_5.2.2.1 a0 4 = w0 → q_5.2.2.2.1 c0 = (q.2.2.2.1 c0) → q_5.2.2.2.1 w0 = (q.2.2.2.1 w0) → q_5.2.2.2.2 m0 = (q.2.2.2.2 m0) → (-1) ≤ v_3.toInt → v_3.toInt < (q.2.2.2.1 c0 n1.toNatClampNeg).toInt → 0 ≤ v_4.toInt → pw_I (fun l => pw_C l (q_5.1 a1 1) (q_5.2.2.2.1 b0)) Wf Xf T9 (v_3.toInt + 1).toNat (v_4.toInt).toNat → (v_3.toInt + 1 : Int).toNat < n → WA l dC dI h L ({ frames := 2, cells := 0, slots := 0, locals := 46 } : Room) 9 Z q_5 13 [(5, .int v_3), (4, .int v_4), (0, .ref a0), (1, .ref a1), (2, .int n1), (3, .int n2)] [] := by
    intro n
    induction n with
    | zero =>
      intro v_3 v_4 q_5 hV_q_5 hF_q_5 p0_q_5 p1_q_5 p2_q_5 p3_q_5 p4_q_5 p5_q_5 p6_q_5 x_6 x_7 x_8 x_9 hn
      exact absurd hn (Nat.not_lt_zero _)
    | succ n ih_11 =>
      intro v_3 v_4 q_5 hV_q_5 hF_q_5 p0_q_5 p1_q_5 p2_q_5 p3_q_5 p4_q_5 p5_q_5 p6_q_5 x_6 x_7 x_8 x_9 hn
      refine wa_iload B dX9_writeTo_13 0 rfl ?_
      refine wa_if_lt B 85 dX9_writeTo_15 (by decide) (fun (t_12 : v_3.toInt < 0) => ?_) (fun (t_12 : ¬ v_3.toInt < 0) => ?_)
      · exact hret _ _ _ dX9_writeTo_85 ⟨hV_q_5, hF_q_5, (by have x9 := x_9; rw [show (v_3.toInt + 1).toNat = 0 by omega] at x9; exact pw_I.e x9)⟩
      · have hI9 : pw_I (fun l => pw_C l (q_5.1 a1 1) (q_5.2.2.2.1 b0)) Wf Xf T9 (v_3.toInt.toNat + 1) v_4.toInt.toNat := by rw [show v_3.toInt.toNat + 1 = (v_3.toInt + 1).toNat by omega]; exact x_9
        obtain ⟨hw1, hw2, hw3, hw4⟩ := hcc.2 v_3.toInt.toNat (by omega)
        refine wa_iload_n B dX9_writeTo_18 rfl 4 rfl ?_
        refine wa_iload B dX9_writeTo_19 0 rfl ?_
        refine wa_callSi B (As := [.int n1, .int v_3]) (rest := []) (k_X9_slot l dC dI h L hN q_5 hV_q_5 n1 v_3  (by first | assumption | omega | decide) (by first | assumption | omega | decide) (by first | assumption | omega | decide) (by first | assumption | omega | decide)) (va_cwS 2 B.1.2.2.2.2 gX9_writeTo_X9_slot rfl rfl rfl (by decide +kernel) ⟨Nat.le_of_ble_eq_true rfl, Nat.le_of_ble_eq_true rfl⟩) rfl rfl (Nat.le_of_ble_eq_true rfl) dX9_writeTo_21 (fun r_14 q_13 w_15 => ?_)
        obtain ⟨ew_15, hw_15⟩ := w_15
        subst ew_15
        have ix9 : (r_14 : Int32).toNatClampNeg = 5 * n1.toNatClampNeg + v_3.toInt.toNat := by have a9 := zx_nc r_14; have a8 := zx_nc n1; omega
        rw [← ix9] at hw1 hw4
        refine wa_istore B [(6, .int r_14), (5, .int v_3), (4, .int v_4), (0, .ref a0), (1, .ref a1), (2, .int n1), (3, .int n2)] dX9_writeTo_24 (by decide) rfl ?_
        refine wa_aload_n B dX9_writeTo_26 rfl 3 rfl ?_
        refine wa_getR B (C := RX9) (T := TX9) (N := 7) iq_X9_writeTo_X9 ha0 ka0 (by decide) rfl 4 (by decide) (by decide) (by decide +kernel) rfl (fun _ _ _ => rfl) (v := w0) p3_q_5 dX9_writeTo_27 ?_
        refine wa_iload B dX9_writeTo_30 0 rfl ?_
        have z_16 : q_5.2.2.2.1 w0 (r_14 : Int32).toNatClampNeg = (q.2.2.2.1 w0 (r_14 : Int32).toNatClampNeg) := congrFun p5_q_5 _
        refine wa_iaload B hw0 kw0 (by decide) (by decide) (show 0 ≤ r_14.toInt by omega) (show r_14.toInt < (h.2.1 w0 : Int) by omega) (v := (q.2.2.2.1 w0 (r_14 : Int32).toNatClampNeg)) z_16 dX9_writeTo_32 ?_
        refine wa_istore B [(7, .int ((q.2.2.2.1 w0 (r_14 : Int32).toNatClampNeg))), (6, .int r_14), (5, .int v_3), (4, .int v_4), (0, .ref a0), (1, .ref a1), (2, .int n1), (3, .int n2)] dX9_writeTo_33 (by decide) rfl ?_
        refine wa_iload B dX9_writeTo_35 0 rfl ?_
        refine wa_if_le B 48 dX9_writeTo_37 (by decide) (fun (t_17 : ((q.2.2.2.1 w0 (r_14 : Int32).toNatClampNeg)).toInt ≤ 0) => ?_) (fun (t_17 : ¬ ((q.2.2.2.1 w0 (r_14 : Int32).toNatClampNeg)).toInt ≤ 0) => ?_)
        · exfalso
          omega
        · refine wa_iload B dX9_writeTo_40 3 rfl ?_
          refine wa_iload B dX9_writeTo_42 0 rfl ?_
          refine wa_idiv B dX9_writeTo_44 (fun z => absurd (show ((q.2.2.2.1 w0 (r_14 : Int32).toNatClampNeg)).toInt = (0 : Int) from zx_eq.mp z) (by omega)) (fun v_18 ev_18 => ?_)
          refine wa_goto B 49 dX9_writeTo_45 (by decide) ?_
          refine wa_istore B [(8, .int v_18), (7, .int ((q.2.2.2.1 w0 (r_14 : Int32).toNatClampNeg))), (6, .int r_14), (5, .int v_3), (4, .int v_4), (0, .ref a0), (1, .ref a1), (2, .int n1), (3, .int n2)] dX9_writeTo_49 (by decide) rfl ?_
          refine wa_iload B dX9_writeTo_51 4 rfl ?_
          refine wa_iload B dX9_writeTo_53 0 rfl ?_
          refine wa_iload B dX9_writeTo_55 1 rfl ?_
          refine wa_imul B dX9_writeTo_57 (fun v_19 ev_19 => ?_)
          refine wa_isub B dX9_writeTo_58 (fun v_20 ev_20 => ?_)
          refine wa_istore B [(4, .int v_20), (8, .int v_18), (7, .int ((q.2.2.2.1 w0 (r_14 : Int32).toNatClampNeg))), (6, .int r_14), (5, .int v_3), (0, .ref a0), (1, .ref a1), (2, .int n1), (3, .int n2)] dX9_writeTo_59 (by decide) rfl ?_
          have hd9 := pw_dm (by omega) hw1 hw2 ev_18
          have hm9 := pw_rm (by omega) hw1 hw2 ev_18 ev_19 ev_20
          refine wa_iload B dX9_writeTo_61 1 rfl ?_
          refine wa_if_le B 79 dX9_writeTo_63 (by decide) (fun (t_21 : v_18.toInt ≤ 0) => ?_) (fun (t_21 : ¬ v_18.toInt ≤ 0) => ?_)
          · obtain ⟨v_22, ev_22⟩ : ∃ z : Int32, z = v_3 + (-1) := ⟨_, rfl⟩
            refine wa_iinc B [(5, .int v_22), (4, .int v_20), (8, .int v_18), (7, .int ((q.2.2.2.1 w0 (r_14 : Int32).toNatClampNeg))), (6, .int r_14), (0, .ref a0), (1, .ref a1), (2, .int n1), (3, .int n2)] v_22 dX9_writeTo_79 4 rfl (by rw [ev_22]; rfl) (by decide) rfl ?_
            refine wa_goto B 13 dX9_writeTo_82 (by decide) ?_
            have tv_22 : v_22.toInt = v_3.toInt + (-1) := by have b0 := zx_bd v_3; rw [ev_22]; exact zx_add (show (-2147483648 : Int) ≤ v_3.toInt + (-1) by omega) (show v_3.toInt + (-1) < (2147483648 : Int) by omega)
            refine WA.sub [0, 1, 5, 6, 7, 8] rfl ?_
            exact ih_11 v_22 v_20 q_5 hV_q_5 hF_q_5 p0_q_5 p1_q_5 p2_q_5 p3_q_5 p4_q_5 p5_q_5 p6_q_5 (show (-1) ≤ v_22.toInt from by first | assumption | omega | decide) (show v_22.toInt < (q.2.2.2.1 c0 n1.toNatClampNeg).toInt from by first | assumption | omega | decide) (show 0 ≤ v_20.toInt from by first | assumption | omega | decide) (show pw_I (fun l => pw_C l (q_5.1 a1 1) (q_5.2.2.2.1 b0)) Wf Xf T9 (v_22.toInt + 1).toNat (v_20.toInt).toNat from by rw [show (v_22.toInt + 1).toNat = v_3.toInt.toNat by omega, hm9.2]; exact pw_I.z hI9 (by rw [← hd9.2]; omega) hw2 hw3) (show (v_22.toInt + 1 : Int).toNat < _ from by omega)
          · obtain ⟨l9, hc1, hc2, hc3, hc4⟩ := hI9
            have hc5 : v_4.toInt.toNat / Wf v_3.toInt.toNat ≤ 99 := hc4 (Nat.succ_pos _)
            rw [← hd9.2] at hc5
            have hx9 := hw4.len
            refine wa_aload_n B dX9_writeTo_66 rfl 6 rfl ?_
            refine wa_iload B dX9_writeTo_67 1 rfl ?_
            refine wa_aload_n B dX9_writeTo_69 rfl 5 rfl ?_
            refine wa_getR B (C := RX9) (T := TX9) (N := 7) iq_X9_writeTo_X9 ha0 ka0 (by decide) rfl 2 (by decide) (by decide) (by decide +kernel) rfl (fun _ _ _ => rfl) (v := m0) p2_q_5 dX9_writeTo_70 ?_
            refine wa_iload B dX9_writeTo_73 3 rfl ?_
            have z_23 : q_5.2.2.2.2 m0 (r_14 : Int32).toNatClampNeg = (q.2.2.2.2 m0 (r_14 : Int32).toNatClampNeg) := congrFun p6_q_5 _
            refine wa_laload B hm0 km0 (by decide) (by decide) (show 0 ≤ r_14.toInt by omega) (show r_14.toInt < (h.2.1 m0 : Int) by omega) (v := (q.2.2.2.2 m0 (r_14 : Int32).toNatClampNeg)) z_23 dX9_writeTo_75 ?_
            refine wa_callSv B (As := [.ref a1, .int v_18, .long ((q.2.2.2.2 m0 (r_14 : Int32).toNatClampNeg))]) (rest := []) (k_X9_writeAmount_c l dC dI h L hN q_5 hV_q_5 (a0 := a1) ha1 ka1 v_18 ((q.2.2.2.2 m0 (r_14 : Int32).toNatClampNeg)) (b0 := b0) p0_q_5 l9 (Xf v_3.toInt.toNat) hw4 hc1 (by first | assumption | omega | decide) (by first | assumption | omega | decide) (by first | assumption | omega | decide)) (va_cwS 3 B.1.2.2.2.2 gX9_writeTo_X9_writeAmount rfl rfl rfl (by decide +kernel) ⟨Nat.le_of_ble_eq_true rfl, Nat.le_of_ble_eq_true rfl⟩) rfl rfl (Nat.le_of_ble_eq_true rfl) dX9_writeTo_76 (fun q_24 w_25 => ?_)
            obtain ⟨hV_q_24, h2_q_24, hw_25⟩ := w_25
            have hF_q_24 : sx_fr h L (fun a => a = a1 ∧ h.1 a = 7 ∨ a = b0 ∧ h.1 a = 300) q q_24 := hF_q_5.tr (h2_q_24.mono (fun a (z : a = a1 ∧ h.1 a = 7 ∨ a = b0 ∧ h.1 a = 300) => ((fun z => z.elim (fun z => (Or.inl z)) (fun z => (Or.inr z))) z)))
            obtain ⟨v_26, ev_26⟩ : ∃ z : Int32, z = v_3 + (-1) := ⟨_, rfl⟩
            refine wa_iinc B [(5, .int v_26), (4, .int v_20), (8, .int v_18), (7, .int ((q.2.2.2.1 w0 (r_14 : Int32).toNatClampNeg))), (6, .int r_14), (0, .ref a0), (1, .ref a1), (2, .int n1), (3, .int n2)] v_26 dX9_writeTo_79 4 rfl (by rw [ev_26]; rfl) (by decide) rfl ?_
            refine wa_goto B 13 dX9_writeTo_82 (by decide) ?_
            have tv_26 : v_26.toInt = v_3.toInt + (-1) := by have b0 := zx_bd v_3; rw [ev_26]; exact zx_add (show (-2147483648 : Int) ≤ v_3.toInt + (-1) by omega) (show v_3.toInt + (-1) < (2147483648 : Int) by omega)
            have z_27 : q_24.2.2.1 a1 0 = b0 := (h2_q_24.R ha1 (fun z9 => absurd z9.2 (by omega)) 0).trans (p0_q_5)
            have z_28 : q_24.2.2.1 a0 1 = c0 := (h2_q_24.R ha0 (fun z9 => absurd z9.2 (by omega)) 1).trans (p1_q_5)
            have z_29 : q_24.2.2.1 a0 2 = m0 := (h2_q_24.R ha0 (fun z9 => absurd z9.2 (by omega)) 2).trans (p2_q_5)
            have z_30 : q_24.2.2.1 a0 4 = w0 := (h2_q_24.R ha0 (fun z9 => absurd z9.2 (by omega)) 4).trans (p3_q_5)
            have z_31 : q_24.2.2.2.1 c0 = (q.2.2.2.1 c0) := (h2_q_24.G hc0 (show ¬ (c0 = a1 ∧ h.1 c0 = 7 ∨ c0 = b0 ∧ h.1 c0 = 300) from (fun z => z.elim (fun z => absurd (z.2.symm.trans kc0) (by decide)) (fun z => absurd (z.2.symm.trans kc0) (by decide)))) (by rw [kc0]; decide)).trans (p4_q_5)
            have z_32 : q_24.2.2.2.1 w0 = (q.2.2.2.1 w0) := (h2_q_24.G hw0 (show ¬ (w0 = a1 ∧ h.1 w0 = 7 ∨ w0 = b0 ∧ h.1 w0 = 300) from (fun z => z.elim (fun z => absurd (z.2.symm.trans kw0) (by decide)) (fun z => absurd (z.2.symm.trans kw0) (by decide)))) (by rw [kw0]; decide)).trans (p5_q_5)
            have z_33 : q_24.2.2.2.2 m0 = (q.2.2.2.2 m0) := (h2_q_24.Lg hm0 (show ¬ (m0 = a1 ∧ h.1 m0 = 7 ∨ m0 = b0 ∧ h.1 m0 = 300) from (fun z => z.elim (fun z => absurd (z.2.symm.trans km0) (by decide)) (fun z => absurd (z.2.symm.trans km0) (by decide)))) (by rw [km0]; decide)).trans (p6_q_5)
            refine WA.sub [0, 1, 5, 6, 7, 8] rfl ?_
            exact ih_11 v_26 v_20 q_24 hV_q_24 hF_q_24 z_27 z_28 z_29 z_30 z_31 z_32 z_33 (show (-1) ≤ v_26.toInt from by first | assumption | omega | decide) (show v_26.toInt < (q.2.2.2.1 c0 n1.toNatClampNeg).toInt from by first | assumption | omega | decide) (show 0 ≤ v_20.toInt from by first | assumption | omega | decide) (show pw_I (fun l => pw_C l (q_24.1 a1 1) (q_24.2.2.2.1 b0)) Wf Xf T9 (v_26.toInt + 1).toNat (v_20.toInt).toNat from by rw [show (v_26.toInt + 1).toNat = v_3.toInt.toNat by omega, hm9.2]; exact pw_I.s hc2 hc3 (by rw [← hd9.2]; exact hw_25) (by rw [← hd9.2]; omega) hx9 hw2 hw3) (show (v_26.toInt + 1 : Int).toNat < _ from by omega)
  have tv_2 : v_2.toInt = ((q.2.2.2.1 c0 (n1 : Int32).toNatClampNeg)).toInt - 1 := by have b0 := zx_bd ((q.2.2.2.1 c0 (n1 : Int32).toNatClampNeg)); rw [ev_2]; exact zx_sub (show (-2147483648 : Int) ≤ ((q.2.2.2.1 c0 (n1 : Int32).toNatClampNeg)).toInt - 1 by omega) (show ((q.2.2.2.1 c0 (n1 : Int32).toNatClampNeg)).toInt - 1 < (2147483648 : Int) by omega)
  exact Lp_13_10 _ v_2 n2 q hV hF eb0 ec0 em0 ew0 rfl rfl rfl (show (-1) ≤ v_2.toInt from by first | assumption | omega | decide) (show v_2.toInt < (q.2.2.2.1 c0 n1.toNatClampNeg).toInt from by first | assumption | omega | decide) (show 0 ≤ n2.toInt from by first | assumption | omega | decide) (show pw_I (fun l => pw_C l (q.1 a1 1) (q.2.2.2.1 b0)) Wf Xf T9 (v_2.toInt + 1).toNat (n2.toInt).toNat from by rw [show (v_2.toInt + 1).toNat = (q.2.2.2.1 c0 n1.toNatClampNeg).toInt.toNat by omega]; exact pw_I.b hC (by omega) hT9 (fun _ => h99)) (Nat.lt_succ_self _)
