set_option maxHeartbeats 4000000 in
set_option maxRecDepth 100000 in
theorem k_J7_fill_53178_c (l : Launch) (dC : Nat → ClassId) (dI : Nat → Nat → Nat) (h : Sh) (L : List Nat) (hN : sx_nd L) (q : Sg) (hV : sx_V h L q) {a0 : Nat} (ha0 : a0 ∈ L) {Ka0 : Nat} (ka0 : h.1 a0 = Ka0) (n1 : Int32)   (h1K : 13 ≤ Ka0) (h2K : Ka0 < 200) (hE : sx_E Ka0 n1) : CMv l dC dI h L yJ7_fill_53178 wsJ7_fill_53178 ({ frames := 0, cells := 0, slots := 0, locals := 0 } : Room) q [.ref a0, .int n1] (fun q' => sx_V h L q' ∧ sx_fr h L (fun a => a = a0 ∧ h.1 a = Ka0 ∧ ¬ Ka0 = 100) q q' ∧ (∀ j : Nat, j < h.2.1 a0 → q'.2.2.2.1 a0 j = n1)) := by
  refine cm_v (cc := cJ7_fill_53178) (mL := 4) (own := RJ7) hN (by decide) rfl rfl (Nat.le_of_ble_eq_true rfl) (fun Z B hret => ?_)
  have hF : sx_fr h L (fun a => a = a0 ∧ h.1 a = Ka0 ∧ ¬ Ka0 = 100) q q := sx_fr.rf
  show WA l dC dI h L ({ frames := 0, cells := 0, slots := 0, locals := 0 } : Room) 4 Z q 0 [(0, .ref a0), (1, .int n1)] []
  refine wa_iconst B 0 dJ7_fill_53178_0 (by decide) ?_
  refine wa_istore_n B [(2, .int 0), (0, .ref a0), (1, .int n1)] dJ7_fill_53178_1 rfl (by decide) rfl ?_
  refine wa_aload_n B dJ7_fill_53178_2 rfl 1 rfl ?_
  refine wa_alenI B ha0 ka0 h1K h2K dJ7_fill_53178_3 (fun v_1 ev_1 => ?_)
  have gv_1 : v_1.toInt = (h.2.1 a0 : Int) := by rw [ev_1]; exact zx_len (hV.len ha0)
  have l_2 : h.2.1 a0 ≤ 5000 := hV.len ha0
  refine wa_istore_n B [(3, .int v_1), (2, .int 0), (0, .ref a0), (1, .int n1)] dJ7_fill_53178_4 rfl (by decide) rfl ?_
  have Lp_5_7 : ∀ (n : Nat) (v_3 : Int32) (q_4 : Sg), sx_V h L q_4 → sx_fr h L (fun a => a = a0 ∧ h.1 a = Ka0 ∧ ¬ Ka0 = 100) q q_4 → 0 ≤ v_3.toInt → (∀ j : Nat, (j : Int) < v_3.toInt → q_4.2.2.2.1 a0 j = n1) → (v_1.toInt - v_3.toInt : Int).toNat < n → WA l dC dI h L ({ frames := 0, cells := 0, slots := 0, locals := 0 } : Room) 4 Z q_4 5 [(3, .int v_1), (2, .int v_3), (0, .ref a0), (1, .int n1)] [] := by
    intro n
    induction n with
    | zero =>
      intro v_3 q_4 hV_q_4 hF_q_4 x_5 x_6 hn
      exact absurd hn (Nat.not_lt_zero _)
    | succ n ih_8 =>
      intro v_3 q_4 hV_q_4 hF_q_4 x_5 x_6 hn
      refine wa_iload_n B dJ7_fill_53178_5 rfl 1 rfl ?_
      refine wa_iload_n B dJ7_fill_53178_6 rfl 0 rfl ?_
      refine wa_icmp_ge B 20 dJ7_fill_53178_7 (by decide) (fun (t_9 : v_1.toInt ≤ v_3.toInt) => ?_) (fun (t_9 : ¬ v_1.toInt ≤ v_3.toInt) => ?_)
      · exact hret _ _ _ dJ7_fill_53178_20 ⟨hV_q_4, hF_q_4, (fun j hj => x_6 j (by omega))⟩
      · refine wa_aload_n B dJ7_fill_53178_10 rfl 2 rfl ?_
        refine wa_iload_n B dJ7_fill_53178_11 rfl 1 rfl ?_
        refine wa_iload_n B dJ7_fill_53178_12 rfl 3 rfl ?_
        refine wa_iastore B ha0 ka0 h1K h2K (show 0 ≤ v_3.toInt by omega) (show v_3.toInt < (h.2.1 a0 : Int) by omega) dJ7_fill_53178_13 (fun q_10 eq_10 => ?_)
        have hV_q_10 : sx_V h L q_10 := by rw [eq_10]; exact hV_q_4.up1 ha0 ka0 (by assumption)
        have hF_q_10 : sx_fr h L (fun a => a = a0 ∧ h.1 a = Ka0 ∧ ¬ Ka0 = 100) q q_10 := hF_q_4.tr (by rw [eq_10]; exact sx_fr.pG (show h.1 a0 = 100 ∨ (a0 = a0 ∧ h.1 a0 = Ka0 ∧ ¬ Ka0 = 100) from by omega))
        have z_11 : q_10.2.2.2.1 a0 (v_3 : Int32).toNatClampNeg = n1 := by rw [eq_10, sg_pG_e]; exact if_pos rfl
        obtain ⟨v_12, ev_12⟩ : ∃ z : Int32, z = v_3 + 1 := ⟨_, rfl⟩
        refine wa_iinc B [(2, .int v_12), (3, .int v_1), (0, .ref a0), (1, .int n1)] v_12 dJ7_fill_53178_14 1 rfl (by rw [ev_12]; rfl) (by decide) rfl ?_
        refine wa_goto B 5 dJ7_fill_53178_17 (by decide) ?_
        have tv_12 : v_12.toInt = v_3.toInt + 1 := by have b0 := zx_bd v_3; rw [ev_12]; exact zx_add (show (-2147483648 : Int) ≤ v_3.toInt + 1 by omega) (show v_3.toInt + 1 < (2147483648 : Int) by omega)
        refine WA.sub [1, 0, 2, 3] rfl ?_
        exact ih_8 v_12 q_10 hV_q_10 hF_q_10 (show 0 ≤ v_12.toInt from by first | assumption | omega | decide) (show ∀ j : Nat, (j : Int) < v_12.toInt → q_10.2.2.2.1 a0 j = n1 from by intro j hj; have a9 := zx_nc v_3; by_cases z9 : j = (v_3 : Int32).toNatClampNeg; (rw [eq_10, sg_pG_e, z9]; exact if_pos rfl); (rw [eq_10, sg_pG_e]; exact (if_neg z9).trans (x_6 j (by omega)))) (show (v_1.toInt - v_12.toInt : Int).toNat < _ from by omega)
  exact Lp_5_7 _ 0 q hV hF (show 0 ≤ 0 from by first | assumption | omega | decide) (show ∀ j : Nat, (j : Int) < 0 → q.2.2.2.1 a0 j = n1 from by intro j hj; exact absurd hj (show ¬ ((j : Int) < 0) from by omega)) (Nat.lt_succ_self _)
set_option maxHeartbeats 4000000 in
set_option maxRecDepth 100000 in
theorem k_J7_fill_d0a16_c (l : Launch) (dC : Nat → ClassId) (dI : Nat → Nat → Nat) (h : Sh) (L : List Nat) (hN : sx_nd L) (q : Sg) (hV : sx_V h L q) {a0 : Nat} (ha0 : a0 ∈ L) {Ka0 : Nat} (ka0 : h.1 a0 = Ka0) (n1 : Int64)   (h1K : 200 ≤ Ka0) (h2K : Ka0 < 300) : CMv l dC dI h L yJ7_fill_d0a16 wsJ7_fill_d0a16 ({ frames := 0, cells := 0, slots := 0, locals := 0 } : Room) q [.ref a0, .long n1] (fun q' => sx_V h L q' ∧ sx_fr h L (fun a => a = a0 ∧ h.1 a = Ka0) q q' ∧ (∀ j : Nat, j < h.2.1 a0 → q'.2.2.2.2 a0 j = n1)) := by
  refine cm_v (cc := cJ7_fill_d0a16) (mL := 5) (own := RJ7) hN (by decide) rfl rfl (Nat.le_of_ble_eq_true rfl) (fun Z B hret => ?_)
  have hF : sx_fr h L (fun a => a = a0 ∧ h.1 a = Ka0) q q := sx_fr.rf
  show WA l dC dI h L ({ frames := 0, cells := 0, slots := 0, locals := 0 } : Room) 5 Z q 0 [(0, .ref a0), (1, .long n1)] []
  refine wa_iconst B 0 dJ7_fill_d0a16_0 (by decide) ?_
  refine wa_istore_n B [(3, .int 0), (0, .ref a0), (1, .long n1)] dJ7_fill_d0a16_1 rfl (by decide) rfl ?_
  refine wa_aload_n B dJ7_fill_d0a16_2 rfl 1 rfl ?_
  refine wa_alenL B ha0 ka0 h1K h2K dJ7_fill_d0a16_3 (fun v_1 ev_1 => ?_)
  have gv_1 : v_1.toInt = (h.2.1 a0 : Int) := by rw [ev_1]; exact zx_len (hV.len ha0)
  have l_2 : h.2.1 a0 ≤ 5000 := hV.len ha0
  refine wa_istore B [(4, .int v_1), (3, .int 0), (0, .ref a0), (1, .long n1)] dJ7_fill_d0a16_4 (by decide) rfl ?_
  have Lp_6_7 : ∀ (n : Nat) (v_3 : Int32) (q_4 : Sg), sx_V h L q_4 → sx_fr h L (fun a => a = a0 ∧ h.1 a = Ka0) q q_4 → 0 ≤ v_3.toInt → (∀ j : Nat, (j : Int) < v_3.toInt → q_4.2.2.2.2 a0 j = n1) → (v_1.toInt - v_3.toInt : Int).toNat < n → WA l dC dI h L ({ frames := 0, cells := 0, slots := 0, locals := 0 } : Room) 5 Z q_4 6 [(4, .int v_1), (3, .int v_3), (0, .ref a0), (1, .long n1)] [] := by
    intro n
    induction n with
    | zero =>
      intro v_3 q_4 hV_q_4 hF_q_4 x_5 x_6 hn
      exact absurd hn (Nat.not_lt_zero _)
    | succ n ih_8 =>
      intro v_3 q_4 hV_q_4 hF_q_4 x_5 x_6 hn
      refine wa_iload_n B dJ7_fill_d0a16_6 rfl 1 rfl ?_
      refine wa_iload B dJ7_fill_d0a16_7 0 rfl ?_
      refine wa_icmp_ge B 22 dJ7_fill_d0a16_9 (by decide) (fun (t_9 : v_1.toInt ≤ v_3.toInt) => ?_) (fun (t_9 : ¬ v_1.toInt ≤ v_3.toInt) => ?_)
      · exact hret _ _ _ dJ7_fill_d0a16_22 ⟨hV_q_4, hF_q_4, (fun j hj => x_6 j (by omega))⟩
      · refine wa_aload_n B dJ7_fill_d0a16_12 rfl 2 rfl ?_
        refine wa_iload_n B dJ7_fill_d0a16_13 rfl 1 rfl ?_
        refine wa_lload_n B dJ7_fill_d0a16_14 rfl 3 rfl ?_
        refine wa_lastore B ha0 ka0 h1K h2K (show 0 ≤ v_3.toInt by omega) (show v_3.toInt < (h.2.1 a0 : Int) by omega) dJ7_fill_d0a16_15 (fun q_10 eq_10 => ?_)
        have hV_q_10 : sx_V h L q_10 := by rw [eq_10]; exact hV_q_4.pL
        have hF_q_10 : sx_fr h L (fun a => a = a0 ∧ h.1 a = Ka0) q q_10 := hF_q_4.tr (by rw [eq_10]; exact sx_fr.pL (show h.1 a0 = 200 ∨ (a0 = a0 ∧ h.1 a0 = Ka0) from by omega))
        have z_11 : q_10.2.2.2.2 a0 (v_3 : Int32).toNatClampNeg = n1 := by rw [eq_10, sg_pL_e]; exact if_pos rfl
        obtain ⟨v_12, ev_12⟩ : ∃ z : Int32, z = v_3 + 1 := ⟨_, rfl⟩
        refine wa_iinc B [(3, .int v_12), (4, .int v_1), (0, .ref a0), (1, .long n1)] v_12 dJ7_fill_d0a16_16 1 rfl (by rw [ev_12]; rfl) (by decide) rfl ?_
        refine wa_goto B 6 dJ7_fill_d0a16_19 (by decide) ?_
        have tv_12 : v_12.toInt = v_3.toInt + 1 := by have b0 := zx_bd v_3; rw [ev_12]; exact zx_add (show (-2147483648 : Int) ≤ v_3.toInt + 1 by omega) (show v_3.toInt + 1 < (2147483648 : Int) by omega)
        refine WA.sub [1, 0, 2, 3] rfl ?_
        exact ih_8 v_12 q_10 hV_q_10 hF_q_10 (show 0 ≤ v_12.toInt from by first | assumption | omega | decide) (show ∀ j : Nat, (j : Int) < v_12.toInt → q_10.2.2.2.2 a0 j = n1 from by intro j hj; have a9 := zx_nc v_3; by_cases z9 : j = (v_3 : Int32).toNatClampNeg; (rw [eq_10, sg_pL_e, z9]; exact if_pos rfl); (rw [eq_10, sg_pL_e]; exact (if_neg z9).trans (x_6 j (by omega)))) (show (v_1.toInt - v_12.toInt : Int).toNat < _ from by omega)
  exact Lp_6_7 _ 0 q hV hF (show 0 ≤ 0 from by first | assumption | omega | decide) (show ∀ j : Nat, (j : Int) < 0 → q.2.2.2.2 a0 j = n1 from by intro j hj; exact absurd hj (show ¬ ((j : Int) < 0) from by omega)) (Nat.lt_succ_self _)
set_option maxHeartbeats 4000000 in
set_option maxRecDepth 100000 in
theorem k_X9_clear_c (l : Launch) (dC : Nat → ClassId) (dI : Nat → Nat → Nat) (h : Sh) (L : List Nat) (hN : sx_nd L) (q : Sg) (hV : sx_V h L q) {a0 : Nat} (ha0 : a0 ∈ L) (ka0 : h.1 a0 = 9) {s0 : Nat} (es0 : q.2.2.1 a0 0 = s0) {c0 : Nat} (ec0 : q.2.2.1 a0 1 = c0) {m0 : Nat} (em0 : q.2.2.1 a0 2 = m0)    : CMv l dC dI h L yX9_clear wsX9_clear ({ frames := 1, cells := 0, slots := 0, locals := 24 } : Room) q [.ref a0] (fun q' => sx_V h L q' ∧ sx_fr h L (fun a => a = a0 ∧ h.1 a = 9 ∨ a = s0 ∧ h.1 a = 201 ∨ a = c0 ∧ h.1 a = 101 ∨ a = m0 ∧ h.1 a = 202) q q' ∧ ((q'.1 a0 6).toInt = 0 ∧ (∀ j : Nat, j < 3 → q'.2.2.2.2 s0 j = 0) ∧ (∀ j : Nat, j < 3 → q'.2.2.2.1 c0 j = 0) ∧ (∀ j : Nat, j < 15 → q'.2.2.2.2 m0 j = 0))) := by
  refine cm_v (cc := cX9_clear) (mL := 1) (own := RX9) hN (by decide) rfl rfl (Nat.le_of_ble_eq_true rfl) (fun Z B hret => ?_)
  have hF : sx_fr h L (fun a => a = a0 ∧ h.1 a = 9 ∨ a = s0 ∧ h.1 a = 201 ∨ a = c0 ∧ h.1 a = 101 ∨ a = m0 ∧ h.1 a = 202) q q := sx_fr.rf
  obtain ⟨hs0, ks0, ls0⟩ : s0 ∈ L ∧ h.1 s0 = 201 ∧ h.2.1 s0 = 3 := by obtain ⟨r9, e9, z1, z2, z3⟩ := hV.refn (t := 201) (n := 3) ha0 ka0 0 rfl (by decide) rfl (by decide); rw [← es0, e9]; exact ⟨z1, z2, z3⟩
  obtain ⟨hc0, kc0, lc0⟩ : c0 ∈ L ∧ h.1 c0 = 101 ∧ h.2.1 c0 = 3 := by obtain ⟨r9, e9, z1, z2, z3⟩ := hV.refn (t := 101) (n := 3) ha0 ka0 1 rfl (by decide) rfl (by decide); rw [← ec0, e9]; exact ⟨z1, z2, z3⟩
  obtain ⟨hm0, km0, lm0⟩ : m0 ∈ L ∧ h.1 m0 = 202 ∧ h.2.1 m0 = 15 := by obtain ⟨r9, e9, z1, z2, z3⟩ := hV.refn (t := 202) (n := 15) ha0 ka0 2 rfl (by decide) rfl (by decide); rw [← em0, e9]; exact ⟨z1, z2, z3⟩
  show WA l dC dI h L ({ frames := 1, cells := 0, slots := 0, locals := 24 } : Room) 1 Z q 0 [(0, .ref a0)] []
  refine wa_aload_n B dX9_clear_0 rfl 0 rfl ?_
  refine wa_iconst B 0 dX9_clear_1 (by decide) ?_
  refine wa_putI B (C := RX9) (T := TX9) (N := 7) iq_X9_clear_X9 ha0 ka0 (by decide) rfl 6 (by decide) (by decide) (by decide +kernel) rfl (by decide) (v := 0) (ty := .int) tyX9 tyX9_ok nmX9 rfl (by decide +kernel) rfl rfl dX9_clear_2 (fun q_1 eq_1 => ?_)
  have hV_q_1 : sx_V h L q_1 := by rw [eq_1]; exact hV.pI ka0 (show sx_in 0 (0) 3 from ⟨by decide, by decide⟩)
  have hF_q_1 : sx_fr h L (fun a => a = a0 ∧ h.1 a = 9 ∨ a = s0 ∧ h.1 a = 201 ∨ a = c0 ∧ h.1 a = 101 ∨ a = m0 ∧ h.1 a = 202) q q_1 := hF.tr (by rw [eq_1]; exact sx_fr.pI (show a0 = a0 ∧ h.1 a0 = 9 ∨ a0 = s0 ∧ h.1 a0 = 201 ∨ a0 = c0 ∧ h.1 a0 = 101 ∨ a0 = m0 ∧ h.1 a0 = 202 from by omega))
  have z_2 : q_1.1 a0 6 = 0 := by rw [eq_1]; exact sg_pI_e
  refine wa_aload_n B dX9_clear_5 rfl 0 rfl ?_
  have z_3 : q_1.2.2.1 a0 0 = s0 := ((show q_1.2.2.1 a0 0 = q.2.2.1 a0 0 from by rw [eq_1]; rfl)).trans (es0)
  refine wa_getR B (C := RX9) (T := TX9) (N := 7) iq_X9_clear_X9 ha0 ka0 (by decide) rfl 0 (by decide) (by decide) (by decide +kernel) rfl (fun _ _ _ => rfl) (v := s0) z_3 dX9_clear_6 ?_
  refine wa_lconst B 0 dX9_clear_9 (by decide) ?_
  refine wa_callSv B (As := [.ref s0, .long 0]) (rest := []) (k_J7_fill_d0a16_c l dC dI h L hN q_1 hV_q_1 (a0 := s0) hs0 ks0 0  (by first | assumption | omega | decide) (by first | assumption | omega | decide)) (va_cwS 2 B.1.2.2.2.2 gX9_clear_J7_fill_d0a16 rfl rfl rfl (by decide +kernel) ⟨Nat.le_of_ble_eq_true rfl, Nat.le_of_ble_eq_true rfl⟩) rfl rfl (Nat.le_of_ble_eq_true rfl) dX9_clear_10 (fun q_4 w_5 => ?_)
  obtain ⟨hV_q_4, h2_q_4, hw_5⟩ := w_5
  have hF_q_4 : sx_fr h L (fun a => a = a0 ∧ h.1 a = 9 ∨ a = s0 ∧ h.1 a = 201 ∨ a = c0 ∧ h.1 a = 101 ∨ a = m0 ∧ h.1 a = 202) q q_4 := hF_q_1.tr (h2_q_4.mono (fun a (z : a = s0 ∧ h.1 a = 201) => (show a = a0 ∧ h.1 a = 9 ∨ a = s0 ∧ h.1 a = 201 ∨ a = c0 ∧ h.1 a = 101 ∨ a = m0 ∧ h.1 a = 202 from by omega)))
  refine wa_aload_n B dX9_clear_13 rfl 0 rfl ?_
  have z_6 : q_4.2.2.1 a0 1 = c0 := (h2_q_4.R ha0 (fun z9 => absurd z9.2 (by omega)) 1).trans (((show q_1.2.2.1 a0 1 = q.2.2.1 a0 1 from by rw [eq_1]; rfl)).trans (ec0))
  refine wa_getR B (C := RX9) (T := TX9) (N := 7) iq_X9_clear_X9 ha0 ka0 (by decide) rfl 1 (by decide) (by decide) (by decide +kernel) rfl (fun _ _ _ => rfl) (v := c0) z_6 dX9_clear_14 ?_
  refine wa_iconst B 0 dX9_clear_17 (by decide) ?_
  refine wa_callSv B (As := [.ref c0, .int 0]) (rest := []) (k_J7_fill_53178_c l dC dI h L hN q_4 hV_q_4 (a0 := c0) hc0 kc0 0  (by first | assumption | omega | decide) (by first | assumption | omega | decide) (show sx_E 101 0 from ⟨by decide, by decide⟩)) (va_cwS 2 B.1.2.2.2.2 gX9_clear_J7_fill_53178 rfl rfl rfl (by decide +kernel) ⟨Nat.le_of_ble_eq_true rfl, Nat.le_of_ble_eq_true rfl⟩) rfl rfl (Nat.le_of_ble_eq_true rfl) dX9_clear_18 (fun q_7 w_8 => ?_)
  obtain ⟨hV_q_7, h2_q_7, hw_8⟩ := w_8
  have hF_q_7 : sx_fr h L (fun a => a = a0 ∧ h.1 a = 9 ∨ a = s0 ∧ h.1 a = 201 ∨ a = c0 ∧ h.1 a = 101 ∨ a = m0 ∧ h.1 a = 202) q q_7 := hF_q_4.tr (h2_q_7.mono (fun a (z : a = c0 ∧ h.1 a = 101 ∧ ¬ 101 = 100) => (show a = a0 ∧ h.1 a = 9 ∨ a = s0 ∧ h.1 a = 201 ∨ a = c0 ∧ h.1 a = 101 ∨ a = m0 ∧ h.1 a = 202 from by omega)))
  refine wa_aload_n B dX9_clear_21 rfl 0 rfl ?_
  have z_9 : q_7.2.2.1 a0 2 = m0 := (h2_q_7.R ha0 (fun z9 => absurd z9.2 (by omega)) 2).trans ((h2_q_4.R ha0 (fun z9 => absurd z9.2 (by omega)) 2).trans (((show q_1.2.2.1 a0 2 = q.2.2.1 a0 2 from by rw [eq_1]; rfl)).trans (em0)))
  refine wa_getR B (C := RX9) (T := TX9) (N := 7) iq_X9_clear_X9 ha0 ka0 (by decide) rfl 2 (by decide) (by decide) (by decide +kernel) rfl (fun _ _ _ => rfl) (v := m0) z_9 dX9_clear_22 ?_
  refine wa_lconst B 0 dX9_clear_25 (by decide) ?_
  refine wa_callSv B (As := [.ref m0, .long 0]) (rest := []) (k_J7_fill_d0a16_c l dC dI h L hN q_7 hV_q_7 (a0 := m0) hm0 km0 0  (by first | assumption | omega | decide) (by first | assumption | omega | decide)) (va_cwS 2 B.1.2.2.2.2 gX9_clear_J7_fill_d0a16 rfl rfl rfl (by decide +kernel) ⟨Nat.le_of_ble_eq_true rfl, Nat.le_of_ble_eq_true rfl⟩) rfl rfl (Nat.le_of_ble_eq_true rfl) dX9_clear_26 (fun q_10 w_11 => ?_)
  obtain ⟨hV_q_10, h2_q_10, hw_11⟩ := w_11
  have hF_q_10 : sx_fr h L (fun a => a = a0 ∧ h.1 a = 9 ∨ a = s0 ∧ h.1 a = 201 ∨ a = c0 ∧ h.1 a = 101 ∨ a = m0 ∧ h.1 a = 202) q q_10 := hF_q_7.tr (h2_q_10.mono (fun a (z : a = m0 ∧ h.1 a = 202) => (show a = a0 ∧ h.1 a = 9 ∨ a = s0 ∧ h.1 a = 201 ∨ a = c0 ∧ h.1 a = 101 ∨ a = m0 ∧ h.1 a = 202 from by omega)))
  have z_12 : q_10.1 a0 6 = 0 := (h2_q_10.I ha0 (show ¬ (a0 = m0 ∧ h.1 a0 = 202) from by omega) 6).trans ((h2_q_7.I ha0 (show ¬ (a0 = c0 ∧ h.1 a0 = 101 ∧ ¬ 101 = 100) from by omega) 6).trans ((h2_q_4.I ha0 (show ¬ (a0 = s0 ∧ h.1 a0 = 201) from by omega) 6).trans (z_2)))
  have y_13 : (q_10.1 a0 6).toInt = 0 := by rw [z_12]; rfl
  have z_14 : q_10.2.2.2.2 s0 = q_4.2.2.2.2 s0 := (h2_q_10.Lg hs0 (show ¬ (s0 = m0 ∧ h.1 s0 = 202) from by omega) (by rw [ks0]; decide)).trans (h2_q_7.Lg hs0 (show ¬ (s0 = c0 ∧ h.1 s0 = 101 ∧ ¬ 101 = 100) from by omega) (by rw [ks0]; decide))
  have z_15 : q_10.2.2.2.1 c0 = q_7.2.2.2.1 c0 := h2_q_10.G hc0 (show ¬ (c0 = m0 ∧ h.1 c0 = 202) from by omega) (by rw [kc0]; decide)
  exact hret _ _ _ dX9_clear_29 ⟨hV_q_10, hF_q_10, ⟨by rw [z_12]; rfl, fun j hj => by rw [z_14]; exact hw_5 j (by omega), fun j hj => by rw [z_15]; exact hw_8 j (by omega), fun j hj => by exact hw_11 j (by omega)⟩⟩
set_option maxHeartbeats 4000000 in
set_option maxRecDepth 100000 in
theorem k_X9_addSystem_c (l : Launch) (dC : Nat → ClassId) (dI : Nat → Nat → Nat) (h : Sh) (L : List Nat) (hN : sx_nd L) (q : Sg) (hV : sx_V h L q) {a0 : Nat} (ha0 : a0 ∈ L) (ka0 : h.1 a0 = 9) (n1 : Int64) {s0 : Nat} (es0 : q.2.2.1 a0 0 = s0)   (hy0 : (q.1 a0 6).toInt < 3) : CMv l dC dI h L yX9_addSystem wsX9_addSystem ({ frames := 0, cells := 0, slots := 0, locals := 0 } : Room) q [.ref a0, .long n1] (fun q' => sx_V h L q' ∧ sx_fr h L (fun a => a = a0 ∧ h.1 a = 9 ∨ a = s0 ∧ h.1 a = 201) q q' ∧ ((q'.1 a0 6).toInt = (q.1 a0 6).toInt + 1 ∧ q'.2.2.2.2 s0 = vp_updL (q.2.2.2.2 s0) (q.1 a0 6).toNatClampNeg n1)) := by
  refine cm_v (cc := cX9_addSystem) (mL := 3) (own := RX9) hN (by decide) rfl rfl (Nat.le_of_ble_eq_true rfl) (fun Z B hret => ?_)
  have hF : sx_fr h L (fun a => a = a0 ∧ h.1 a = 9 ∨ a = s0 ∧ h.1 a = 201) q q := sx_fr.rf
  obtain ⟨hs0, ks0, ls0⟩ : s0 ∈ L ∧ h.1 s0 = 201 ∧ h.2.1 s0 = 3 := by obtain ⟨r9, e9, z1, z2, z3⟩ := hV.refn (t := 201) (n := 3) ha0 ka0 0 rfl (by decide) rfl (by decide); rw [← es0, e9]; exact ⟨z1, z2, z3⟩
  show WA l dC dI h L ({ frames := 0, cells := 0, slots := 0, locals := 0 } : Room) 3 Z q 0 [(0, .ref a0), (1, .long n1)] []
  refine wa_aload_n B dX9_addSystem_0 rfl 0 rfl ?_
  refine wa_getI B (C := RX9) (T := TX9) (N := 7) iq_X9_addSystem_X9 ha0 ka0 (by decide) rfl 6 (by decide) (by decide) (by decide +kernel) rfl (by decide) (v := (q.1 a0 6)) rfl dX9_addSystem_1 ?_
  have g_1 : (0 : Int) ≤ (q.1 a0 6).toInt ∧ (q.1 a0 6).toInt ≤ 3 := hV.int ha0 ka0 6
  refine wa_iconst B 3 dX9_addSystem_4 (by decide) ?_
  refine wa_icmp_ge B 28 dX9_addSystem_5 (by decide) (fun (t_2 : 3 ≤ (q.1 a0 6).toInt) => ?_) (fun (t_2 : ¬ 3 ≤ (q.1 a0 6).toInt) => ?_)
  · exact hret _ _ _ dX9_addSystem_28 ⟨hV, hF, ⟨by omega, by exfalso; omega⟩⟩
  · refine wa_aload_n B dX9_addSystem_8 rfl 0 rfl ?_
    refine wa_getR B (C := RX9) (T := TX9) (N := 7) iq_X9_addSystem_X9 ha0 ka0 (by decide) rfl 0 (by decide) (by decide) (by decide +kernel) rfl (fun _ _ _ => rfl) (v := s0) es0 dX9_addSystem_9 ?_
    refine wa_aload_n B dX9_addSystem_12 rfl 0 rfl ?_
    refine wa_getI B (C := RX9) (T := TX9) (N := 7) iq_X9_addSystem_X9 ha0 ka0 (by decide) rfl 6 (by decide) (by decide) (by decide +kernel) rfl (by decide) (v := (q.1 a0 6)) rfl dX9_addSystem_13 ?_
    refine wa_lload_n B dX9_addSystem_16 rfl 1 rfl ?_
    refine wa_lastore B hs0 ks0 (by decide) (by decide) (show 0 ≤ (q.1 a0 6).toInt by omega) (show (q.1 a0 6).toInt < (h.2.1 s0 : Int) by omega) dX9_addSystem_17 (fun q_3 eq_3 => ?_)
    have hV_q_3 : sx_V h L q_3 := by rw [eq_3]; exact hV.pL
    have hF_q_3 : sx_fr h L (fun a => a = a0 ∧ h.1 a = 9 ∨ a = s0 ∧ h.1 a = 201) q q_3 := hF.tr (by rw [eq_3]; exact sx_fr.pL (show h.1 s0 = 200 ∨ (s0 = a0 ∧ h.1 s0 = 9 ∨ s0 = s0 ∧ h.1 s0 = 201) from by omega))
    have z_4 : q_3.2.2.2.2 s0 = (vp_updL (q.2.2.2.2 s0) ((q.1 a0 6) : Int32).toNatClampNeg n1) := by rw [eq_3, sg_pL_e]
    have z_5 : q_3.2.2.2.2 s0 ((q.1 a0 6) : Int32).toNatClampNeg = n1 := by rw [eq_3, sg_pL_e]; exact if_pos rfl
    refine wa_aload_n B dX9_addSystem_18 rfl 0 rfl ?_
    refine wa_dup B dX9_addSystem_19 rfl ?_
    have z_6 : q_3.1 a0 6 = q.1 a0 6 := (show q_3.1 a0 6 = q.1 a0 6 from by rw [eq_3]; rfl)
    refine wa_getI B (C := RX9) (T := TX9) (N := 7) iq_X9_addSystem_X9 ha0 ka0 (by decide) rfl 6 (by decide) (by decide) (by decide +kernel) rfl (by decide) (v := (q.1 a0 6)) z_6 dX9_addSystem_20 ?_
    refine wa_iconst B 1 dX9_addSystem_23 (by decide) ?_
    refine wa_iadd B dX9_addSystem_24 (fun v_7 ev_7 => ?_)
    have tv_7 : v_7.toInt = (q.1 a0 6).toInt + 1 := by have b0 := zx_bd (q.1 a0 6); rw [ev_7]; exact zx_add (show (-2147483648 : Int) ≤ (q.1 a0 6).toInt + 1 by omega) (show (q.1 a0 6).toInt + 1 < (2147483648 : Int) by omega)
    refine wa_putI B (C := RX9) (T := TX9) (N := 7) iq_X9_addSystem_X9 ha0 ka0 (by decide) rfl 6 (by decide) (by decide) (by decide +kernel) rfl (by decide) (v := v_7) (ty := .int) tyX9 tyX9_ok nmX9 rfl (by decide +kernel) rfl rfl dX9_addSystem_25 (fun q_8 eq_8 => ?_)
    have hV_q_8 : sx_V h L q_8 := by rw [eq_8]; exact hV_q_3.pI ka0 (show sx_in v_7 (0) 3 from ⟨by omega, by omega⟩)
    have hF_q_8 : sx_fr h L (fun a => a = a0 ∧ h.1 a = 9 ∨ a = s0 ∧ h.1 a = 201) q q_8 := hF_q_3.tr (by rw [eq_8]; exact sx_fr.pI (show a0 = a0 ∧ h.1 a0 = 9 ∨ a0 = s0 ∧ h.1 a0 = 201 from by omega))
    have z_9 : q_8.1 a0 6 = v_7 := by rw [eq_8]; exact sg_pI_e
    have y_10 : (q_8.1 a0 6).toInt = v_7.toInt := by rw [z_9]
    have z_11 : q_8.2.2.2.2 s0 = (vp_updL (q.2.2.2.2 s0) ((q.1 a0 6) : Int32).toNatClampNeg n1) := ((show q_8.2.2.2.2 s0 = q_3.2.2.2.2 s0 from by rw [eq_8]; rfl)).trans (z_4)
    exact hret _ _ _ dX9_addSystem_28 ⟨hV_q_8, hF_q_8, ⟨by omega, by rw [z_11]⟩⟩
set_option maxHeartbeats 4000000 in
set_option maxRecDepth 100000 in
theorem k_X9_isFull_c (l : Launch) (dC : Nat → ClassId) (dI : Nat → Nat → Nat) (h : Sh) (L : List Nat) (hN : sx_nd L) (q : Sg) (hV : sx_V h L q) {a0 : Nat} (ha0 : a0 ∈ L) (ka0 : h.1 a0 = 9) {c0 : Nat} (ec0 : q.2.2.1 a0 1 = c0)    : CMi l dC dI h L yX9_isFull wsX9_isFull ({ frames := 0, cells := 0, slots := 0, locals := 0 } : Room) q [.ref a0] (fun r q' => q = q' ∧ (r.toInt = 1 ∧ ((q.1 a0 6).toInt < 1 ∨ 5 ≤ (q.2.2.2.1 c0 (q.1 a0 6 - 1).toNatClampNeg).toInt) ∨ r.toInt = 0 ∧ 1 ≤ (q.1 a0 6).toInt ∧ (q.2.2.2.1 c0 (q.1 a0 6 - 1).toNatClampNeg).toInt < 5)) := by
  refine cm_z (cc := cX9_isFull) (mL := 1) (own := RX9) hN (by decide) rfl rfl (Nat.le_of_ble_eq_true rfl) (fun Z B hret => ?_)
  obtain ⟨hc0, kc0, lc0⟩ : c0 ∈ L ∧ h.1 c0 = 101 ∧ h.2.1 c0 = 3 := by obtain ⟨r9, e9, z1, z2, z3⟩ := hV.refn (t := 101) (n := 3) ha0 ka0 1 rfl (by decide) rfl (by decide); rw [← ec0, e9]; exact ⟨z1, z2, z3⟩
  show WA l dC dI h L ({ frames := 0, cells := 0, slots := 0, locals := 0 } : Room) 1 Z q 0 [(0, .ref a0)] []
  refine wa_aload_n B dX9_isFull_0 rfl 0 rfl ?_
  refine wa_getI B (C := RX9) (T := TX9) (N := 7) iq_X9_isFull_X9 ha0 ka0 (by decide) rfl 6 (by decide) (by decide) (by decide +kernel) rfl (by decide) (v := (q.1 a0 6)) rfl dX9_isFull_1 ?_
  have g_1 : (0 : Int) ≤ (q.1 a0 6).toInt ∧ (q.1 a0 6).toInt ≤ 3 := hV.int ha0 ka0 6
  refine wa_iconst B 1 dX9_isFull_4 (by decide) ?_
  refine wa_icmp_lt B 23 dX9_isFull_5 (by decide) (fun (t_2 : (q.1 a0 6).toInt < 1) => ?_) (fun (t_2 : ¬ (q.1 a0 6).toInt < 1) => ?_)
  · refine wa_iconst B 1 dX9_isFull_23 (by decide) ?_
    refine wa_goto B 28 dX9_isFull_24 (by decide) ?_
    exact hret _ _ _ _ dX9_isFull_28 (Or.inr rfl) ⟨rfl, (by have h9 : (1 : Int32).toInt = 1 := rfl; first | omega | (refine ⟨?_, ?_⟩ <;> omega) | trivial)⟩
  · refine wa_aload_n B dX9_isFull_8 rfl 0 rfl ?_
    refine wa_getR B (C := RX9) (T := TX9) (N := 7) iq_X9_isFull_X9 ha0 ka0 (by decide) rfl 1 (by decide) (by decide) (by decide +kernel) rfl (fun _ _ _ => rfl) (v := c0) ec0 dX9_isFull_9 ?_
    refine wa_aload_n B dX9_isFull_12 rfl 0 rfl ?_
    refine wa_getI B (C := RX9) (T := TX9) (N := 7) iq_X9_isFull_X9 ha0 ka0 (by decide) rfl 6 (by decide) (by decide) (by decide +kernel) rfl (by decide) (v := (q.1 a0 6)) rfl dX9_isFull_13 ?_
    refine wa_iconst B 1 dX9_isFull_16 (by decide) ?_
    refine wa_isub B dX9_isFull_17 (fun v_3 ev_3 => ?_)
    have tv_3 : v_3.toInt = (q.1 a0 6).toInt - 1 := by have b0 := zx_bd (q.1 a0 6); rw [ev_3]; exact zx_sub (show (-2147483648 : Int) ≤ (q.1 a0 6).toInt - 1 by omega) (show (q.1 a0 6).toInt - 1 < (2147483648 : Int) by omega)
    refine wa_iaload B hc0 kc0 (by decide) (by decide) (show 0 ≤ v_3.toInt by omega) (show v_3.toInt < (h.2.1 c0 : Int) by omega) (v := (q.2.2.2.1 c0 (v_3 : Int32).toNatClampNeg)) rfl dX9_isFull_18 ?_
    have g_4 : (0 : Int) ≤ ((q.2.2.2.1 c0 (v_3 : Int32).toNatClampNeg)).toInt ∧ ((q.2.2.2.1 c0 (v_3 : Int32).toNatClampNeg)).toInt ≤ 5 := hV.cnt hc0 kc0 _
    have u9 : (q.2.2.2.1 c0 (v_3 : Int32).toNatClampNeg).toInt = (q.2.2.2.1 c0 (q.1 a0 6 - 1).toNatClampNeg).toInt := by rw [ev_3]
    refine wa_iconst B 5 dX9_isFull_19 (by decide) ?_
    refine wa_icmp_lt B 27 dX9_isFull_20 (by decide) (fun (t_5 : ((q.2.2.2.1 c0 (v_3 : Int32).toNatClampNeg)).toInt < 5) => ?_) (fun (t_5 : ¬ ((q.2.2.2.1 c0 (v_3 : Int32).toNatClampNeg)).toInt < 5) => ?_)
    · refine wa_iconst B 0 dX9_isFull_27 (by decide) ?_
      exact hret _ _ _ _ dX9_isFull_28 (Or.inl rfl) ⟨rfl, (by have h9 : (0 : Int32).toInt = 0 := rfl; first | omega | (refine ⟨?_, ?_⟩ <;> omega) | trivial)⟩
    · refine wa_iconst B 1 dX9_isFull_23 (by decide) ?_
      refine wa_goto B 28 dX9_isFull_24 (by decide) ?_
      exact hret _ _ _ _ dX9_isFull_28 (Or.inr rfl) ⟨rfl, (by have h9 : (1 : Int32).toInt = 1 := rfl; first | omega | (refine ⟨?_, ?_⟩ <;> omega) | trivial)⟩
set_option maxHeartbeats 4000000 in
set_option maxRecDepth 100000 in
theorem k_X9_addUnit_c (l : Launch) (dC : Nat → ClassId) (dI : Nat → Nat → Nat) (h : Sh) (L : List Nat) (hN : sx_nd L) (q : Sg) (hV : sx_V h L q) {a0 : Nat} (ha0 : a0 ∈ L) (ka0 : h.1 a0 = 9) (n1 : Int64) (n2 : Int32) {s0 : Nat} (es0 : q.2.2.1 a0 0 = s0) {c0 : Nat} (ec0 : q.2.2.1 a0 1 = c0) {m0 : Nat} (em0 : q.2.2.1 a0 2 = m0) {f0 : Nat} (ef0 : q.2.2.1 a0 3 = f0) {w0 : Nat} (ew0 : q.2.2.1 a0 4 = w0) {x0 : Nat} (ex0 : q.2.2.1 a0 5 = x0)   (hy0 : 1 ≤ (q.1 a0 6).toInt) (hy1 : (q.2.2.2.1 c0 (q.1 a0 6 - 1).toNatClampNeg).toInt < 5) : CMv l dC dI h L yX9_addUnit wsX9_addUnit ({ frames := 1, cells := 0, slots := 0, locals := 21 } : Room) q [.ref a0, .long n1, .int n2] (fun q' => sx_V h L q' ∧ sx_fr h L (fun a => a = c0 ∧ h.1 a = 101 ∨ a = m0 ∧ h.1 a = 202 ∨ a = f0 ∧ h.1 a = 102 ∨ a = w0 ∧ h.1 a = 103 ∨ a = x0 ∧ h.1 a = 104) q q' ∧ (∃ (i c : Int32), i.toInt = 5 * ((q.1 a0 6).toInt - 1) + (q.2.2.2.1 c0 (q.1 a0 6 - 1).toNatClampNeg).toInt ∧ c.toInt = (q.2.2.2.1 c0 (q.1 a0 6 - 1).toNatClampNeg).toInt + 1 ∧ q'.2.2.2.1 c0 = upd (q.2.2.2.1 c0) (q.1 a0 6 - 1).toNatClampNeg c ∧ q'.2.2.2.2 m0 = vp_updL (q.2.2.2.2 m0) i.toNatClampNeg n1 ∧ q'.2.2.2.1 f0 = upd (q.2.2.2.1 f0) i.toNatClampNeg n2)) := by
  refine cm_v (cc := cX9_addUnit) (mL := 6) (own := RX9) hN (by decide) rfl rfl (Nat.le_of_ble_eq_true rfl) (fun Z B hret => ?_)
  have hF : sx_fr h L (fun a => a = c0 ∧ h.1 a = 101 ∨ a = m0 ∧ h.1 a = 202 ∨ a = f0 ∧ h.1 a = 102 ∨ a = w0 ∧ h.1 a = 103 ∨ a = x0 ∧ h.1 a = 104) q q := sx_fr.rf
  obtain ⟨hs0, ks0, ls0⟩ : s0 ∈ L ∧ h.1 s0 = 201 ∧ h.2.1 s0 = 3 := by obtain ⟨r9, e9, z1, z2, z3⟩ := hV.refn (t := 201) (n := 3) ha0 ka0 0 rfl (by decide) rfl (by decide); rw [← es0, e9]; exact ⟨z1, z2, z3⟩
  obtain ⟨hc0, kc0, lc0⟩ : c0 ∈ L ∧ h.1 c0 = 101 ∧ h.2.1 c0 = 3 := by obtain ⟨r9, e9, z1, z2, z3⟩ := hV.refn (t := 101) (n := 3) ha0 ka0 1 rfl (by decide) rfl (by decide); rw [← ec0, e9]; exact ⟨z1, z2, z3⟩
  obtain ⟨hm0, km0, lm0⟩ : m0 ∈ L ∧ h.1 m0 = 202 ∧ h.2.1 m0 = 15 := by obtain ⟨r9, e9, z1, z2, z3⟩ := hV.refn (t := 202) (n := 15) ha0 ka0 2 rfl (by decide) rfl (by decide); rw [← em0, e9]; exact ⟨z1, z2, z3⟩
  obtain ⟨hf0, kf0, lf0⟩ : f0 ∈ L ∧ h.1 f0 = 102 ∧ h.2.1 f0 = 15 := by obtain ⟨r9, e9, z1, z2, z3⟩ := hV.refn (t := 102) (n := 15) ha0 ka0 3 rfl (by decide) rfl (by decide); rw [← ef0, e9]; exact ⟨z1, z2, z3⟩
  obtain ⟨hw0, kw0, lw0⟩ : w0 ∈ L ∧ h.1 w0 = 103 ∧ h.2.1 w0 = 15 := by obtain ⟨r9, e9, z1, z2, z3⟩ := hV.refn (t := 103) (n := 15) ha0 ka0 4 rfl (by decide) rfl (by decide); rw [← ew0, e9]; exact ⟨z1, z2, z3⟩
  obtain ⟨hx0, kx0, lx0⟩ : x0 ∈ L ∧ h.1 x0 = 104 ∧ h.2.1 x0 = 15 := by obtain ⟨r9, e9, z1, z2, z3⟩ := hV.refn (t := 104) (n := 15) ha0 ka0 5 rfl (by decide) rfl (by decide); rw [← ex0, e9]; exact ⟨z1, z2, z3⟩
  show WA l dC dI h L ({ frames := 1, cells := 0, slots := 0, locals := 21 } : Room) 6 Z q 0 [(0, .ref a0), (1, .long n1), (3, .int n2)] []
  refine wa_aload_n B dX9_addUnit_0 rfl 0 rfl ?_
  refine wa_callVi B (x := (RX9, TX9, 7)) (As := []) (rest := []) (k_X9_isFull_c l dC dI h L hN q hV (a0 := a0) ha0 ka0 (c0 := c0) ec0  ) (cwV 0 B.1.2.2.2.2 gX9_addUnit_X9_isFull rfl rfl rfl (by decide +kernel) ⟨Nat.le_of_ble_eq_true rfl, Nat.le_of_ble_eq_true rfl⟩) ha0 ka0 (by decide) rfl rfl rfl (Nat.le_of_ble_eq_true rfl) dX9_addUnit_1 (fun r_2 q_1 w_3 => ?_)
  obtain ⟨ew_3, hw_3⟩ := w_3
  subst ew_3
  refine wa_if_eq B 8 dX9_addUnit_4 (by decide) (fun (t_4 : r_2.toInt = 0) => ?_) (fun (t_4 : ¬ r_2.toInt = 0) => ?_)
  · refine wa_aload_n B dX9_addUnit_8 rfl 0 rfl ?_
    refine wa_getI B (C := RX9) (T := TX9) (N := 7) iq_X9_addUnit_X9 ha0 ka0 (by decide) rfl 6 (by decide) (by decide) (by decide +kernel) rfl (by decide) (v := (q.1 a0 6)) rfl dX9_addUnit_9 ?_
    have g_5 : (0 : Int) ≤ (q.1 a0 6).toInt ∧ (q.1 a0 6).toInt ≤ 3 := hV.int ha0 ka0 6
    refine wa_iconst B 1 dX9_addUnit_12 (by decide) ?_
    refine wa_isub B dX9_addUnit_13 (fun v_6 ev_6 => ?_)
    refine wa_istore B [(4, .int v_6), (0, .ref a0), (1, .long n1), (3, .int n2)] dX9_addUnit_14 (by decide) rfl ?_
    rw [← ev_6] at hy1 hw_3
    refine wa_iload B dX9_addUnit_16 0 rfl ?_
    refine wa_aload_n B dX9_addUnit_18 rfl 1 rfl ?_
    refine wa_getR B (C := RX9) (T := TX9) (N := 7) iq_X9_addUnit_X9 ha0 ka0 (by decide) rfl 1 (by decide) (by decide) (by decide +kernel) rfl (fun _ _ _ => rfl) (v := c0) ec0 dX9_addUnit_19 ?_
    refine wa_iload B dX9_addUnit_22 0 rfl ?_
    have tv_6 : v_6.toInt = (q.1 a0 6).toInt - 1 := by have b0 := zx_bd (q.1 a0 6); rw [ev_6]; exact zx_sub (show (-2147483648 : Int) ≤ (q.1 a0 6).toInt - 1 by omega) (show (q.1 a0 6).toInt - 1 < (2147483648 : Int) by omega)
    refine wa_iaload B hc0 kc0 (by decide) (by decide) (show 0 ≤ v_6.toInt by omega) (show v_6.toInt < (h.2.1 c0 : Int) by omega) (v := (q.2.2.2.1 c0 (v_6 : Int32).toNatClampNeg)) rfl dX9_addUnit_24 ?_
    have g_7 : (0 : Int) ≤ ((q.2.2.2.1 c0 (v_6 : Int32).toNatClampNeg)).toInt ∧ ((q.2.2.2.1 c0 (v_6 : Int32).toNatClampNeg)).toInt ≤ 5 := hV.cnt hc0 kc0 _
    refine wa_callSi B (As := [.int v_6, .int ((q.2.2.2.1 c0 (v_6 : Int32).toNatClampNeg))]) (rest := []) (k_X9_slot l dC dI h L hN q hV v_6 ((q.2.2.2.1 c0 (v_6 : Int32).toNatClampNeg))  (by first | assumption | omega | decide) (by first | assumption | omega | decide) (by first | assumption | omega | decide) (by first | assumption | omega | decide)) (va_cwS 2 B.1.2.2.2.2 gX9_addUnit_X9_slot rfl rfl rfl (by decide +kernel) ⟨Nat.le_of_ble_eq_true rfl, Nat.le_of_ble_eq_true rfl⟩) rfl rfl (Nat.le_of_ble_eq_true rfl) dX9_addUnit_25 (fun r_9 q_8 w_10 => ?_)
    obtain ⟨ew_10, hw_10⟩ := w_10
    subst ew_10
    refine wa_istore B [(5, .int r_9), (4, .int v_6), (0, .ref a0), (1, .long n1), (3, .int n2)] dX9_addUnit_28 (by decide) rfl ?_
    refine wa_aload_n B dX9_addUnit_30 rfl 2 rfl ?_
    refine wa_getR B (C := RX9) (T := TX9) (N := 7) iq_X9_addUnit_X9 ha0 ka0 (by decide) rfl 2 (by decide) (by decide) (by decide +kernel) rfl (fun _ _ _ => rfl) (v := m0) em0 dX9_addUnit_31 ?_
    refine wa_iload B dX9_addUnit_34 0 rfl ?_
    refine wa_lload_n B dX9_addUnit_36 rfl 3 rfl ?_
    refine wa_lastore B hm0 km0 (by decide) (by decide) (show 0 ≤ r_9.toInt by omega) (show r_9.toInt < (h.2.1 m0 : Int) by omega) dX9_addUnit_37 (fun q_11 eq_11 => ?_)
    have hV_q_11 : sx_V h L q_11 := by rw [eq_11]; exact hV.pL
    have hF_q_11 : sx_fr h L (fun a => a = c0 ∧ h.1 a = 101 ∨ a = m0 ∧ h.1 a = 202 ∨ a = f0 ∧ h.1 a = 102 ∨ a = w0 ∧ h.1 a = 103 ∨ a = x0 ∧ h.1 a = 104) q q_11 := hF.tr (by rw [eq_11]; exact sx_fr.pL (show h.1 m0 = 200 ∨ (m0 = c0 ∧ h.1 m0 = 101 ∨ m0 = m0 ∧ h.1 m0 = 202 ∨ m0 = f0 ∧ h.1 m0 = 102 ∨ m0 = w0 ∧ h.1 m0 = 103 ∨ m0 = x0 ∧ h.1 m0 = 104) from by omega))
    have z_12 : q_11.2.2.2.2 m0 = (vp_updL (q.2.2.2.2 m0) (r_9 : Int32).toNatClampNeg n1) := by rw [eq_11, sg_pL_e]
    have z_13 : q_11.2.2.2.2 m0 (r_9 : Int32).toNatClampNeg = n1 := by rw [eq_11, sg_pL_e]; exact if_pos rfl
    refine wa_aload_n B dX9_addUnit_38 rfl 2 rfl ?_
    have z_14 : q_11.2.2.1 a0 3 = f0 := ((show q_11.2.2.1 a0 3 = q.2.2.1 a0 3 from by rw [eq_11]; rfl)).trans (ef0)
    refine wa_getR B (C := RX9) (T := TX9) (N := 7) iq_X9_addUnit_X9 ha0 ka0 (by decide) rfl 3 (by decide) (by decide) (by decide +kernel) rfl (fun _ _ _ => rfl) (v := f0) z_14 dX9_addUnit_39 ?_
    refine wa_iload B dX9_addUnit_42 0 rfl ?_
    refine wa_iload_n B dX9_addUnit_44 rfl 4 rfl ?_
    refine wa_iastore B hf0 kf0 (by decide) (by decide) (show 0 ≤ r_9.toInt by omega) (show r_9.toInt < (h.2.1 f0 : Int) by omega) dX9_addUnit_45 (fun q_15 eq_15 => ?_)
    have hV_q_15 : sx_V h L q_15 := by rw [eq_15]; exact hV_q_11.up1 hf0 kf0 trivial
    have hF_q_15 : sx_fr h L (fun a => a = c0 ∧ h.1 a = 101 ∨ a = m0 ∧ h.1 a = 202 ∨ a = f0 ∧ h.1 a = 102 ∨ a = w0 ∧ h.1 a = 103 ∨ a = x0 ∧ h.1 a = 104) q q_15 := hF_q_11.tr (by rw [eq_15]; exact sx_fr.pG (show h.1 f0 = 100 ∨ (f0 = c0 ∧ h.1 f0 = 101 ∨ f0 = m0 ∧ h.1 f0 = 202 ∨ f0 = f0 ∧ h.1 f0 = 102 ∨ f0 = w0 ∧ h.1 f0 = 103 ∨ f0 = x0 ∧ h.1 f0 = 104) from by omega))
    have z_16 : q_11.2.2.2.1 f0 = q.2.2.2.1 f0 := (show q_11.2.2.2.1 f0 = q.2.2.2.1 f0 from by rw [eq_11]; rfl)
    have z_17 : q_15.2.2.2.1 f0 = (upd (q.2.2.2.1 f0) (r_9 : Int32).toNatClampNeg n2) := by rw [eq_15, sg_pG_e, z_16]
    have z_18 : q_15.2.2.2.1 f0 (r_9 : Int32).toNatClampNeg = n2 := by rw [eq_15, sg_pG_e]; exact if_pos rfl
    refine wa_aload_n B dX9_addUnit_46 rfl 2 rfl ?_
    have z_19 : q_15.2.2.1 a0 4 = w0 := ((show q_15.2.2.1 a0 4 = q_11.2.2.1 a0 4 from by rw [eq_15]; rfl)).trans (((show q_11.2.2.1 a0 4 = q.2.2.1 a0 4 from by rw [eq_11]; rfl)).trans (ew0))
    refine wa_getR B (C := RX9) (T := TX9) (N := 7) iq_X9_addUnit_X9 ha0 ka0 (by decide) rfl 4 (by decide) (by decide) (by decide +kernel) rfl (fun _ _ _ => rfl) (v := w0) z_19 dX9_addUnit_47 ?_
    refine wa_iload B dX9_addUnit_50 0 rfl ?_
    refine wa_iconst B 1 dX9_addUnit_52 (by decide) ?_
    refine wa_iastore B hw0 kw0 (by decide) (by decide) (show 0 ≤ r_9.toInt by omega) (show r_9.toInt < (h.2.1 w0 : Int) by omega) dX9_addUnit_53 (fun q_20 eq_20 => ?_)
    have hV_q_20 : sx_V h L q_20 := by rw [eq_20]; exact hV_q_15.up1 hw0 kw0 trivial
    have hF_q_20 : sx_fr h L (fun a => a = c0 ∧ h.1 a = 101 ∨ a = m0 ∧ h.1 a = 202 ∨ a = f0 ∧ h.1 a = 102 ∨ a = w0 ∧ h.1 a = 103 ∨ a = x0 ∧ h.1 a = 104) q q_20 := hF_q_15.tr (by rw [eq_20]; exact sx_fr.pG (show h.1 w0 = 100 ∨ (w0 = c0 ∧ h.1 w0 = 101 ∨ w0 = m0 ∧ h.1 w0 = 202 ∨ w0 = f0 ∧ h.1 w0 = 102 ∨ w0 = w0 ∧ h.1 w0 = 103 ∨ w0 = x0 ∧ h.1 w0 = 104) from by omega))
    have z_21 : q_15.2.2.2.1 w0 = q.2.2.2.1 w0 := ((show q_15.2.2.2.1 w0 = q_11.2.2.2.1 w0 from by rw [eq_15]; exact sg_pG_a (sx_ka h kw0 kf0 (by decide)))).trans ((show q_11.2.2.2.1 w0 = q.2.2.2.1 w0 from by rw [eq_11]; rfl))
    have z_22 : q_20.2.2.2.1 w0 = (upd (q.2.2.2.1 w0) (r_9 : Int32).toNatClampNeg 1) := by rw [eq_20, sg_pG_e, z_21]
    have z_23 : q_20.2.2.2.1 w0 (r_9 : Int32).toNatClampNeg = 1 := by rw [eq_20, sg_pG_e]; exact if_pos rfl
    refine wa_aload_n B dX9_addUnit_54 rfl 2 rfl ?_
    have z_24 : q_20.2.2.1 a0 5 = x0 := ((show q_20.2.2.1 a0 5 = q_15.2.2.1 a0 5 from by rw [eq_20]; rfl)).trans (((show q_15.2.2.1 a0 5 = q_11.2.2.1 a0 5 from by rw [eq_15]; rfl)).trans (((show q_11.2.2.1 a0 5 = q.2.2.1 a0 5 from by rw [eq_11]; rfl)).trans (ex0)))
    refine wa_getR B (C := RX9) (T := TX9) (N := 7) iq_X9_addUnit_X9 ha0 ka0 (by decide) rfl 5 (by decide) (by decide) (by decide +kernel) rfl (fun _ _ _ => rfl) (v := x0) z_24 dX9_addUnit_55 ?_
    refine wa_iload B dX9_addUnit_58 0 rfl ?_
    refine wa_bipush B 99 dX9_addUnit_60 (by decide) ?_
    refine wa_iastore B hx0 kx0 (by decide) (by decide) (show 0 ≤ r_9.toInt by omega) (show r_9.toInt < (h.2.1 x0 : Int) by omega) dX9_addUnit_62 (fun q_25 eq_25 => ?_)
    have hV_q_25 : sx_V h L q_25 := by rw [eq_25]; exact hV_q_20.up1 hx0 kx0 trivial
    have hF_q_25 : sx_fr h L (fun a => a = c0 ∧ h.1 a = 101 ∨ a = m0 ∧ h.1 a = 202 ∨ a = f0 ∧ h.1 a = 102 ∨ a = w0 ∧ h.1 a = 103 ∨ a = x0 ∧ h.1 a = 104) q q_25 := hF_q_20.tr (by rw [eq_25]; exact sx_fr.pG (show h.1 x0 = 100 ∨ (x0 = c0 ∧ h.1 x0 = 101 ∨ x0 = m0 ∧ h.1 x0 = 202 ∨ x0 = f0 ∧ h.1 x0 = 102 ∨ x0 = w0 ∧ h.1 x0 = 103 ∨ x0 = x0 ∧ h.1 x0 = 104) from by omega))
    have z_26 : q_20.2.2.2.1 x0 = q.2.2.2.1 x0 := ((show q_20.2.2.2.1 x0 = q_15.2.2.2.1 x0 from by rw [eq_20]; exact sg_pG_a (sx_ka h kx0 kw0 (by decide)))).trans (((show q_15.2.2.2.1 x0 = q_11.2.2.2.1 x0 from by rw [eq_15]; exact sg_pG_a (sx_ka h kx0 kf0 (by decide)))).trans ((show q_11.2.2.2.1 x0 = q.2.2.2.1 x0 from by rw [eq_11]; rfl)))
    have z_27 : q_25.2.2.2.1 x0 = (upd (q.2.2.2.1 x0) (r_9 : Int32).toNatClampNeg 99) := by rw [eq_25, sg_pG_e, z_26]
    have z_28 : q_25.2.2.2.1 x0 (r_9 : Int32).toNatClampNeg = 99 := by rw [eq_25, sg_pG_e]; exact if_pos rfl
    refine wa_aload_n B dX9_addUnit_63 rfl 2 rfl ?_
    have z_29 : q_25.2.2.1 a0 1 = c0 := ((show q_25.2.2.1 a0 1 = q_20.2.2.1 a0 1 from by rw [eq_25]; rfl)).trans (((show q_20.2.2.1 a0 1 = q_15.2.2.1 a0 1 from by rw [eq_20]; rfl)).trans (((show q_15.2.2.1 a0 1 = q_11.2.2.1 a0 1 from by rw [eq_15]; rfl)).trans (((show q_11.2.2.1 a0 1 = q.2.2.1 a0 1 from by rw [eq_11]; rfl)).trans (ec0))))
    refine wa_getR B (C := RX9) (T := TX9) (N := 7) iq_X9_addUnit_X9 ha0 ka0 (by decide) rfl 1 (by decide) (by decide) (by decide +kernel) rfl (fun _ _ _ => rfl) (v := c0) z_29 dX9_addUnit_64 ?_
    refine wa_iload B dX9_addUnit_67 1 rfl ?_
    have z_30 : q_25.2.2.2.1 c0 (v_6 : Int32).toNatClampNeg = (q.2.2.2.1 c0 (v_6 : Int32).toNatClampNeg) := (congrFun (((show q_25.2.2.2.1 c0 = q_20.2.2.2.1 c0 from by rw [eq_25]; exact sg_pG_a (sx_ka h kc0 kx0 (by decide)))).trans (((show q_20.2.2.2.1 c0 = q_15.2.2.2.1 c0 from by rw [eq_20]; exact sg_pG_a (sx_ka h kc0 kw0 (by decide)))).trans (((show q_15.2.2.2.1 c0 = q_11.2.2.2.1 c0 from by rw [eq_15]; exact sg_pG_a (sx_ka h kc0 kf0 (by decide)))).trans ((show q_11.2.2.2.1 c0 = q.2.2.2.1 c0 from by rw [eq_11]; rfl))))) _).trans rfl
    refine wa_iaload B hc0 kc0 (by decide) (by decide) (show 0 ≤ v_6.toInt by omega) (show v_6.toInt < (h.2.1 c0 : Int) by omega) (v := (q.2.2.2.1 c0 (v_6 : Int32).toNatClampNeg)) z_30 dX9_addUnit_69 ?_
    refine wa_if_le B 103 dX9_addUnit_70 (by decide) (fun (t_31 : ((q.2.2.2.1 c0 (v_6 : Int32).toNatClampNeg)).toInt ≤ 0) => ?_) (fun (t_31 : ¬ ((q.2.2.2.1 c0 (v_6 : Int32).toNatClampNeg)).toInt ≤ 0) => ?_)
    · refine wa_aload_n B dX9_addUnit_103 rfl 2 rfl ?_
      refine wa_getR B (C := RX9) (T := TX9) (N := 7) iq_X9_addUnit_X9 ha0 ka0 (by decide) rfl 1 (by decide) (by decide) (by decide +kernel) rfl (fun _ _ _ => rfl) (v := c0) z_29 dX9_addUnit_104 ?_
      refine wa_iload B dX9_addUnit_107 1 rfl ?_
      refine wa_dup2 B dX9_addUnit_109 rfl rfl ?_
      refine wa_iaload B hc0 kc0 (by decide) (by decide) (show 0 ≤ v_6.toInt by omega) (show v_6.toInt < (h.2.1 c0 : Int) by omega) (v := (q.2.2.2.1 c0 (v_6 : Int32).toNatClampNeg)) z_30 dX9_addUnit_110 ?_
      refine wa_iconst B 1 dX9_addUnit_111 (by decide) ?_
      refine wa_iadd B dX9_addUnit_112 (fun v_32 ev_32 => ?_)
      refine wa_iastore B hc0 kc0 (by decide) (by decide) (show 0 ≤ v_6.toInt by omega) (show v_6.toInt < (h.2.1 c0 : Int) by omega) dX9_addUnit_113 (fun q_33 eq_33 => ?_)
      have tv_32 : v_32.toInt = ((q.2.2.2.1 c0 (v_6 : Int32).toNatClampNeg)).toInt + 1 := by have b0 := zx_bd ((q.2.2.2.1 c0 (v_6 : Int32).toNatClampNeg)); rw [ev_32]; exact zx_add (show (-2147483648 : Int) ≤ ((q.2.2.2.1 c0 (v_6 : Int32).toNatClampNeg)).toInt + 1 by omega) (show ((q.2.2.2.1 c0 (v_6 : Int32).toNatClampNeg)).toInt + 1 < (2147483648 : Int) by omega)
      have hV_q_33 : sx_V h L q_33 := by rw [eq_33]; exact hV_q_25.up1 hc0 kc0 (show sx_in v_32 (0) 5 from ⟨by omega, by omega⟩)
      have hF_q_33 : sx_fr h L (fun a => a = c0 ∧ h.1 a = 101 ∨ a = m0 ∧ h.1 a = 202 ∨ a = f0 ∧ h.1 a = 102 ∨ a = w0 ∧ h.1 a = 103 ∨ a = x0 ∧ h.1 a = 104) q q_33 := hF_q_25.tr (by rw [eq_33]; exact sx_fr.pG (show h.1 c0 = 100 ∨ (c0 = c0 ∧ h.1 c0 = 101 ∨ c0 = m0 ∧ h.1 c0 = 202 ∨ c0 = f0 ∧ h.1 c0 = 102 ∨ c0 = w0 ∧ h.1 c0 = 103 ∨ c0 = x0 ∧ h.1 c0 = 104) from by omega))
      have z_34 : q_25.2.2.2.1 c0 = q.2.2.2.1 c0 := ((show q_25.2.2.2.1 c0 = q_20.2.2.2.1 c0 from by rw [eq_25]; exact sg_pG_a (sx_ka h kc0 kx0 (by decide)))).trans (((show q_20.2.2.2.1 c0 = q_15.2.2.2.1 c0 from by rw [eq_20]; exact sg_pG_a (sx_ka h kc0 kw0 (by decide)))).trans (((show q_15.2.2.2.1 c0 = q_11.2.2.2.1 c0 from by rw [eq_15]; exact sg_pG_a (sx_ka h kc0 kf0 (by decide)))).trans ((show q_11.2.2.2.1 c0 = q.2.2.2.1 c0 from by rw [eq_11]; rfl))))
      have z_35 : q_33.2.2.2.1 c0 = (upd (q.2.2.2.1 c0) (v_6 : Int32).toNatClampNeg v_32) := by rw [eq_33, sg_pG_e, z_34]
      have z_36 : q_33.2.2.2.1 c0 (v_6 : Int32).toNatClampNeg = v_32 := by rw [eq_33, sg_pG_e]; exact if_pos rfl
      have z_37 : q_33.2.2.2.2 m0 = (vp_updL (q.2.2.2.2 m0) (r_9 : Int32).toNatClampNeg n1) := ((show q_33.2.2.2.2 m0 = q_25.2.2.2.2 m0 from by rw [eq_33]; rfl)).trans (((show q_25.2.2.2.2 m0 = q_20.2.2.2.2 m0 from by rw [eq_25]; rfl)).trans (((show q_20.2.2.2.2 m0 = q_15.2.2.2.2 m0 from by rw [eq_20]; rfl)).trans (((show q_15.2.2.2.2 m0 = q_11.2.2.2.2 m0 from by rw [eq_15]; rfl)).trans (z_12))))
      have z_38 : q_33.2.2.2.1 f0 = (upd (q.2.2.2.1 f0) (r_9 : Int32).toNatClampNeg n2) := ((show q_33.2.2.2.1 f0 = q_25.2.2.2.1 f0 from by rw [eq_33]; exact sg_pG_a (sx_ka h kf0 kc0 (by decide)))).trans (((show q_25.2.2.2.1 f0 = q_20.2.2.2.1 f0 from by rw [eq_25]; exact sg_pG_a (sx_ka h kf0 kx0 (by decide)))).trans (((show q_20.2.2.2.1 f0 = q_15.2.2.2.1 f0 from by rw [eq_20]; exact sg_pG_a (sx_ka h kf0 kw0 (by decide)))).trans (z_17)))
      exact hret _ _ _ dX9_addUnit_114 ⟨hV_q_33, hF_q_33, ⟨r_9, v_32, by rw [← ev_6]; omega, by rw [← ev_6]; omega, by rw [← ev_6]; exact z_35, z_37, z_38⟩⟩
    · refine wa_aload_n B dX9_addUnit_73 rfl 2 rfl ?_
      have z_39 : q_25.2.2.1 a0 4 = w0 := ((show q_25.2.2.1 a0 4 = q_20.2.2.1 a0 4 from by rw [eq_25]; rfl)).trans (((show q_20.2.2.1 a0 4 = q_15.2.2.1 a0 4 from by rw [eq_20]; rfl)).trans (z_19))
      refine wa_getR B (C := RX9) (T := TX9) (N := 7) iq_X9_addUnit_X9 ha0 ka0 (by decide) rfl 4 (by decide) (by decide) (by decide +kernel) rfl (fun _ _ _ => rfl) (v := w0) z_39 dX9_addUnit_74 ?_
      refine wa_iload B dX9_addUnit_77 0 rfl ?_
      refine wa_iload_n B dX9_addUnit_79 rfl 4 rfl ?_
      refine wa_aload_n B dX9_addUnit_80 rfl 2 rfl ?_
      refine wa_getR B (C := RX9) (T := TX9) (N := 7) iq_X9_addUnit_X9 ha0 ka0 (by decide) rfl 4 (by decide) (by decide) (by decide +kernel) rfl (fun _ _ _ => rfl) (v := w0) z_39 dX9_addUnit_81 ?_
      refine wa_iload B dX9_addUnit_84 0 rfl ?_
      refine wa_iconst B 1 dX9_addUnit_86 (by decide) ?_
      refine wa_isub B dX9_addUnit_87 (fun v_40 ev_40 => ?_)
      have tv_40 : v_40.toInt = r_9.toInt - 1 := by have b0 := zx_bd r_9; rw [ev_40]; exact zx_sub (show (-2147483648 : Int) ≤ r_9.toInt - 1 by omega) (show r_9.toInt - 1 < (2147483648 : Int) by omega)
      have z_41 : q_25.2.2.2.1 w0 = (upd (q.2.2.2.1 w0) (r_9 : Int32).toNatClampNeg 1) := ((show q_25.2.2.2.1 w0 = q_20.2.2.2.1 w0 from by rw [eq_25]; exact sg_pG_a (sx_ka h kw0 kx0 (by decide)))).trans (z_22)
      have z_42 : q_25.2.2.2.1 w0 (v_40 : Int32).toNatClampNeg = (upd (q.2.2.2.1 w0) (r_9 : Int32).toNatClampNeg 1 (v_40 : Int32).toNatClampNeg) := congrFun z_41 _
      refine wa_iaload B hw0 kw0 (by decide) (by decide) (show 0 ≤ v_40.toInt by omega) (show v_40.toInt < (h.2.1 w0 : Int) by omega) (v := (upd (q.2.2.2.1 w0) (r_9 : Int32).toNatClampNeg 1 (v_40 : Int32).toNatClampNeg)) z_42 dX9_addUnit_88 ?_
      refine wa_imul B dX9_addUnit_89 (fun v_43 ev_43 => ?_)
      refine wa_iastore B hw0 kw0 (by decide) (by decide) (show 0 ≤ r_9.toInt by omega) (show r_9.toInt < (h.2.1 w0 : Int) by omega) dX9_addUnit_90 (fun q_44 eq_44 => ?_)
      have hV_q_44 : sx_V h L q_44 := by rw [eq_44]; exact hV_q_25.up1 hw0 kw0 trivial
      have hF_q_44 : sx_fr h L (fun a => a = c0 ∧ h.1 a = 101 ∨ a = m0 ∧ h.1 a = 202 ∨ a = f0 ∧ h.1 a = 102 ∨ a = w0 ∧ h.1 a = 103 ∨ a = x0 ∧ h.1 a = 104) q q_44 := hF_q_25.tr (by rw [eq_44]; exact sx_fr.pG (show h.1 w0 = 100 ∨ (w0 = c0 ∧ h.1 w0 = 101 ∨ w0 = m0 ∧ h.1 w0 = 202 ∨ w0 = f0 ∧ h.1 w0 = 102 ∨ w0 = w0 ∧ h.1 w0 = 103 ∨ w0 = x0 ∧ h.1 w0 = 104) from by omega))
      have z_45 : q_44.2.2.2.1 w0 = (upd (upd (q.2.2.2.1 w0) (r_9 : Int32).toNatClampNeg 1) (r_9 : Int32).toNatClampNeg v_43) := by rw [eq_44, sg_pG_e, z_41]
      have z_46 : q_44.2.2.2.1 w0 (r_9 : Int32).toNatClampNeg = v_43 := by rw [eq_44, sg_pG_e]; exact if_pos rfl
      refine wa_aload_n B dX9_addUnit_91 rfl 2 rfl ?_
      have z_47 : q_44.2.2.1 a0 5 = x0 := ((show q_44.2.2.1 a0 5 = q_25.2.2.1 a0 5 from by rw [eq_44]; rfl)).trans (((show q_25.2.2.1 a0 5 = q_20.2.2.1 a0 5 from by rw [eq_25]; rfl)).trans (z_24))
      refine wa_getR B (C := RX9) (T := TX9) (N := 7) iq_X9_addUnit_X9 ha0 ka0 (by decide) rfl 5 (by decide) (by decide) (by decide +kernel) rfl (fun _ _ _ => rfl) (v := x0) z_47 dX9_addUnit_92 ?_
      refine wa_iload B dX9_addUnit_95 0 rfl ?_
      refine wa_iconst B 1 dX9_addUnit_97 (by decide) ?_
      refine wa_isub B dX9_addUnit_98 (fun v_48 ev_48 => ?_)
      refine wa_iload_n B dX9_addUnit_99 rfl 4 rfl ?_
      refine wa_iconst B 1 dX9_addUnit_100 (by decide) ?_
      refine wa_isub B dX9_addUnit_101 (fun v_49 ev_49 => ?_)
      have tv_48 : v_48.toInt = r_9.toInt - 1 := by have b0 := zx_bd r_9; rw [ev_48]; exact zx_sub (show (-2147483648 : Int) ≤ r_9.toInt - 1 by omega) (show r_9.toInt - 1 < (2147483648 : Int) by omega)
      refine wa_iastore B hx0 kx0 (by decide) (by decide) (show 0 ≤ v_48.toInt by omega) (show v_48.toInt < (h.2.1 x0 : Int) by omega) dX9_addUnit_102 (fun q_50 eq_50 => ?_)
      have hV_q_50 : sx_V h L q_50 := by rw [eq_50]; exact hV_q_44.up1 hx0 kx0 trivial
      have hF_q_50 : sx_fr h L (fun a => a = c0 ∧ h.1 a = 101 ∨ a = m0 ∧ h.1 a = 202 ∨ a = f0 ∧ h.1 a = 102 ∨ a = w0 ∧ h.1 a = 103 ∨ a = x0 ∧ h.1 a = 104) q q_50 := hF_q_44.tr (by rw [eq_50]; exact sx_fr.pG (show h.1 x0 = 100 ∨ (x0 = c0 ∧ h.1 x0 = 101 ∨ x0 = m0 ∧ h.1 x0 = 202 ∨ x0 = f0 ∧ h.1 x0 = 102 ∨ x0 = w0 ∧ h.1 x0 = 103 ∨ x0 = x0 ∧ h.1 x0 = 104) from by omega))
      have z_51 : q_44.2.2.2.1 x0 = (upd (q.2.2.2.1 x0) (r_9 : Int32).toNatClampNeg 99) := ((show q_44.2.2.2.1 x0 = q_25.2.2.2.1 x0 from by rw [eq_44]; exact sg_pG_a (sx_ka h kx0 kw0 (by decide)))).trans (z_27)
      have z_52 : q_50.2.2.2.1 x0 = (upd (upd (q.2.2.2.1 x0) (r_9 : Int32).toNatClampNeg 99) (v_48 : Int32).toNatClampNeg v_49) := by rw [eq_50, sg_pG_e, z_51]
      have z_53 : q_50.2.2.2.1 x0 (v_48 : Int32).toNatClampNeg = v_49 := by rw [eq_50, sg_pG_e]; exact if_pos rfl
      refine wa_aload_n B dX9_addUnit_103 rfl 2 rfl ?_
      have z_54 : q_50.2.2.1 a0 1 = c0 := ((show q_50.2.2.1 a0 1 = q_44.2.2.1 a0 1 from by rw [eq_50]; rfl)).trans (((show q_44.2.2.1 a0 1 = q_25.2.2.1 a0 1 from by rw [eq_44]; rfl)).trans (z_29))
      refine wa_getR B (C := RX9) (T := TX9) (N := 7) iq_X9_addUnit_X9 ha0 ka0 (by decide) rfl 1 (by decide) (by decide) (by decide +kernel) rfl (fun _ _ _ => rfl) (v := c0) z_54 dX9_addUnit_104 ?_
      refine wa_iload B dX9_addUnit_107 1 rfl ?_
      refine wa_dup2 B dX9_addUnit_109 rfl rfl ?_
      have z_55 : q_50.2.2.2.1 c0 (v_6 : Int32).toNatClampNeg = (q.2.2.2.1 c0 (v_6 : Int32).toNatClampNeg) := (congrFun (((show q_50.2.2.2.1 c0 = q_44.2.2.2.1 c0 from by rw [eq_50]; exact sg_pG_a (sx_ka h kc0 kx0 (by decide)))).trans ((show q_44.2.2.2.1 c0 = q_25.2.2.2.1 c0 from by rw [eq_44]; exact sg_pG_a (sx_ka h kc0 kw0 (by decide))))) _).trans z_30
      refine wa_iaload B hc0 kc0 (by decide) (by decide) (show 0 ≤ v_6.toInt by omega) (show v_6.toInt < (h.2.1 c0 : Int) by omega) (v := (q.2.2.2.1 c0 (v_6 : Int32).toNatClampNeg)) z_55 dX9_addUnit_110 ?_
      refine wa_iconst B 1 dX9_addUnit_111 (by decide) ?_
      refine wa_iadd B dX9_addUnit_112 (fun v_56 ev_56 => ?_)
      refine wa_iastore B hc0 kc0 (by decide) (by decide) (show 0 ≤ v_6.toInt by omega) (show v_6.toInt < (h.2.1 c0 : Int) by omega) dX9_addUnit_113 (fun q_57 eq_57 => ?_)
      have tv_56 : v_56.toInt = ((q.2.2.2.1 c0 (v_6 : Int32).toNatClampNeg)).toInt + 1 := by have b0 := zx_bd ((q.2.2.2.1 c0 (v_6 : Int32).toNatClampNeg)); rw [ev_56]; exact zx_add (show (-2147483648 : Int) ≤ ((q.2.2.2.1 c0 (v_6 : Int32).toNatClampNeg)).toInt + 1 by omega) (show ((q.2.2.2.1 c0 (v_6 : Int32).toNatClampNeg)).toInt + 1 < (2147483648 : Int) by omega)
      have hV_q_57 : sx_V h L q_57 := by rw [eq_57]; exact hV_q_50.up1 hc0 kc0 (show sx_in v_56 (0) 5 from ⟨by omega, by omega⟩)
      have hF_q_57 : sx_fr h L (fun a => a = c0 ∧ h.1 a = 101 ∨ a = m0 ∧ h.1 a = 202 ∨ a = f0 ∧ h.1 a = 102 ∨ a = w0 ∧ h.1 a = 103 ∨ a = x0 ∧ h.1 a = 104) q q_57 := hF_q_50.tr (by rw [eq_57]; exact sx_fr.pG (show h.1 c0 = 100 ∨ (c0 = c0 ∧ h.1 c0 = 101 ∨ c0 = m0 ∧ h.1 c0 = 202 ∨ c0 = f0 ∧ h.1 c0 = 102 ∨ c0 = w0 ∧ h.1 c0 = 103 ∨ c0 = x0 ∧ h.1 c0 = 104) from by omega))
      have z_58 : q_50.2.2.2.1 c0 = q.2.2.2.1 c0 := ((show q_50.2.2.2.1 c0 = q_44.2.2.2.1 c0 from by rw [eq_50]; exact sg_pG_a (sx_ka h kc0 kx0 (by decide)))).trans (((show q_44.2.2.2.1 c0 = q_25.2.2.2.1 c0 from by rw [eq_44]; exact sg_pG_a (sx_ka h kc0 kw0 (by decide)))).trans (((show q_25.2.2.2.1 c0 = q_20.2.2.2.1 c0 from by rw [eq_25]; exact sg_pG_a (sx_ka h kc0 kx0 (by decide)))).trans (((show q_20.2.2.2.1 c0 = q_15.2.2.2.1 c0 from by rw [eq_20]; exact sg_pG_a (sx_ka h kc0 kw0 (by decide)))).trans (((show q_15.2.2.2.1 c0 = q_11.2.2.2.1 c0 from by rw [eq_15]; exact sg_pG_a (sx_ka h kc0 kf0 (by decide)))).trans ((show q_11.2.2.2.1 c0 = q.2.2.2.1 c0 from by rw [eq_11]; rfl))))))
      have z_59 : q_57.2.2.2.1 c0 = (upd (q.2.2.2.1 c0) (v_6 : Int32).toNatClampNeg v_56) := by rw [eq_57, sg_pG_e, z_58]
      have z_60 : q_57.2.2.2.1 c0 (v_6 : Int32).toNatClampNeg = v_56 := by rw [eq_57, sg_pG_e]; exact if_pos rfl
      have z_61 : q_57.2.2.2.2 m0 = (vp_updL (q.2.2.2.2 m0) (r_9 : Int32).toNatClampNeg n1) := ((show q_57.2.2.2.2 m0 = q_50.2.2.2.2 m0 from by rw [eq_57]; rfl)).trans (((show q_50.2.2.2.2 m0 = q_44.2.2.2.2 m0 from by rw [eq_50]; rfl)).trans (((show q_44.2.2.2.2 m0 = q_25.2.2.2.2 m0 from by rw [eq_44]; rfl)).trans (((show q_25.2.2.2.2 m0 = q_20.2.2.2.2 m0 from by rw [eq_25]; rfl)).trans (((show q_20.2.2.2.2 m0 = q_15.2.2.2.2 m0 from by rw [eq_20]; rfl)).trans (((show q_15.2.2.2.2 m0 = q_11.2.2.2.2 m0 from by rw [eq_15]; rfl)).trans (z_12))))))
      have z_62 : q_57.2.2.2.1 f0 = (upd (q.2.2.2.1 f0) (r_9 : Int32).toNatClampNeg n2) := ((show q_57.2.2.2.1 f0 = q_50.2.2.2.1 f0 from by rw [eq_57]; exact sg_pG_a (sx_ka h kf0 kc0 (by decide)))).trans (((show q_50.2.2.2.1 f0 = q_44.2.2.2.1 f0 from by rw [eq_50]; exact sg_pG_a (sx_ka h kf0 kx0 (by decide)))).trans (((show q_44.2.2.2.1 f0 = q_25.2.2.2.1 f0 from by rw [eq_44]; exact sg_pG_a (sx_ka h kf0 kw0 (by decide)))).trans (((show q_25.2.2.2.1 f0 = q_20.2.2.2.1 f0 from by rw [eq_25]; exact sg_pG_a (sx_ka h kf0 kx0 (by decide)))).trans (((show q_20.2.2.2.1 f0 = q_15.2.2.2.1 f0 from by rw [eq_20]; exact sg_pG_a (sx_ka h kf0 kw0 (by decide)))).trans (z_17)))))
      exact hret _ _ _ dX9_addUnit_114 ⟨hV_q_57, hF_q_57, ⟨r_9, v_56, by rw [← ev_6]; omega, by rw [← ev_6]; omega, by rw [← ev_6]; exact z_59, z_61, z_62⟩⟩
  · exfalso
    omega
set_option maxHeartbeats 4000000 in
set_option maxRecDepth 100000 in
theorem k_X9_find_c (l : Launch) (dC : Nat → ClassId) (dI : Nat → Nat → Nat) (h : Sh) (L : List Nat) (hN : sx_nd L) (q : Sg) (hV : sx_V h L q) {a0 : Nat} (ha0 : a0 ∈ L) (ka0 : h.1 a0 = 9) (n1 : Int64) {m0 : Nat} (em0 : q.2.2.1 a0 2 = m0)    : CMi l dC dI h L yX9_find wsX9_find ({ frames := 0, cells := 0, slots := 0, locals := 0 } : Room) q [.ref a0, .long n1] (fun r q' => q = q' ∧ (r.toInt = -1 ∧ (∀ j : Nat, j < 15 → ¬ q.2.2.2.2 m0 j = n1) ∨ ¬ r.toInt = -1 ∧ ∃ j : Nat, j < 15 ∧ q.2.2.2.2 m0 j = n1)) := by
  refine cm_i (cc := cX9_find) (mL := 4) (own := RX9) hN (by decide) rfl rfl (Nat.le_of_ble_eq_true rfl) (fun Z B hret => ?_)
  obtain ⟨hm0, km0, lm0⟩ : m0 ∈ L ∧ h.1 m0 = 202 ∧ h.2.1 m0 = 15 := by obtain ⟨r9, e9, z1, z2, z3⟩ := hV.refn (t := 202) (n := 15) ha0 ka0 2 rfl (by decide) rfl (by decide); rw [← em0, e9]; exact ⟨z1, z2, z3⟩
  show WA l dC dI h L ({ frames := 0, cells := 0, slots := 0, locals := 0 } : Room) 4 Z q 0 [(0, .ref a0), (1, .long n1)] []
  refine wa_iconst B 0 dX9_find_0 (by decide) ?_
  refine wa_istore_n B [(3, .int 0), (0, .ref a0), (1, .long n1)] dX9_find_1 rfl (by decide) rfl ?_
  have Lp_2_4 : ∀ (n : Nat) (v_1 : Int32), 0 ≤ v_1.toInt → (∀ j : Nat, (j : Int) < v_1.toInt → ¬ q.2.2.2.2 m0 j = n1) → (15 - v_1.toInt : Int).toNat < n → WA l dC dI h L ({ frames := 0, cells := 0, slots := 0, locals := 0 } : Room) 4 Z q 2 [(3, .int v_1), (0, .ref a0), (1, .long n1)] [] := by
    intro n
    induction n with
    | zero =>
      intro v_1 x_2 x_3 hn
      exact absurd hn (Nat.not_lt_zero _)
    | succ n ih_5 =>
      intro v_1 x_2 x_3 hn
      refine wa_iload_n B dX9_find_2 rfl 0 rfl ?_
      refine wa_bipush B 15 dX9_find_3 (by decide) ?_
      refine wa_icmp_ge B 27 dX9_find_5 (by decide) (fun (t_6 : 15 ≤ v_1.toInt) => ?_) (fun (t_6 : ¬ 15 ≤ v_1.toInt) => ?_)
      · refine wa_iconst B (-1) dX9_find_27 (by decide) ?_
        exact hret _ _ _ _ dX9_find_28 ⟨rfl, (Or.inl ⟨rfl, fun j hj => x_3 j (by omega)⟩)⟩
      · refine wa_aload_n B dX9_find_8 rfl 1 rfl ?_
        refine wa_getR B (C := RX9) (T := TX9) (N := 7) iq_X9_find_X9 ha0 ka0 (by decide) rfl 2 (by decide) (by decide) (by decide +kernel) rfl (fun _ _ _ => rfl) (v := m0) em0 dX9_find_9 ?_
        refine wa_iload_n B dX9_find_12 rfl 0 rfl ?_
        refine wa_laload B hm0 km0 (by decide) (by decide) (show 0 ≤ v_1.toInt by omega) (show v_1.toInt < (h.2.1 m0 : Int) by omega) (v := (q.2.2.2.2 m0 (v_1 : Int32).toNatClampNeg)) rfl dX9_find_13 ?_
        refine wa_lload_n B dX9_find_14 rfl 2 rfl ?_
        refine wa_lcmp B dX9_find_15 (fun v_7 ev_7 => ?_)
        refine wa_if_ne B 21 dX9_find_16 (by decide) (fun (t_8 : ¬ v_7.toInt = 0) => ?_) (fun (t_8 : v_7.toInt = 0) => ?_)
        · obtain ⟨v_9, ev_9⟩ : ∃ z : Int32, z = v_1 + 1 := ⟨_, rfl⟩
          refine wa_iinc B [(3, .int v_9), (0, .ref a0), (1, .long n1)] v_9 dX9_find_21 0 rfl (by rw [ev_9]; rfl) (by decide) rfl ?_
          refine wa_goto B 2 dX9_find_24 (by decide) ?_
          have tv_9 : v_9.toInt = v_1.toInt + 1 := by have b0 := zx_bd v_1; rw [ev_9]; exact zx_add (show (-2147483648 : Int) ≤ v_1.toInt + 1 by omega) (show v_1.toInt + 1 < (2147483648 : Int) by omega)
          exact ih_5 v_9 (show 0 ≤ v_9.toInt from by first | assumption | omega | decide) (show ∀ j : Nat, (j : Int) < v_9.toInt → ¬ q.2.2.2.2 m0 j = n1 from by intro j hj; have a9 := zx_nc v_1; by_cases z9 : j = (v_1 : Int32).toNatClampNeg; (rw [z9]; exact pz_cne ev_7 (by omega)); exact x_3 j (by omega)) (show (15 - v_9.toInt : Int).toNat < _ from by omega)
        · refine wa_iload_n B dX9_find_19 rfl 0 rfl ?_
          exact hret _ _ _ _ dX9_find_20 ⟨rfl, (Or.inr ⟨by omega, (v_1 : Int32).toNatClampNeg, by have a9 := zx_nc v_1; omega, pz_ceq ev_7 (by omega)⟩)⟩
  exact Lp_2_4 _ 0 (show 0 ≤ 0 from by first | assumption | omega | decide) (show ∀ j : Nat, (j : Int) < 0 → ¬ q.2.2.2.2 m0 j = n1 from by intro j hj; exact absurd hj (show ¬ ((j : Int) < 0) from by omega)) (Nat.lt_succ_self _)
set_option maxHeartbeats 4000000 in
set_option maxRecDepth 100000 in
theorem k_X9_isTaken_c (l : Launch) (dC : Nat → ClassId) (dI : Nat → Nat → Nat) (h : Sh) (L : List Nat) (hN : sx_nd L) (q : Sg) (hV : sx_V h L q) {a0 : Nat} (ha0 : a0 ∈ L) (ka0 : h.1 a0 = 9) (n1 : Int64) {s0 : Nat} (es0 : q.2.2.1 a0 0 = s0) {m0 : Nat} (em0 : q.2.2.1 a0 2 = m0)    : CMi l dC dI h L yX9_isTaken wsX9_isTaken ({ frames := 1, cells := 0, slots := 0, locals := 23 } : Room) q [.ref a0, .long n1] (fun r q' => q = q' ∧ (r.toInt = 1 ∧ r8_tk (q.2.2.2.2 s0) (q.2.2.2.2 m0) n1 ∨ r.toInt = 0 ∧ ¬ r8_tk (q.2.2.2.2 s0) (q.2.2.2.2 m0) n1)) := by
  refine cm_z (cc := cX9_isTaken) (mL := 4) (own := RX9) hN (by decide) rfl rfl (Nat.le_of_ble_eq_true rfl) (fun Z B hret => ?_)
  obtain ⟨hs0, ks0, ls0⟩ : s0 ∈ L ∧ h.1 s0 = 201 ∧ h.2.1 s0 = 3 := by obtain ⟨r9, e9, z1, z2, z3⟩ := hV.refn (t := 201) (n := 3) ha0 ka0 0 rfl (by decide) rfl (by decide); rw [← es0, e9]; exact ⟨z1, z2, z3⟩
  obtain ⟨hm0, km0, lm0⟩ : m0 ∈ L ∧ h.1 m0 = 202 ∧ h.2.1 m0 = 15 := by obtain ⟨r9, e9, z1, z2, z3⟩ := hV.refn (t := 202) (n := 15) ha0 ka0 2 rfl (by decide) rfl (by decide); rw [← em0, e9]; exact ⟨z1, z2, z3⟩
  show WA l dC dI h L ({ frames := 1, cells := 0, slots := 0, locals := 23 } : Room) 4 Z q 0 [(0, .ref a0), (1, .long n1)] []
  refine wa_iconst B 0 dX9_isTaken_0 (by decide) ?_
  refine wa_istore_n B [(3, .int 0), (0, .ref a0), (1, .long n1)] dX9_isTaken_1 rfl (by decide) rfl ?_
  have Lp_2_4 : ∀ (n : Nat) (v_1 : Int32), 0 ≤ v_1.toInt → (∀ j : Nat, (j : Int) < v_1.toInt → ¬ q.2.2.2.2 s0 j = n1) → (3 - v_1.toInt : Int).toNat < n → WA l dC dI h L ({ frames := 1, cells := 0, slots := 0, locals := 23 } : Room) 4 Z q 2 [(3, .int v_1), (0, .ref a0), (1, .long n1)] [] := by
    intro n
    induction n with
    | zero =>
      intro v_1 x_2 x_3 hn
      exact absurd hn (Nat.not_lt_zero _)
    | succ n ih_5 =>
      intro v_1 x_2 x_3 hn
      refine wa_iload_n B dX9_isTaken_2 rfl 0 rfl ?_
      refine wa_iconst B 3 dX9_isTaken_3 (by decide) ?_
      refine wa_icmp_ge B 26 dX9_isTaken_4 (by decide) (fun (t_6 : 3 ≤ v_1.toInt) => ?_) (fun (t_6 : ¬ 3 ≤ v_1.toInt) => ?_)
      · refine wa_aload_n B dX9_isTaken_26 rfl 1 rfl ?_
        refine wa_lload_n B dX9_isTaken_27 rfl 2 rfl ?_
        refine wa_callVi B (x := (RX9, TX9, 7)) (As := [.long n1]) (rest := []) (k_X9_find_c l dC dI h L hN q hV (a0 := a0) ha0 ka0 n1 (m0 := m0) em0  ) (cwV 1 B.1.2.2.2.2 gX9_isTaken_X9_find rfl rfl rfl (by decide +kernel) ⟨Nat.le_of_ble_eq_true rfl, Nat.le_of_ble_eq_true rfl⟩) ha0 ka0 (by decide) rfl rfl rfl (Nat.le_of_ble_eq_true rfl) dX9_isTaken_28 (fun r_8 q_7 w_9 => ?_)
        obtain ⟨ew_9, hw_9⟩ := w_9
        subst ew_9
        refine wa_iconst B (-1) dX9_isTaken_31 (by decide) ?_
        refine wa_icmp_eq B 39 dX9_isTaken_32 (by decide) (fun (t_10 : r_8.toInt = (-1)) => ?_) (fun (t_10 : ¬ r_8.toInt = (-1)) => ?_)
        · refine wa_iconst B 0 dX9_isTaken_39 (by decide) ?_
          exact hret _ _ _ _ dX9_isTaken_40 (Or.inl rfl) ⟨rfl, (Or.inr ⟨rfl, fun z => z.elim (fun ⟨s, z1, z2⟩ => x_3 s (by omega) z2) (fun ⟨j, z1, z2⟩ => (hw_9.resolve_right (fun y => y.1 (by omega))).2 j z1 z2)⟩)⟩
        · refine wa_iconst B 1 dX9_isTaken_35 (by decide) ?_
          refine wa_goto B 40 dX9_isTaken_36 (by decide) ?_
          exact hret _ _ _ _ dX9_isTaken_40 (Or.inr rfl) ⟨rfl, (Or.inl ⟨rfl, Or.inr (hw_9.resolve_left (fun y => absurd y.1 (by omega))).2⟩)⟩
      · refine wa_aload_n B dX9_isTaken_7 rfl 1 rfl ?_
        refine wa_getR B (C := RX9) (T := TX9) (N := 7) iq_X9_isTaken_X9 ha0 ka0 (by decide) rfl 0 (by decide) (by decide) (by decide +kernel) rfl (fun _ _ _ => rfl) (v := s0) es0 dX9_isTaken_8 ?_
        refine wa_iload_n B dX9_isTaken_11 rfl 0 rfl ?_
        refine wa_laload B hs0 ks0 (by decide) (by decide) (show 0 ≤ v_1.toInt by omega) (show v_1.toInt < (h.2.1 s0 : Int) by omega) (v := (q.2.2.2.2 s0 (v_1 : Int32).toNatClampNeg)) rfl dX9_isTaken_12 ?_
        refine wa_lload_n B dX9_isTaken_13 rfl 2 rfl ?_
        refine wa_lcmp B dX9_isTaken_14 (fun v_11 ev_11 => ?_)
        refine wa_if_ne B 20 dX9_isTaken_15 (by decide) (fun (t_12 : ¬ v_11.toInt = 0) => ?_) (fun (t_12 : v_11.toInt = 0) => ?_)
        · obtain ⟨v_13, ev_13⟩ : ∃ z : Int32, z = v_1 + 1 := ⟨_, rfl⟩
          refine wa_iinc B [(3, .int v_13), (0, .ref a0), (1, .long n1)] v_13 dX9_isTaken_20 0 rfl (by rw [ev_13]; rfl) (by decide) rfl ?_
          refine wa_goto B 2 dX9_isTaken_23 (by decide) ?_
          have tv_13 : v_13.toInt = v_1.toInt + 1 := by have b0 := zx_bd v_1; rw [ev_13]; exact zx_add (show (-2147483648 : Int) ≤ v_1.toInt + 1 by omega) (show v_1.toInt + 1 < (2147483648 : Int) by omega)
          exact ih_5 v_13 (show 0 ≤ v_13.toInt from by first | assumption | omega | decide) (show ∀ j : Nat, (j : Int) < v_13.toInt → ¬ q.2.2.2.2 s0 j = n1 from by intro j hj; have a9 := zx_nc v_1; by_cases z9 : j = (v_1 : Int32).toNatClampNeg; (rw [z9]; exact pz_cne ev_11 (by omega)); exact x_3 j (by omega)) (show (3 - v_13.toInt : Int).toNat < _ from by omega)
        · refine wa_iconst B 1 dX9_isTaken_18 (by decide) ?_
          exact hret _ _ _ _ dX9_isTaken_19 (Or.inr rfl) ⟨rfl, (Or.inl ⟨rfl, Or.inl ⟨(v_1 : Int32).toNatClampNeg, by have a9 := zx_nc v_1; omega, pz_ceq ev_11 (by omega)⟩⟩)⟩
  exact Lp_2_4 _ 0 (show 0 ≤ 0 from by first | assumption | omega | decide) (show ∀ j : Nat, (j : Int) < 0 → ¬ q.2.2.2.2 s0 j = n1 from by intro j hj; exact absurd hj (show ¬ ((j : Int) < 0) from by omega)) (Nat.lt_succ_self _)
set_option maxHeartbeats 4000000 in
set_option maxRecDepth 100000 in
theorem k_X8_refuse_c (l : Launch) (dC : Nat → ClassId) (dI : Nat → Nat → Nat) (h : Sh) (L : List Nat) (hN : sx_nd L) (q : Sg) (hV : sx_V h L q) {a0 : Nat} (ha0 : a0 ∈ L) (ka0 : h.1 a0 = 8) (n1 : Int32) (n2 : Int32)    : CMi l dC dI h L yX8_refuse wsX8_refuse ({ frames := 0, cells := 0, slots := 0, locals := 0 } : Room) q [.ref a0, .int n1, .int n2] (fun r q' => sx_V h L q' ∧ sx_fr h L (fun a => a = a0 ∧ h.1 a = 8) q q' ∧ sx_kg a0 [5, 6] q q' ∧ (r.toInt = 0 ∧ (q'.1 a0 6).toInt = n2.toInt)) := by
  refine cm_z (cc := cX8_refuse) (mL := 3) (own := RX8) hN (by decide) rfl rfl (Nat.le_of_ble_eq_true rfl) (fun Z B hret => ?_)
  have hF : sx_fr h L (fun a => a = a0 ∧ h.1 a = 8) q q := sx_fr.rf
  have hK : sx_kg a0 [5, 6] q q := sx_kg.rf
  show WA l dC dI h L ({ frames := 0, cells := 0, slots := 0, locals := 0 } : Room) 3 Z q 0 [(0, .ref a0), (1, .int n1), (2, .int n2)] []
  refine wa_aload_n B dX8_refuse_0 rfl 0 rfl ?_
  refine wa_iload_n B dX8_refuse_1 rfl 1 rfl ?_
  refine wa_putI B (C := RX8) (T := TX8) (N := 11) iq_X8_refuse_X8 ha0 ka0 (by decide) rfl 5 (by decide) (by decide) (by decide +kernel) rfl (by decide) (v := n1) (ty := .int) tyX8 tyX8_ok nmX8 rfl (by decide +kernel) rfl rfl dX8_refuse_2 (fun q_1 eq_1 => ?_)
  have hV_q_1 : sx_V h L q_1 := by rw [eq_1]; exact hV.pI ka0 trivial
  have hF_q_1 : sx_fr h L (fun a => a = a0 ∧ h.1 a = 8) q q_1 := hF.tr (by rw [eq_1]; exact sx_fr.pI (show a0 = a0 ∧ h.1 a0 = 8 from by omega))
  have z_2 : q_1.1 a0 5 = n1 := by rw [eq_1]; exact sg_pI_e
  have hK_q_1 : sx_kg a0 [5, 6] q q_1 := hK.tr (by rw [eq_1]; exact sx_kg.pI (by decide))
  refine wa_aload_n B dX8_refuse_5 rfl 0 rfl ?_
  refine wa_iload_n B dX8_refuse_6 rfl 2 rfl ?_
  refine wa_putI B (C := RX8) (T := TX8) (N := 11) iq_X8_refuse_X8 ha0 ka0 (by decide) rfl 6 (by decide) (by decide) (by decide +kernel) rfl (by decide) (v := n2) (ty := .int) tyX8 tyX8_ok nmX8 rfl (by decide +kernel) rfl rfl dX8_refuse_7 (fun q_3 eq_3 => ?_)
  have hV_q_3 : sx_V h L q_3 := by rw [eq_3]; exact hV_q_1.pI ka0 trivial
  have hF_q_3 : sx_fr h L (fun a => a = a0 ∧ h.1 a = 8) q q_3 := hF_q_1.tr (by rw [eq_3]; exact sx_fr.pI (show a0 = a0 ∧ h.1 a0 = 8 from by omega))
  have z_4 : q_3.1 a0 6 = n2 := by rw [eq_3]; exact sg_pI_e
  have hK_q_3 : sx_kg a0 [5, 6] q q_3 := hK_q_1.tr (by rw [eq_3]; exact sx_kg.pI (by decide))
  refine wa_iconst B 0 dX8_refuse_10 (by decide) ?_
  have y_5 : (q_3.1 a0 6).toInt = n2.toInt := by rw [z_4]
  exact hret _ _ _ _ dX8_refuse_11 (Or.inl rfl) ⟨hV_q_3, hF_q_3, hK_q_3, (by have h9 : (0 : Int32).toInt = 0 := rfl; first | omega | (refine ⟨?_, ?_⟩ <;> omega) | trivial)⟩
set_option maxHeartbeats 4000000 in
set_option maxRecDepth 100000 in
theorem k_X8_demand_c (l : Launch) (dC : Nat → ClassId) (dI : Nat → Nat → Nat) (h : Sh) (L : List Nat) (hN : sx_nd L) (q : Sg) (hV : sx_V h L q) {a0 : Nat} (ha0 : a0 ∈ L) (ka0 : h.1 a0 = 8) (n1 : Int32)    : CMi l dC dI h L yX8_demand wsX8_demand ({ frames := 0, cells := 0, slots := 0, locals := 0 } : Room) q [.ref a0, .int n1] (fun r q' => sx_V h L q' ∧ sx_fr h L (fun a => a = a0 ∧ h.1 a = 8) q q' ∧ sx_kg a0 [5, 6] q q' ∧ (r.toInt = 1 ∧ (q.1 a0 0).toInt = n1.toInt ∨ r.toInt = 0 ∧ ¬ (q.1 a0 0).toInt = n1.toInt ∧ (q'.1 a0 6).toInt = (q.1 a0 1).toInt)) := by
  refine cm_z (cc := cX8_demand) (mL := 2) (own := RX8) hN (by decide) rfl rfl (Nat.le_of_ble_eq_true rfl) (fun Z B hret => ?_)
  have hF : sx_fr h L (fun a => a = a0 ∧ h.1 a = 8) q q := sx_fr.rf
  have hK : sx_kg a0 [5, 6] q q := sx_kg.rf
  show WA l dC dI h L ({ frames := 0, cells := 0, slots := 0, locals := 0 } : Room) 2 Z q 0 [(0, .ref a0), (1, .int n1)] []
  refine wa_aload_n B dX8_demand_0 rfl 0 rfl ?_
  refine wa_getI B (C := RX8) (T := TX8) (N := 11) iq_X8_demand_X8 ha0 ka0 (by decide) rfl 0 (by decide) (by decide) (by decide +kernel) rfl (by decide) (v := (q.1 a0 0)) rfl dX8_demand_1 ?_
  refine wa_iload_n B dX8_demand_4 rfl 1 rfl ?_
  refine wa_icmp_eq B 21 dX8_demand_5 (by decide) (fun (t_1 : (q.1 a0 0).toInt = n1.toInt) => ?_) (fun (t_1 : ¬ (q.1 a0 0).toInt = n1.toInt) => ?_)
  · refine wa_aload_n B dX8_demand_21 rfl 0 rfl ?_
    refine wa_getI B (C := RX8) (T := TX8) (N := 11) iq_X8_demand_X8 ha0 ka0 (by decide) rfl 0 (by decide) (by decide) (by decide +kernel) rfl (by decide) (v := (q.1 a0 0)) rfl dX8_demand_22 ?_
    refine wa_iload_n B dX8_demand_25 rfl 1 rfl ?_
    refine wa_icmp_ne B 33 dX8_demand_26 (by decide) (fun (t_2 : ¬ (q.1 a0 0).toInt = n1.toInt) => ?_) (fun (t_2 : (q.1 a0 0).toInt = n1.toInt) => ?_)
    · refine wa_iconst B 0 dX8_demand_33 (by decide) ?_
      exact hret _ _ _ _ dX8_demand_34 (Or.inl rfl) ⟨hV, hF, hK, (by have h9 : (0 : Int32).toInt = 0 := rfl; first | omega | (refine ⟨?_, ?_⟩ <;> omega) | trivial)⟩
    · refine wa_iconst B 1 dX8_demand_29 (by decide) ?_
      refine wa_goto B 34 dX8_demand_30 (by decide) ?_
      exact hret _ _ _ _ dX8_demand_34 (Or.inr rfl) ⟨hV, hF, hK, (by have h9 : (1 : Int32).toInt = 1 := rfl; first | omega | (refine ⟨?_, ?_⟩ <;> omega) | trivial)⟩
  · refine wa_aload_n B dX8_demand_8 rfl 0 rfl ?_
    refine wa_iconst B 1 dX8_demand_9 (by decide) ?_
    refine wa_putI B (C := RX8) (T := TX8) (N := 11) iq_X8_demand_X8 ha0 ka0 (by decide) rfl 5 (by decide) (by decide) (by decide +kernel) rfl (by decide) (v := 1) (ty := .int) tyX8 tyX8_ok nmX8 rfl (by decide +kernel) rfl rfl dX8_demand_10 (fun q_3 eq_3 => ?_)
    have hV_q_3 : sx_V h L q_3 := by rw [eq_3]; exact hV.pI ka0 trivial
    have hF_q_3 : sx_fr h L (fun a => a = a0 ∧ h.1 a = 8) q q_3 := hF.tr (by rw [eq_3]; exact sx_fr.pI (show a0 = a0 ∧ h.1 a0 = 8 from by omega))
    have z_4 : q_3.1 a0 5 = 1 := by rw [eq_3]; exact sg_pI_e
    have hK_q_3 : sx_kg a0 [5, 6] q q_3 := hK.tr (by rw [eq_3]; exact sx_kg.pI (by decide))
    refine wa_aload_n B dX8_demand_13 rfl 0 rfl ?_
    refine wa_aload_n B dX8_demand_14 rfl 0 rfl ?_
    have z_5 : q_3.1 a0 1 = q.1 a0 1 := (show q_3.1 a0 1 = q.1 a0 1 from by rw [eq_3]; exact sg_pI_k (by decide))
    refine wa_getI B (C := RX8) (T := TX8) (N := 11) iq_X8_demand_X8 ha0 ka0 (by decide) rfl 1 (by decide) (by decide) (by decide +kernel) rfl (by decide) (v := (q.1 a0 1)) z_5 dX8_demand_15 ?_
    refine wa_putI B (C := RX8) (T := TX8) (N := 11) iq_X8_demand_X8 ha0 ka0 (by decide) rfl 6 (by decide) (by decide) (by decide +kernel) rfl (by decide) (v := (q.1 a0 1)) (ty := .int) tyX8 tyX8_ok nmX8 rfl (by decide +kernel) rfl rfl dX8_demand_18 (fun q_6 eq_6 => ?_)
    have hV_q_6 : sx_V h L q_6 := by rw [eq_6]; exact hV_q_3.pI ka0 trivial
    have hF_q_6 : sx_fr h L (fun a => a = a0 ∧ h.1 a = 8) q q_6 := hF_q_3.tr (by rw [eq_6]; exact sx_fr.pI (show a0 = a0 ∧ h.1 a0 = 8 from by omega))
    have z_7 : q_6.1 a0 6 = (q.1 a0 1) := by rw [eq_6]; exact sg_pI_e
    have hK_q_6 : sx_kg a0 [5, 6] q q_6 := hK_q_3.tr (by rw [eq_6]; exact sx_kg.pI (by decide))
    refine wa_aload_n B dX8_demand_21 rfl 0 rfl ?_
    have z_8 : q_6.1 a0 0 = q.1 a0 0 := ((show q_6.1 a0 0 = q_3.1 a0 0 from by rw [eq_6]; exact sg_pI_k (by decide))).trans ((show q_3.1 a0 0 = q.1 a0 0 from by rw [eq_3]; exact sg_pI_k (by decide)))
    refine wa_getI B (C := RX8) (T := TX8) (N := 11) iq_X8_demand_X8 ha0 ka0 (by decide) rfl 0 (by decide) (by decide) (by decide +kernel) rfl (by decide) (v := (q.1 a0 0)) z_8 dX8_demand_22 ?_
    refine wa_iload_n B dX8_demand_25 rfl 1 rfl ?_
    refine wa_icmp_ne B 33 dX8_demand_26 (by decide) (fun (t_9 : ¬ (q.1 a0 0).toInt = n1.toInt) => ?_) (fun (t_9 : (q.1 a0 0).toInt = n1.toInt) => ?_)
    · refine wa_iconst B 0 dX8_demand_33 (by decide) ?_
      have y_10 : (q_6.1 a0 6).toInt = (q.1 a0 1).toInt := by rw [z_7]
      exact hret _ _ _ _ dX8_demand_34 (Or.inl rfl) ⟨hV_q_6, hF_q_6, hK_q_6, (by have h9 : (0 : Int32).toInt = 0 := rfl; first | omega | (refine ⟨?_, ?_⟩ <;> omega) | trivial)⟩
    · refine wa_iconst B 1 dX8_demand_29 (by decide) ?_
      refine wa_goto B 34 dX8_demand_30 (by decide) ?_
      have y_11 : (q_6.1 a0 6).toInt = (q.1 a0 1).toInt := by rw [z_7]
      exact hret _ _ _ _ dX8_demand_34 (Or.inr rfl) ⟨hV_q_6, hF_q_6, hK_q_6, (by have h9 : (1 : Int32).toInt = 1 := rfl; first | omega | (refine ⟨?_, ?_⟩ <;> omega) | trivial)⟩
set_option maxHeartbeats 4000000 in
set_option maxRecDepth 100000 in
theorem k_X8_endsWell_c (l : Launch) (dC : Nat → ClassId) (dI : Nat → Nat → Nat) (h : Sh) (L : List Nat) (hN : sx_nd L) (q : Sg) (hV : sx_V h L q) {a0 : Nat} (ha0 : a0 ∈ L) (ka0 : h.1 a0 = 8) (n1 : Int32) {t0 : Nat} (et0 : q.2.2.1 a0 7 = t0)    : CMi l dC dI h L yX8_endsWell wsX8_endsWell ({ frames := 1, cells := 0, slots := 0, locals := 22 } : Room) q [.ref a0, .int n1] (fun r q' => sx_V h L q' ∧ sx_fr h L (fun a => a = a0 ∧ h.1 a = 8) q q' ∧ sx_kg a0 [5, 6] q q' ∧ (r.toInt = 1 ∧ (0 < n1.toInt ∧ (q.1 t0 1).toInt ≤ (q.1 a0 8).toInt) ∨ r.toInt = 0 ∧ ¬ (0 < n1.toInt ∧ (q.1 t0 1).toInt ≤ (q.1 a0 8).toInt) ∧ (q'.1 a0 6).toInt = (q.1 a0 1).toInt)) := by
  refine cm_z (cc := cX8_endsWell) (mL := 2) (own := RX8) hN (by decide) rfl rfl (Nat.le_of_ble_eq_true rfl) (fun Z B hret => ?_)
  have hF : sx_fr h L (fun a => a = a0 ∧ h.1 a = 8) q q := sx_fr.rf
  have hK : sx_kg a0 [5, 6] q q := sx_kg.rf
  obtain ⟨ht0, kt0⟩ : t0 ∈ L ∧ h.1 t0 = 7 := by obtain ⟨r9, e9, z1, z2⟩ := hV.ref (t := 7) ha0 ka0 7 rfl (by decide); rw [← et0, e9]; exact ⟨z1, z2⟩
  show WA l dC dI h L ({ frames := 1, cells := 0, slots := 0, locals := 22 } : Room) 2 Z q 0 [(0, .ref a0), (1, .int n1)] []
  refine wa_iload_n B dX8_endsWell_0 rfl 1 rfl ?_
  refine wa_if_le B 18 dX8_endsWell_1 (by decide) (fun (t_1 : n1.toInt ≤ 0) => ?_) (fun (t_1 : ¬ n1.toInt ≤ 0) => ?_)
  · refine wa_aload_n B dX8_endsWell_18 rfl 0 rfl ?_
    refine wa_iconst B 1 dX8_endsWell_19 (by decide) ?_
    refine wa_aload_n B dX8_endsWell_20 rfl 0 rfl ?_
    refine wa_getI B (C := RX8) (T := TX8) (N := 11) iq_X8_endsWell_X8 ha0 ka0 (by decide) rfl 1 (by decide) (by decide) (by decide +kernel) rfl (by decide) (v := (q.1 a0 1)) rfl dX8_endsWell_21 ?_
    refine wa_callVi B (x := (RX8, TX8, 11)) (As := [.int 1, .int (q.1 a0 1)]) (rest := []) (k_X8_refuse_c l dC dI h L hN q hV (a0 := a0) ha0 ka0 1 (q.1 a0 1)  ) (cwV 2 B.1.2.2.2.2 gX8_endsWell_X8_refuse rfl rfl rfl (by decide +kernel) ⟨Nat.le_of_ble_eq_true rfl, Nat.le_of_ble_eq_true rfl⟩) ha0 ka0 (by decide) rfl rfl rfl (Nat.le_of_ble_eq_true rfl) dX8_endsWell_24 (fun r_3 q_2 w_4 => ?_)
    obtain ⟨hV_q_2, h2_q_2, h3_q_2, hw_4⟩ := w_4
    have hF_q_2 : sx_fr h L (fun a => a = a0 ∧ h.1 a = 8) q q_2 := hF.tr (h2_q_2.mono (fun a (z : a = a0 ∧ h.1 a = 8) => (show a = a0 ∧ h.1 a = 8 from by omega)))
    have hK_q_2 : sx_kg a0 [5, 6] q q_2 := hK.tr (h3_q_2.mono (by decide))
    refine wa_if_eq B 34 dX8_endsWell_27 (by decide) (fun (t_5 : r_3.toInt = 0) => ?_) (fun (t_5 : ¬ r_3.toInt = 0) => ?_)
    · refine wa_iconst B 0 dX8_endsWell_34 (by decide) ?_
      exact hret _ _ _ _ dX8_endsWell_35 (Or.inl rfl) ⟨hV_q_2, hF_q_2, hK_q_2, (by have h9 : (0 : Int32).toInt = 0 := rfl; first | omega | (refine ⟨?_, ?_⟩ <;> omega) | trivial)⟩
    · refine wa_iconst B 1 dX8_endsWell_30 (by decide) ?_
      refine wa_goto B 35 dX8_endsWell_31 (by decide) ?_
      exact hret _ _ _ _ dX8_endsWell_35 (Or.inr rfl) ⟨hV_q_2, hF_q_2, hK_q_2, (by have h9 : (1 : Int32).toInt = 1 := rfl; first | omega | (refine ⟨?_, ?_⟩ <;> omega) | trivial)⟩
  · refine wa_aload_n B dX8_endsWell_4 rfl 0 rfl ?_
    refine wa_getR B (C := RX8) (T := TX8) (N := 11) iq_X8_endsWell_X8 ha0 ka0 (by decide) rfl 7 (by decide) (by decide) (by decide +kernel) rfl (fun _ _ _ => rfl) (v := t0) et0 dX8_endsWell_5 ?_
    refine wa_getI B (C := RX7) (T := TX7) (N := 2) iq_X8_endsWell_X7 ht0 kt0 (by decide) rfl 1 (by decide) (by decide) (by decide +kernel) rfl (by decide) (v := (q.1 t0 1)) rfl dX8_endsWell_8 ?_
    obtain ⟨a_7, ea_7, ha_7, ka_7⟩ := hV.ref (t := 300) ht0 kt0 0 rfl (by decide)
    have g_6 : (0 : Int) ≤ (q.1 t0 1).toInt ∧ (q.1 t0 1).toInt ≤ (h.2.1 a_7 : Int) := by have z9 := hV.int ht0 kt0 1; rw [ea_7] at z9; exact z9
    have l_8 : h.2.1 a_7 ≤ 5000 := hV.len ha_7
    refine wa_aload_n B dX8_endsWell_11 rfl 0 rfl ?_
    refine wa_getI B (C := RX8) (T := TX8) (N := 11) iq_X8_endsWell_X8 ha0 ka0 (by decide) rfl 8 (by decide) (by decide) (by decide +kernel) rfl (by decide) (v := (q.1 a0 8)) rfl dX8_endsWell_12 ?_
    refine wa_icmp_le B 30 dX8_endsWell_15 (by decide) (fun (t_9 : (q.1 t0 1).toInt ≤ (q.1 a0 8).toInt) => ?_) (fun (t_9 : ¬ (q.1 t0 1).toInt ≤ (q.1 a0 8).toInt) => ?_)
    · refine wa_iconst B 1 dX8_endsWell_30 (by decide) ?_
      refine wa_goto B 35 dX8_endsWell_31 (by decide) ?_
      exact hret _ _ _ _ dX8_endsWell_35 (Or.inr rfl) ⟨hV, hF, hK, (by have h9 : (1 : Int32).toInt = 1 := rfl; first | omega | (refine ⟨?_, ?_⟩ <;> omega) | trivial)⟩
    · refine wa_aload_n B dX8_endsWell_18 rfl 0 rfl ?_
      refine wa_iconst B 1 dX8_endsWell_19 (by decide) ?_
      refine wa_aload_n B dX8_endsWell_20 rfl 0 rfl ?_
      refine wa_getI B (C := RX8) (T := TX8) (N := 11) iq_X8_endsWell_X8 ha0 ka0 (by decide) rfl 1 (by decide) (by decide) (by decide +kernel) rfl (by decide) (v := (q.1 a0 1)) rfl dX8_endsWell_21 ?_
      refine wa_callVi B (x := (RX8, TX8, 11)) (As := [.int 1, .int (q.1 a0 1)]) (rest := []) (k_X8_refuse_c l dC dI h L hN q hV (a0 := a0) ha0 ka0 1 (q.1 a0 1)  ) (cwV 2 B.1.2.2.2.2 gX8_endsWell_X8_refuse rfl rfl rfl (by decide +kernel) ⟨Nat.le_of_ble_eq_true rfl, Nat.le_of_ble_eq_true rfl⟩) ha0 ka0 (by decide) rfl rfl rfl (Nat.le_of_ble_eq_true rfl) dX8_endsWell_24 (fun r_11 q_10 w_12 => ?_)
      obtain ⟨hV_q_10, h2_q_10, h3_q_10, hw_12⟩ := w_12
      have hF_q_10 : sx_fr h L (fun a => a = a0 ∧ h.1 a = 8) q q_10 := hF.tr (h2_q_10.mono (fun a (z : a = a0 ∧ h.1 a = 8) => (show a = a0 ∧ h.1 a = 8 from by omega)))
      have hK_q_10 : sx_kg a0 [5, 6] q q_10 := hK.tr (h3_q_10.mono (by decide))
      refine wa_if_eq B 34 dX8_endsWell_27 (by decide) (fun (t_13 : r_11.toInt = 0) => ?_) (fun (t_13 : ¬ r_11.toInt = 0) => ?_)
      · refine wa_iconst B 0 dX8_endsWell_34 (by decide) ?_
        exact hret _ _ _ _ dX8_endsWell_35 (Or.inl rfl) ⟨hV_q_10, hF_q_10, hK_q_10, (by have h9 : (0 : Int32).toInt = 0 := rfl; first | omega | (refine ⟨?_, ?_⟩ <;> omega) | trivial)⟩
      · refine wa_iconst B 1 dX8_endsWell_30 (by decide) ?_
        refine wa_goto B 35 dX8_endsWell_31 (by decide) ?_
        exact hret _ _ _ _ dX8_endsWell_35 (Or.inr rfl) ⟨hV_q_10, hF_q_10, hK_q_10, (by have h9 : (1 : Int32).toInt = 1 := rfl; first | omega | (refine ⟨?_, ?_⟩ <;> omega) | trivial)⟩
set_option maxHeartbeats 4000000 in
set_option maxRecDepth 100000 in
theorem k_X8_number_c (l : Launch) (dC : Nat → ClassId) (dI : Nat → Nat → Nat) (h : Sh) (L : List Nat) (hN : sx_nd L) (q : Sg) (hV : sx_V h L q) {a0 : Nat} (ha0 : a0 ∈ L) (ka0 : h.1 a0 = 8)   (hy0 : (q.1 a0 3).toInt = -1 ∨ 0 ≤ (q.1 a0 3).toInt ∧ (q.1 a0 3).toInt ≤ 9 ∧ 0 ≤ (q.1 a0 4).toInt ∧ (q.1 a0 4).toInt ≤ 9) : CMi l dC dI h L yX8_number wsX8_number ({ frames := 0, cells := 0, slots := 0, locals := 0 } : Room) q [.ref a0] (fun r q' => q = q' ∧ ((q.1 a0 3).toInt = -1 ∧ r.toInt = (q.1 a0 4).toInt ∨ ¬ (q.1 a0 3).toInt = -1 ∧ r.toInt = 10 * (q.1 a0 3).toInt + (q.1 a0 4).toInt)) := by
  refine cm_i (cc := cX8_number) (mL := 1) (own := RX8) hN (by decide) rfl rfl (Nat.le_of_ble_eq_true rfl) (fun Z B hret => ?_)
  show WA l dC dI h L ({ frames := 0, cells := 0, slots := 0, locals := 0 } : Room) 1 Z q 0 [(0, .ref a0)] []
  refine wa_aload_n B dX8_number_0 rfl 0 rfl ?_
  refine wa_getI B (C := RX8) (T := TX8) (N := 11) iq_X8_number_X8 ha0 ka0 (by decide) rfl 3 (by decide) (by decide) (by decide +kernel) rfl (by decide) (v := (q.1 a0 3)) rfl dX8_number_1 ?_
  refine wa_iconst B (-1) dX8_number_4 (by decide) ?_
  refine wa_icmp_ne B 15 dX8_number_5 (by decide) (fun (t_1 : ¬ (q.1 a0 3).toInt = (-1)) => ?_) (fun (t_1 : (q.1 a0 3).toInt = (-1)) => ?_)
  · refine wa_bipush B 10 dX8_number_15 (by decide) ?_
    refine wa_aload_n B dX8_number_17 rfl 0 rfl ?_
    refine wa_getI B (C := RX8) (T := TX8) (N := 11) iq_X8_number_X8 ha0 ka0 (by decide) rfl 3 (by decide) (by decide) (by decide +kernel) rfl (by decide) (v := (q.1 a0 3)) rfl dX8_number_18 ?_
    refine wa_imul B dX8_number_21 (fun v_2 ev_2 => ?_)
    refine wa_aload_n B dX8_number_22 rfl 0 rfl ?_
    refine wa_getI B (C := RX8) (T := TX8) (N := 11) iq_X8_number_X8 ha0 ka0 (by decide) rfl 4 (by decide) (by decide) (by decide +kernel) rfl (by decide) (v := (q.1 a0 4)) rfl dX8_number_23 ?_
    refine wa_iadd B dX8_number_26 (fun v_3 ev_3 => ?_)
    have tv_2 : v_2.toInt = 10 * (q.1 a0 3).toInt := by have b1 := zx_bd (q.1 a0 3); rw [ev_2]; exact zx_mul (show (-2147483648 : Int) ≤ 10 * (q.1 a0 3).toInt by omega) (show 10 * (q.1 a0 3).toInt < (2147483648 : Int) by omega)
    have tv_3 : v_3.toInt = v_2.toInt + (q.1 a0 4).toInt := by have b0 := zx_bd v_2; have b1 := zx_bd (q.1 a0 4); rw [ev_3]; exact zx_add (show (-2147483648 : Int) ≤ v_2.toInt + (q.1 a0 4).toInt by omega) (show v_2.toInt + (q.1 a0 4).toInt < (2147483648 : Int) by omega)
    exact hret _ _ _ _ dX8_number_27 ⟨rfl, (by first | omega | (refine ⟨?_, ?_⟩ <;> omega) | trivial)⟩
  · refine wa_aload_n B dX8_number_8 rfl 0 rfl ?_
    refine wa_getI B (C := RX8) (T := TX8) (N := 11) iq_X8_number_X8 ha0 ka0 (by decide) rfl 4 (by decide) (by decide) (by decide +kernel) rfl (by decide) (v := (q.1 a0 4)) rfl dX8_number_9 ?_
    refine wa_goto B 27 dX8_number_12 (by decide) ?_
    exact hret _ _ _ _ dX8_number_27 ⟨rfl, (by first | omega | (refine ⟨?_, ?_⟩ <;> omega) | trivial)⟩
set_option maxHeartbeats 4000000 in
set_option maxRecDepth 100000 in
theorem k_X8_begin_c (l : Launch) (dC : Nat → ClassId) (dI : Nat → Nat → Nat) (h : Sh) (L : List Nat) (hN : sx_nd L) (q : Sg) (hV : sx_V h L q) {a0 : Nat} (ha0 : a0 ∈ L) (ka0 : h.1 a0 = 8) {a1 : Nat} (ha1 : a1 ∈ L) (ka1 : h.1 a1 = 7) (n1 : Int32) (n2 : Int32)   (hy0 : n2.toInt = 0 ∨ n2.toInt = 1) : CMv l dC dI h L yX8_begin wsX8_begin ({ frames := 0, cells := 0, slots := 0, locals := 0 } : Room) q [.ref a0, .ref a1, .int n1, .int n2] (fun q' => sx_V h L q' ∧ sx_fr h L (fun a => a = a0 ∧ h.1 a = 8) q q' ∧ (q'.2.2.1 a0 7 = a1 ∧ (q'.1 a0 8).toInt = n1.toInt ∧ (q'.1 a0 9).toInt = n2.toInt ∧ (q'.1 a0 10).toInt = 0)) := by
  refine cm_v (cc := cX8_begin) (mL := 4) (own := RX8) hN (by decide) rfl rfl (Nat.le_of_ble_eq_true rfl) (fun Z B hret => ?_)
  have hF : sx_fr h L (fun a => a = a0 ∧ h.1 a = 8) q q := sx_fr.rf
  show WA l dC dI h L ({ frames := 0, cells := 0, slots := 0, locals := 0 } : Room) 4 Z q 0 [(0, .ref a0), (1, .ref a1), (2, .int n1), (3, .int n2)] []
  refine wa_aload_n B dX8_begin_0 rfl 0 rfl ?_
  refine wa_aload_n B dX8_begin_1 rfl 1 rfl ?_
  refine wa_putR B (C := RX8) (T := TX8) (N := 11) iq_X8_begin_X8 ha0 ka0 (by decide) rfl 7 (by decide) (by decide) (by decide +kernel) rfl (fun _ _ _ => rfl) (v := a1) (ty := (.object "ClayAccounts$Text")) tyX8 tyX8_ok nmX8 rfl (by decide +kernel) rfl rfl dX8_begin_2 (fun q_1 eq_1 => ?_)
  have hV_q_1 : sx_V h L q_1 := by rw [eq_1]; exact hV.pR (by rw [ka0]; decide) (fun _ => ⟨ha1, by rw [ka1, ka0]; rfl, fun z => by rw [ka0] at z; exact absurd rfl z⟩)
  have hF_q_1 : sx_fr h L (fun a => a = a0 ∧ h.1 a = 8) q q_1 := hF.tr (by rw [eq_1]; exact sx_fr.pR (show (a0 = a0 ∧ h.1 a0 = 8) ∧ (h.1 a0 = 8 ∨ h.1 a0 = 11) from by omega))
  have z_2 : q_1.2.2.1 a0 7 = a1 := by rw [eq_1]; exact sg_pR_e
  refine wa_aload_n B dX8_begin_5 rfl 0 rfl ?_
  refine wa_iload_n B dX8_begin_6 rfl 2 rfl ?_
  refine wa_putI B (C := RX8) (T := TX8) (N := 11) iq_X8_begin_X8 ha0 ka0 (by decide) rfl 8 (by decide) (by decide) (by decide +kernel) rfl (by decide) (v := n1) (ty := .int) tyX8 tyX8_ok nmX8 rfl (by decide +kernel) rfl rfl dX8_begin_7 (fun q_3 eq_3 => ?_)
  have hV_q_3 : sx_V h L q_3 := by rw [eq_3]; exact hV_q_1.pI ka0 trivial
  have hF_q_3 : sx_fr h L (fun a => a = a0 ∧ h.1 a = 8) q q_3 := hF_q_1.tr (by rw [eq_3]; exact sx_fr.pI (show a0 = a0 ∧ h.1 a0 = 8 from by omega))
  have z_4 : q_3.1 a0 8 = n1 := by rw [eq_3]; exact sg_pI_e
  refine wa_aload_n B dX8_begin_10 rfl 0 rfl ?_
  refine wa_iload_n B dX8_begin_11 rfl 3 rfl ?_
  refine wa_putI B (C := RX8) (T := TX8) (N := 11) iq_X8_begin_X8 ha0 ka0 (by decide) rfl 9 (by decide) (by decide) (by decide +kernel) rfl (by decide) (v := n2) (ty := .boolean) tyX8 tyX8_ok nmX8 rfl (by decide +kernel) (by rcases zx_01 (show n2.toInt = 0 ∨ n2.toInt = 1 by omega) with z | z <;> rw [z] <;> rfl) (by rcases zx_01 (show n2.toInt = 0 ∨ n2.toInt = 1 by omega) with z | z <;> rw [z] <;> rfl) dX8_begin_12 (fun q_5 eq_5 => ?_)
  have hV_q_5 : sx_V h L q_5 := by rw [eq_5]; exact hV_q_3.pI ka0 trivial
  have hF_q_5 : sx_fr h L (fun a => a = a0 ∧ h.1 a = 8) q q_5 := hF_q_3.tr (by rw [eq_5]; exact sx_fr.pI (show a0 = a0 ∧ h.1 a0 = 8 from by omega))
  have z_6 : q_5.1 a0 9 = n2 := by rw [eq_5]; exact sg_pI_e
  refine wa_aload_n B dX8_begin_15 rfl 0 rfl ?_
  refine wa_iconst B 0 dX8_begin_16 (by decide) ?_
  refine wa_putI B (C := RX8) (T := TX8) (N := 11) iq_X8_begin_X8 ha0 ka0 (by decide) rfl 10 (by decide) (by decide) (by decide +kernel) rfl (by decide) (v := 0) (ty := .int) tyX8 tyX8_ok nmX8 rfl (by decide +kernel) rfl rfl dX8_begin_17 (fun q_7 eq_7 => ?_)
  have hV_q_7 : sx_V h L q_7 := by rw [eq_7]; exact hV_q_5.pI ka0 trivial
  have hF_q_7 : sx_fr h L (fun a => a = a0 ∧ h.1 a = 8) q q_7 := hF_q_5.tr (by rw [eq_7]; exact sx_fr.pI (show a0 = a0 ∧ h.1 a0 = 8 from by omega))
  have z_8 : q_7.1 a0 10 = 0 := by rw [eq_7]; exact sg_pI_e
  refine wa_aload_n B dX8_begin_20 rfl 0 rfl ?_
  refine wa_iconst B 0 dX8_begin_21 (by decide) ?_
  refine wa_putI B (C := RX8) (T := TX8) (N := 11) iq_X8_begin_X8 ha0 ka0 (by decide) rfl 5 (by decide) (by decide) (by decide +kernel) rfl (by decide) (v := 0) (ty := .int) tyX8 tyX8_ok nmX8 rfl (by decide +kernel) rfl rfl dX8_begin_22 (fun q_9 eq_9 => ?_)
  have hV_q_9 : sx_V h L q_9 := by rw [eq_9]; exact hV_q_7.pI ka0 trivial
  have hF_q_9 : sx_fr h L (fun a => a = a0 ∧ h.1 a = 8) q q_9 := hF_q_7.tr (by rw [eq_9]; exact sx_fr.pI (show a0 = a0 ∧ h.1 a0 = 8 from by omega))
  have z_10 : q_9.1 a0 5 = 0 := by rw [eq_9]; exact sg_pI_e
  refine wa_aload_n B dX8_begin_25 rfl 0 rfl ?_
  refine wa_iconst B 0 dX8_begin_26 (by decide) ?_
  refine wa_putI B (C := RX8) (T := TX8) (N := 11) iq_X8_begin_X8 ha0 ka0 (by decide) rfl 6 (by decide) (by decide) (by decide +kernel) rfl (by decide) (v := 0) (ty := .int) tyX8 tyX8_ok nmX8 rfl (by decide +kernel) rfl rfl dX8_begin_27 (fun q_11 eq_11 => ?_)
  have hV_q_11 : sx_V h L q_11 := by rw [eq_11]; exact hV_q_9.pI ka0 trivial
  have hF_q_11 : sx_fr h L (fun a => a = a0 ∧ h.1 a = 8) q q_11 := hF_q_9.tr (by rw [eq_11]; exact sx_fr.pI (show a0 = a0 ∧ h.1 a0 = 8 from by omega))
  have z_12 : q_11.1 a0 6 = 0 := by rw [eq_11]; exact sg_pI_e
  have z_13 : q_11.1 a0 10 = 0 := ((show q_11.1 a0 10 = q_9.1 a0 10 from by rw [eq_11]; exact sg_pI_k (by decide))).trans (((show q_9.1 a0 10 = q_7.1 a0 10 from by rw [eq_9]; exact sg_pI_k (by decide))).trans (z_8))
  have y_14 : (q_11.1 a0 10).toInt = 0 := by rw [z_13]; rfl
  have z_15 : q_11.1 a0 8 = n1 := ((show q_11.1 a0 8 = q_9.1 a0 8 from by rw [eq_11]; exact sg_pI_k (by decide))).trans (((show q_9.1 a0 8 = q_7.1 a0 8 from by rw [eq_9]; exact sg_pI_k (by decide))).trans (((show q_7.1 a0 8 = q_5.1 a0 8 from by rw [eq_7]; exact sg_pI_k (by decide))).trans (((show q_5.1 a0 8 = q_3.1 a0 8 from by rw [eq_5]; exact sg_pI_k (by decide))).trans (z_4))))
  have y_16 : (q_11.1 a0 8).toInt = n1.toInt := by rw [z_15]
  have z_17 : q_11.1 a0 9 = n2 := ((show q_11.1 a0 9 = q_9.1 a0 9 from by rw [eq_11]; exact sg_pI_k (by decide))).trans (((show q_9.1 a0 9 = q_7.1 a0 9 from by rw [eq_9]; exact sg_pI_k (by decide))).trans (((show q_7.1 a0 9 = q_5.1 a0 9 from by rw [eq_7]; exact sg_pI_k (by decide))).trans (z_6)))
  have y_18 : (q_11.1 a0 9).toInt = n2.toInt := by rw [z_17]
  have z_19 : q_11.2.2.1 a0 7 = a1 := ((show q_11.2.2.1 a0 7 = q_9.2.2.1 a0 7 from by rw [eq_11]; rfl)).trans (((show q_9.2.2.1 a0 7 = q_7.2.2.1 a0 7 from by rw [eq_9]; rfl)).trans (((show q_7.2.2.1 a0 7 = q_5.2.2.1 a0 7 from by rw [eq_7]; rfl)).trans (((show q_5.2.2.1 a0 7 = q_3.2.2.1 a0 7 from by rw [eq_5]; rfl)).trans (((show q_3.2.2.1 a0 7 = q_1.2.2.1 a0 7 from by rw [eq_3]; rfl)).trans (z_2)))))
  exact hret _ _ _ dX8_begin_30 ⟨hV_q_11, hF_q_11, ⟨z_19, by omega, by omega, by omega⟩⟩
