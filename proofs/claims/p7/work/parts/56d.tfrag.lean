set_option maxHeartbeats 4000000 in
set_option maxRecDepth 100000 in
theorem k_X7_byteAt_c (l : Launch) (dC : Nat → ClassId) (dI : Nat → Nat → Nat) (h : Sh) (L : List Nat) (hN : sx_nd L) (q : Sg) (hV : sx_V h L q) {a0 : Nat} (ha0 : a0 ∈ L) (ka0 : h.1 a0 = 7) (n1 : Int32) {b0 : Nat} (eb0 : q.2.2.1 a0 0 = b0)    : CMi l dC dI h L yX7_byteAt wsX7_byteAt ({ frames := 0, cells := 0, slots := 0, locals := 0 } : Room) q [.ref a0, .int n1] (fun r q' => q = q' ∧ ((-1) ≤ r.toInt ∧ r.toInt ≤ 255 ∧ (0 ≤ n1.toInt ∧ n1.toInt < (q.1 a0 1).toInt → r = (q.2.2.2.1 b0 n1.toNatClampNeg &&& 255)))) := by
  refine cm_i (cc := cX7_byteAt) (mL := 2) (own := RX7) hN (by decide) rfl rfl (Nat.le_of_ble_eq_true rfl) (fun Z B hret => ?_)
  obtain ⟨hb0, kb0⟩ : b0 ∈ L ∧ h.1 b0 = 300 := by obtain ⟨r9, e9, z1, z2⟩ := hV.ref (t := 300) ha0 ka0 0 rfl (by decide); rw [← eb0, e9]; exact ⟨z1, z2⟩
  show WA l dC dI h L ({ frames := 0, cells := 0, slots := 0, locals := 0 } : Room) 2 Z q 0 [(0, .ref a0), (1, .int n1)] []
  refine wa_iload_n B dX7_byteAt_0 rfl 1 rfl ?_
  refine wa_if_lt B 25 dX7_byteAt_1 (by decide) (fun (t_1 : n1.toInt < 0) => ?_) (fun (t_1 : ¬ n1.toInt < 0) => ?_)
  · refine wa_iconst B (-1) dX7_byteAt_25 (by decide) ?_
    exact hret _ _ _ _ dX7_byteAt_26 ⟨rfl, ⟨by decide, by decide, fun z9 => by exfalso; omega⟩⟩
  · refine wa_iload_n B dX7_byteAt_4 rfl 1 rfl ?_
    refine wa_aload_n B dX7_byteAt_5 rfl 0 rfl ?_
    refine wa_getI B (C := RX7) (T := TX7) (N := 2) iq_X7_byteAt_X7 ha0 ka0 (by decide) rfl 1 (by decide) (by decide) (by decide +kernel) rfl (by decide) (v := (q.1 a0 1)) rfl dX7_byteAt_6 ?_
    have g_2 : (0 : Int) ≤ (q.1 a0 1).toInt ∧ (q.1 a0 1).toInt ≤ (h.2.1 b0 : Int) := by have z9 := hV.int ha0 ka0 1; rw [eb0] at z9; exact z9
    have l_3 : h.2.1 b0 ≤ 5000 := hV.len hb0
    refine wa_icmp_ge B 25 dX7_byteAt_9 (by decide) (fun (t_4 : (q.1 a0 1).toInt ≤ n1.toInt) => ?_) (fun (t_4 : ¬ (q.1 a0 1).toInt ≤ n1.toInt) => ?_)
    · refine wa_iconst B (-1) dX7_byteAt_25 (by decide) ?_
      exact hret _ _ _ _ dX7_byteAt_26 ⟨rfl, ⟨by decide, by decide, fun z9 => by exfalso; omega⟩⟩
    · refine wa_aload_n B dX7_byteAt_12 rfl 0 rfl ?_
      refine wa_getR B (C := RX7) (T := TX7) (N := 2) iq_X7_byteAt_X7 ha0 ka0 (by decide) rfl 0 (by decide) (by decide) (by decide +kernel) rfl (fun _ _ _ => rfl) (v := b0) eb0 dX7_byteAt_13 ?_
      refine wa_iload_n B dX7_byteAt_16 rfl 1 rfl ?_
      refine wa_baload B hb0 kb0 (by decide) (by decide) (show 0 ≤ n1.toInt by omega) (show n1.toInt < (h.2.1 b0 : Int) by omega) (v := (q.2.2.2.1 b0 (n1 : Int32).toNatClampNeg)) rfl dX7_byteAt_17 ?_
      refine wa_sipush B 255 dX7_byteAt_18 (by decide) ?_
      refine wa_iand B dX7_byteAt_21 (fun v_5 ev_5 => ?_)
      have gv_5 : 0 ≤ v_5.toInt ∧ v_5.toInt ≤ 255 := by rw [ev_5]; exact zx_and255 _
      refine wa_goto B 26 dX7_byteAt_22 (by decide) ?_
      exact hret _ _ _ _ dX7_byteAt_26 ⟨rfl, ⟨by omega, by omega, fun _ => ev_5⟩⟩
set_option maxHeartbeats 4000000 in
set_option maxRecDepth 100000 in
theorem k_X0_take_c (l : Launch) (dC : Nat → ClassId) (dI : Nat → Nat → Nat) (h : Sh) (L : List Nat) (hN : sx_nd L) (q : Sg) (hV : sx_V h L q) {a0 : Nat} (ha0 : a0 ∈ L) (ka0 : h.1 a0 = 0) {a1 : Nat} (ha1 : a1 ∈ L) (ka1 : h.1 a1 = 7) (n1 : Int32) (n2 : Int32) {t0 : Nat} (et0 : q.2.2.1 a0 0 = t0) {b0 : Nat} (eb0 : q.2.2.1 t0 0 = b0) {c0 : Nat} (ec0 : q.2.2.1 a1 0 = c0) (na1_t0 : ¬ a1 = t0) (nb0_c0 : ¬ b0 = c0)    : CMv l dC dI h L yX0_take wsX0_take ({ frames := 1, cells := 0, slots := 0, locals := 21 } : Room) q [.ref a0, .ref a1, .int n1, .int n2] (fun q' => sx_V h L q' ∧ sx_fr h L (fun a => a = a0 ∧ h.1 a = 0 ∨ a = t0 ∧ h.1 a = 7 ∨ a = b0 ∧ h.1 a = 300) q q' ∧ ((q'.1 a0 3).toInt = 1 + ((ty_c (fun j => q.2.2.2.1 c0 j &&& 255) (q.1 a1 1).toInt.toNat : Nat) : Int))) := by
  refine cm_v (cc := cX0_take) (mL := 6) (own := RX0) hN (by decide) rfl rfl (Nat.le_of_ble_eq_true rfl) (fun Z B hret => ?_)
  have hF : sx_fr h L (fun a => a = a0 ∧ h.1 a = 0 ∨ a = t0 ∧ h.1 a = 7 ∨ a = b0 ∧ h.1 a = 300) q q := sx_fr.rf
  obtain ⟨ht0, kt0, lt0⟩ : t0 ∈ L ∧ h.1 t0 = 7 ∧ h.2.1 t0 = 4 := by obtain ⟨r9, e9, z1, z2, z3⟩ := hV.refn (t := 7) (n := 4) ha0 ka0 0 rfl (by decide) rfl (by decide); rw [← et0, e9]; exact ⟨z1, z2, z3⟩
  obtain ⟨hb0, kb0, lb0⟩ : b0 ∈ L ∧ h.1 b0 = 300 ∧ h.2.1 b0 = 200 := by obtain ⟨r9, e9, z1, z2, z3⟩ := hV.refn (t := 300) (n := 200) ht0 kt0 0 rfl (by decide) (by rw [lt0]; rfl) (by decide); rw [← eb0, e9]; exact ⟨z1, z2, z3⟩
  obtain ⟨hc0, kc0⟩ : c0 ∈ L ∧ h.1 c0 = 300 := by obtain ⟨r9, e9, z1, z2⟩ := hV.ref (t := 300) ha1 ka1 0 rfl (by decide); rw [← ec0, e9]; exact ⟨z1, z2⟩
  show WA l dC dI h L ({ frames := 1, cells := 0, slots := 0, locals := 21 } : Room) 6 Z q 0 [(0, .ref a0), (1, .ref a1), (2, .int n1), (3, .int n2)] []
  have g_1 : (0 : Int) ≤ (q.1 a1 1).toInt ∧ (q.1 a1 1).toInt ≤ (h.2.1 c0 : Int) := by have z9 := hV.int ha1 ka1 1; rw [ec0] at z9; exact z9
  have l_2 : h.2.1 c0 ≤ 5000 := hV.len hc0
  refine wa_aload_n B dX0_take_0 rfl 0 rfl ?_
  refine wa_getR B (C := RX0) (T := TX0) (N := 4) iq_X0_take_X0 ha0 ka0 (by decide) rfl 0 (by decide) (by decide) (by decide +kernel) rfl (fun _ _ _ => rfl) (v := t0) et0 dX0_take_1 ?_
  refine wa_callVv B (x := (RX7, TX7, 2)) (As := []) (rest := []) (k_X7_clear l dC dI h L hN q hV (a0 := t0) ht0 kt0  ) (cwV 0 B.1.2.2.2.2 gX0_take_X7_clear rfl rfl rfl (by decide +kernel) ⟨Nat.le_of_ble_eq_true rfl, Nat.le_of_ble_eq_true rfl⟩) ht0 kt0 (by decide) rfl rfl rfl (Nat.le_of_ble_eq_true rfl) dX0_take_4 (fun q_3 w_4 => ?_)
  obtain ⟨hV_q_3, h2_q_3, hw_4⟩ := w_4
  have hF_q_3 : sx_fr h L (fun a => a = a0 ∧ h.1 a = 0 ∨ a = t0 ∧ h.1 a = 7 ∨ a = b0 ∧ h.1 a = 300) q q_3 := hF.tr (h2_q_3.mono (fun a (z : a = t0 ∧ h.1 a = 7) => ((fun z => (Or.inr (Or.inl z))) z)))
  refine wa_aload_n B dX0_take_7 rfl 0 rfl ?_
  refine wa_iconst B 1 dX0_take_8 (by decide) ?_
  refine wa_putI B (C := RX0) (T := TX0) (N := 4) iq_X0_take_X0 ha0 ka0 (by decide) rfl 3 (by decide) (by decide) (by decide +kernel) rfl (by decide) (v := 1) (ty := .int) tyX0 tyX0_ok nmX0 rfl (by decide +kernel) rfl rfl dX0_take_9 (fun q_5 eq_5 => ?_)
  have hV_q_5 : sx_V h L q_5 := by rw [eq_5]; exact hV_q_3.pI ka0 trivial
  have hF_q_5 : sx_fr h L (fun a => a = a0 ∧ h.1 a = 0 ∨ a = t0 ∧ h.1 a = 7 ∨ a = b0 ∧ h.1 a = 300) q q_5 := hF_q_3.tr (by rw [eq_5]; exact sx_fr.pI (show a0 = a0 ∧ h.1 a0 = 0 ∨ a0 = t0 ∧ h.1 a0 = 7 ∨ a0 = b0 ∧ h.1 a0 = 300 from (Or.inl ⟨rfl, ka0⟩)))
  have z_6 : q_5.1 a0 3 = 1 := by rw [eq_5]; exact sg_pI_e
  refine wa_iconst B 0 dX0_take_12 (by decide) ?_
  refine wa_istore B [(4, .int 0), (0, .ref a0), (1, .ref a1), (2, .int n1), (3, .int n2)] dX0_take_13 (by decide) rfl ?_
  have z_9 : q_5.1 a1 1 = q.1 a1 1 := ((show q_5.1 a1 1 = q_3.1 a1 1 from by rw [eq_5]; exact sg_pI_k (by decide))).trans (h2_q_3.I ha1 (show ¬ (a1 = t0 ∧ h.1 a1 = 7) from (fun z => absurd z.1 (by omega))) 1)
  have z_10 : q_5.1 t0 1 = 0 := ((show q_5.1 t0 1 = q_3.1 t0 1 from by rw [eq_5]; exact sg_pI_k (by decide))).trans (hw_4)
  have z_11 : q_5.2.2.1 a0 0 = t0 := ((show q_5.2.2.1 a0 0 = q_3.2.2.1 a0 0 from by rw [eq_5]; rfl)).trans ((h2_q_3.R ha0 (fun z9 => absurd z9.2 (by omega)) 0).trans (et0))
  have z_12 : q_5.2.2.1 t0 0 = b0 := ((show q_5.2.2.1 t0 0 = q_3.2.2.1 t0 0 from by rw [eq_5]; rfl)).trans ((h2_q_3.R ht0 (fun z9 => absurd z9.2 (by omega)) 0).trans (eb0))
  have z_13 : q_5.2.2.1 a1 0 = c0 := ((show q_5.2.2.1 a1 0 = q_3.2.2.1 a1 0 from by rw [eq_5]; rfl)).trans ((h2_q_3.R ha1 (fun z9 => absurd z9.2 (by omega)) 0).trans (ec0))
  have z_14 : q_5.2.2.2.1 c0 = q.2.2.2.1 c0 := ((show q_5.2.2.2.1 c0 = q_3.2.2.2.1 c0 from by rw [eq_5]; rfl)).trans (h2_q_3.G hc0 (show ¬ (c0 = t0 ∧ h.1 c0 = 7) from (fun z => absurd (z.2.symm.trans kc0) (by decide))) (by rw [kc0]; decide))
  have Lp_15_18 : ∀ (n : Nat) (v_7 : Int32) (q_8 : Sg), sx_V h L q_8 → sx_fr h L (fun a => a = a0 ∧ h.1 a = 0 ∨ a = t0 ∧ h.1 a = 7 ∨ a = b0 ∧ h.1 a = 300) q q_8 → q_8.1 a1 1 = (q.1 a1 1) → q_8.2.2.1 a0 0 = t0 → q_8.2.2.1 t0 0 = b0 → q_8.2.2.1 a1 0 = c0 → q_8.2.2.2.1 c0 = (q.2.2.2.1 c0) → 0 ≤ v_7.toInt → (q_8.1 a0 3).toInt = 1 + ((ty_c (fun j => q.2.2.2.1 c0 j &&& 255) (v_7).toNatClampNeg : Nat) : Int) → v_7.toInt ≤ (q_8.1 a1 1).toInt → ((q_8.1 a1 1).toInt - v_7.toInt : Int).toNat < n → WA l dC dI h L ({ frames := 1, cells := 0, slots := 0, locals := 21 } : Room) 6 Z q_8 15 [(4, .int v_7), (0, .ref a0), (1, .ref a1), (2, .int n1), (3, .int n2)] [] := by
    intro n
    induction n with
    | zero =>
      intro v_7 q_8 hV_q_8 hF_q_8 p0_q_8 p1_q_8 p2_q_8 p3_q_8 p4_q_8 x_15 x_16 x_17 hn
      exact absurd hn (Nat.not_lt_zero _)
    | succ n ih_20 =>
      intro v_7 q_8 hV_q_8 hF_q_8 p0_q_8 p1_q_8 p2_q_8 p3_q_8 p4_q_8 x_15 x_16 x_17 hn
      have y_19 : (q_8.1 a1 1).toInt = (q.1 a1 1).toInt := by rw [p0_q_8]
      refine wa_iload B dX0_take_15 0 rfl ?_
      refine wa_aload_n B dX0_take_17 rfl 2 rfl ?_
      refine wa_getI B (C := RX7) (T := TX7) (N := 2) iq_X0_take_X7 ha1 ka1 (by decide) rfl 1 (by decide) (by decide) (by decide +kernel) rfl (by decide) (v := (q.1 a1 1)) p0_q_8 dX0_take_18 ?_
      have g_21 : (0 : Int) ≤ (q.1 a1 1).toInt ∧ (q.1 a1 1).toInt ≤ (h.2.1 c0 : Int) := by have z9 := hV_q_8.int ha1 ka1 1; rw [p3_q_8] at z9; rw [p0_q_8] at z9; exact z9
      refine wa_icmp_ge B 68 dX0_take_21 (by decide) (fun (t_22 : (q.1 a1 1).toInt ≤ v_7.toInt) => ?_) (fun (t_22 : ¬ (q.1 a1 1).toInt ≤ v_7.toInt) => ?_)
      · refine wa_aload_n B dX0_take_68 rfl 1 rfl ?_
        refine wa_iload_n B dX0_take_69 rfl 3 rfl ?_
        refine wa_putI B (C := RX0) (T := TX0) (N := 4) iq_X0_take_X0 ha0 ka0 (by decide) rfl 1 (by decide) (by decide) (by decide +kernel) rfl (by decide) (v := n1) (ty := .int) tyX0 tyX0_ok nmX0 rfl (by decide +kernel) rfl rfl dX0_take_70 (fun q_23 eq_23 => ?_)
        have hV_q_23 : sx_V h L q_23 := by rw [eq_23]; exact hV_q_8.pI ka0 trivial
        have hF_q_23 : sx_fr h L (fun a => a = a0 ∧ h.1 a = 0 ∨ a = t0 ∧ h.1 a = 7 ∨ a = b0 ∧ h.1 a = 300) q q_23 := hF_q_8.tr (by rw [eq_23]; exact sx_fr.pI (show a0 = a0 ∧ h.1 a0 = 0 ∨ a0 = t0 ∧ h.1 a0 = 7 ∨ a0 = b0 ∧ h.1 a0 = 300 from (Or.inl ⟨rfl, ka0⟩)))
        have z_24 : q_23.1 a0 1 = n1 := by rw [eq_23]; exact sg_pI_e
        refine wa_aload_n B dX0_take_73 rfl 1 rfl ?_
        refine wa_iload_n B dX0_take_74 rfl 4 rfl ?_
        refine wa_putI B (C := RX0) (T := TX0) (N := 4) iq_X0_take_X0 ha0 ka0 (by decide) rfl 2 (by decide) (by decide) (by decide +kernel) rfl (by decide) (v := n2) (ty := .int) tyX0 tyX0_ok nmX0 rfl (by decide +kernel) rfl rfl dX0_take_75 (fun q_25 eq_25 => ?_)
        have hV_q_25 : sx_V h L q_25 := by rw [eq_25]; exact hV_q_23.pI ka0 trivial
        have hF_q_25 : sx_fr h L (fun a => a = a0 ∧ h.1 a = 0 ∨ a = t0 ∧ h.1 a = 7 ∨ a = b0 ∧ h.1 a = 300) q q_25 := hF_q_23.tr (by rw [eq_25]; exact sx_fr.pI (show a0 = a0 ∧ h.1 a0 = 0 ∨ a0 = t0 ∧ h.1 a0 = 7 ∨ a0 = b0 ∧ h.1 a0 = 300 from (Or.inl ⟨rfl, ka0⟩)))
        have z_26 : q_25.1 a0 2 = n2 := by rw [eq_25]; exact sg_pI_e
        have z_27 : q_25.1 a0 3 = q_8.1 a0 3 := ((show q_25.1 a0 3 = q_23.1 a0 3 from by rw [eq_25]; exact sg_pI_k (by decide))).trans ((show q_23.1 a0 3 = q_8.1 a0 3 from by rw [eq_23]; exact sg_pI_k (by decide)))
        have y_28 : (q_25.1 a0 3).toInt = (q_8.1 a0 3).toInt := by rw [z_27]
        exact hret _ _ _ dX0_take_78 ⟨hV_q_25, hF_q_25, (by have x9 := x_16; rw [show (v_7 : Int32).toNatClampNeg = (q.1 a1 1).toInt.toNat from (by have a9 := zx_nc v_7; omega)] at x9; omega)⟩
      · refine wa_aload_n B dX0_take_24 rfl 2 rfl ?_
        refine wa_iload B dX0_take_25 0 rfl ?_
        have y_29 : (q_8.1 a1 1).toInt = (q.1 a1 1).toInt := by rw [p0_q_8]
        refine wa_callVi B (x := (RX7, TX7, 2)) (As := [.int v_7]) (rest := []) (k_X7_byteAt_c l dC dI h L hN q_8 hV_q_8 (a0 := a1) ha1 ka1 v_7 (b0 := c0) p3_q_8  ) (cwV 1 B.1.2.2.2.2 gX0_take_X7_byteAt rfl rfl rfl (by decide +kernel) ⟨Nat.le_of_ble_eq_true rfl, Nat.le_of_ble_eq_true rfl⟩) ha1 ka1 (by decide) rfl rfl rfl (Nat.le_of_ble_eq_true rfl) dX0_take_27 (fun r_31 q_30 w_32 => ?_)
        obtain ⟨ew_32, hw_32⟩ := w_32
        subst ew_32
        have y_33 : (q_8.1 a1 1).toInt = (q.1 a1 1).toInt := by rw [p0_q_8]
        have u_34 : ((fun j => q.2.2.2.1 c0 j &&& 255) (v_7 : Int32).toNatClampNeg).toInt = r_31.toInt := by show (q.2.2.2.1 c0 _ &&& 255).toInt = _; rw [hw_32.2.2 ⟨by omega, by omega⟩, p4_q_8]
        refine wa_istore B [(5, .int r_31), (4, .int v_7), (0, .ref a0), (1, .ref a1), (2, .int n1), (3, .int n2)] dX0_take_30 (by decide) rfl ?_
        refine wa_aload_n B dX0_take_32 rfl 2 rfl ?_
        refine wa_getR B (C := RX0) (T := TX0) (N := 4) iq_X0_take_X0 ha0 ka0 (by decide) rfl 0 (by decide) (by decide) (by decide +kernel) rfl (fun _ _ _ => rfl) (v := t0) p1_q_8 dX0_take_33 ?_
        refine wa_iload B dX0_take_36 0 rfl ?_
        refine wa_callVv B (x := (RX7, TX7, 2)) (As := [.int r_31]) (rest := []) (k_X7_put l dC dI h L hN q_8 hV_q_8 (a0 := t0) ht0 kt0 r_31 (b0 := b0) p2_q_8  ) (cwV 1 B.1.2.2.2.2 gX0_take_X7_put rfl rfl rfl (by decide +kernel) ⟨Nat.le_of_ble_eq_true rfl, Nat.le_of_ble_eq_true rfl⟩) ht0 kt0 (by decide) rfl rfl rfl (Nat.le_of_ble_eq_true rfl) dX0_take_38 (fun q_35 w_36 => ?_)
        obtain ⟨hV_q_35, h2_q_35, hw_36⟩ := w_36
        have hF_q_35 : sx_fr h L (fun a => a = a0 ∧ h.1 a = 0 ∨ a = t0 ∧ h.1 a = 7 ∨ a = b0 ∧ h.1 a = 300) q q_35 := hF_q_8.tr (h2_q_35.mono (fun a (z : a = t0 ∧ h.1 a = 7 ∨ a = b0 ∧ h.1 a = 300) => ((fun z => z.elim (fun z => (Or.inr (Or.inl z))) (fun z => (Or.inr (Or.inr z)))) z)))
        refine wa_aload_n B dX0_take_41 rfl 2 rfl ?_
        refine wa_dup B dX0_take_42 rfl ?_
        have z_37 : q_35.1 a0 3 = q_8.1 a0 3 := h2_q_35.I ha0 (show ¬ (a0 = t0 ∧ h.1 a0 = 7 ∨ a0 = b0 ∧ h.1 a0 = 300) from (fun z => z.elim (fun z => absurd (z.2.symm.trans ka0) (by decide)) (fun z => absurd (z.2.symm.trans ka0) (by decide)))) 3
        refine wa_getI B (C := RX0) (T := TX0) (N := 4) iq_X0_take_X0 ha0 ka0 (by decide) rfl 3 (by decide) (by decide) (by decide +kernel) rfl (by decide) (v := (q_8.1 a0 3)) z_37 dX0_take_43 ?_
        refine wa_iload B dX0_take_46 0 rfl ?_
        refine wa_bipush B 47 dX0_take_48 (by decide) ?_
        have Jn_58_40 : ∀  (v_38 : Int32), v_38.toInt = 1 ∧ r_31.toInt = 47 ∨ v_38.toInt = 0 ∧ ¬ r_31.toInt = 47 → WA l dC dI h L ({ frames := 1, cells := 0, slots := 0, locals := 21 } : Room) 6 Z q_35 58 [(5, .int r_31), (4, .int v_7), (0, .ref a0), (1, .ref a1), (2, .int n1), (3, .int n2)] [.int v_38, .int (q_8.1 a0 3), .ref a0] := by
          intro v_38 x_39
          have b9 := ty_c_le (g := (fun j => q.2.2.2.1 c0 j &&& 255)) (v_7 : Int32).toNatClampNeg
          have a9 := zx_nc v_7
          refine wa_iadd B dX0_take_58 (fun v_41 ev_41 => ?_)
          refine wa_putI B (C := RX0) (T := TX0) (N := 4) iq_X0_take_X0 ha0 ka0 (by decide) rfl 3 (by decide) (by decide) (by decide +kernel) rfl (by decide) (v := v_41) (ty := .int) tyX0 tyX0_ok nmX0 rfl (by decide +kernel) rfl rfl dX0_take_59 (fun q_42 eq_42 => ?_)
          have hV_q_42 : sx_V h L q_42 := by rw [eq_42]; exact hV_q_35.pI ka0 trivial
          have hF_q_42 : sx_fr h L (fun a => a = a0 ∧ h.1 a = 0 ∨ a = t0 ∧ h.1 a = 7 ∨ a = b0 ∧ h.1 a = 300) q q_42 := hF_q_35.tr (by rw [eq_42]; exact sx_fr.pI (show a0 = a0 ∧ h.1 a0 = 0 ∨ a0 = t0 ∧ h.1 a0 = 7 ∨ a0 = b0 ∧ h.1 a0 = 300 from (Or.inl ⟨rfl, ka0⟩)))
          have z_43 : q_42.1 a0 3 = v_41 := by rw [eq_42]; exact sg_pI_e
          obtain ⟨v_44, ev_44⟩ : ∃ z : Int32, z = v_7 + 1 := ⟨_, rfl⟩
          refine wa_iinc B [(4, .int v_44), (5, .int r_31), (0, .ref a0), (1, .ref a1), (2, .int n1), (3, .int n2)] v_44 dX0_take_62 1 rfl (by rw [ev_44]; rfl) (by decide) rfl ?_
          refine wa_goto B 15 dX0_take_65 (by decide) ?_
          have tv_44 : v_44.toInt = v_7.toInt + 1 := by have b0 := zx_bd v_7; rw [ev_44]; exact zx_add (show (-2147483648 : Int) ≤ v_7.toInt + 1 by omega) (show v_7.toInt + 1 < (2147483648 : Int) by omega)
          have y_45 : (q_42.1 a0 3).toInt = v_41.toInt := by rw [z_43]
          have tv_41 : v_41.toInt = (q_8.1 a0 3).toInt + v_38.toInt := by have b0 := zx_bd (q_8.1 a0 3); have b1 := zx_bd v_38; rw [ev_41]; exact zx_add (show (-2147483648 : Int) ≤ (q_8.1 a0 3).toInt + v_38.toInt by omega) (show (q_8.1 a0 3).toInt + v_38.toInt < (2147483648 : Int) by omega)
          have z_46 : q_42.1 a1 1 = (q.1 a1 1) := ((show q_42.1 a1 1 = q_35.1 a1 1 from by rw [eq_42]; exact sg_pI_k (by decide))).trans ((h2_q_35.I ha1 (show ¬ (a1 = t0 ∧ h.1 a1 = 7 ∨ a1 = b0 ∧ h.1 a1 = 300) from (fun z => z.elim (fun z => absurd z.1 (by omega)) (fun z => absurd (z.2.symm.trans ka1) (by decide)))) 1).trans (p0_q_8))
          have y_47 : (q_42.1 a1 1).toInt = (q.1 a1 1).toInt := by rw [z_46]
          have z_48 : q_42.2.2.1 a0 0 = t0 := ((show q_42.2.2.1 a0 0 = q_35.2.2.1 a0 0 from by rw [eq_42]; rfl)).trans ((h2_q_35.R ha0 (fun z9 => absurd z9.2 (by omega)) 0).trans (p1_q_8))
          have z_49 : q_42.2.2.1 t0 0 = b0 := ((show q_42.2.2.1 t0 0 = q_35.2.2.1 t0 0 from by rw [eq_42]; rfl)).trans ((h2_q_35.R ht0 (fun z9 => absurd z9.2 (by omega)) 0).trans (p2_q_8))
          have z_50 : q_42.2.2.1 a1 0 = c0 := ((show q_42.2.2.1 a1 0 = q_35.2.2.1 a1 0 from by rw [eq_42]; rfl)).trans ((h2_q_35.R ha1 (fun z9 => absurd z9.2 (by omega)) 0).trans (p3_q_8))
          have z_51 : q_42.2.2.2.1 c0 = (q.2.2.2.1 c0) := ((show q_42.2.2.2.1 c0 = q_35.2.2.2.1 c0 from by rw [eq_42]; rfl)).trans ((h2_q_35.G hc0 (show ¬ (c0 = t0 ∧ h.1 c0 = 7 ∨ c0 = b0 ∧ h.1 c0 = 300) from (fun z => z.elim (fun z => absurd (z.2.symm.trans kc0) (by decide)) (fun z => absurd z.1 (by omega)))) (by rw [kc0]; decide)).trans (p4_q_8))
          refine WA.sub [0, 2, 3, 4, 5] rfl ?_
          exact ih_20 v_44 q_42 hV_q_42 hF_q_42 z_46 z_48 z_49 z_50 z_51 (show 0 ≤ v_44.toInt from by first | assumption | omega | decide) (show (q_42.1 a0 3).toInt = 1 + ((ty_c (fun j => q.2.2.2.1 c0 j &&& 255) (v_44).toNatClampNeg : Nat) : Int) from by have a8 := zx_nc v_44; rw [show (v_44 : Int32).toNatClampNeg = (v_7 : Int32).toNatClampNeg + 1 by omega]; unfold ty_c; rw [u_34]; split <;> omega) (show v_44.toInt ≤ (q_42.1 a1 1).toInt from by first | assumption | omega | decide) (show ((q_42.1 a1 1).toInt - v_44.toInt : Int).toNat < _ from by omega)
        refine wa_icmp_ne B 57 dX0_take_50 (by decide) (fun (t_52 : ¬ r_31.toInt = 47) => ?_) (fun (t_52 : r_31.toInt = 47) => ?_)
        · refine wa_iconst B 0 dX0_take_57 (by decide) ?_
          have b9 := ty_c_le (g := (fun j => q.2.2.2.1 c0 j &&& 255)) (v_7 : Int32).toNatClampNeg
          have a9 := zx_nc v_7
          exact Jn_58_40 0 (show 0 = 1 ∧ r_31.toInt = 47 ∨ 0 = 0 ∧ ¬ r_31.toInt = 47 from by first | assumption | omega | decide)
        · refine wa_iconst B 1 dX0_take_53 (by decide) ?_
          refine wa_goto B 58 dX0_take_54 (by decide) ?_
          have b9 := ty_c_le (g := (fun j => q.2.2.2.1 c0 j &&& 255)) (v_7 : Int32).toNatClampNeg
          have a9 := zx_nc v_7
          exact Jn_58_40 1 (show 1 = 1 ∧ r_31.toInt = 47 ∨ 1 = 0 ∧ ¬ r_31.toInt = 47 from by first | assumption | omega | decide)
  have y_53 : (q_5.1 a0 3).toInt = 1 := by rw [z_6]; rfl
  have y_54 : (q_5.1 a1 1).toInt = (q.1 a1 1).toInt := by rw [z_9]
  exact Lp_15_18 _ 0 q_5 hV_q_5 hF_q_5 z_9 z_11 z_12 z_13 z_14 (show 0 ≤ 0 from by first | assumption | omega | decide) (show (q_5.1 a0 3).toInt = 1 + ((ty_c (fun j => q.2.2.2.1 c0 j &&& 255) ((0 : Int32)).toNatClampNeg : Nat) : Int) from by rw [z_6]; rfl) (show 0 ≤ (q_5.1 a1 1).toInt from by first | assumption | omega | decide) (Nat.lt_succ_self _)
set_option maxHeartbeats 4000000 in
set_option maxRecDepth 100000 in
theorem k_X11_fragment_c (l : Launch) (dC : Nat → ClassId) (dI : Nat → Nat → Nat) (h : Sh) (L : List Nat) (hN : sx_nd L) (q : Sg) (hV : sx_V h L q) {a0 : Nat} (ha0 : a0 ∈ L) (ka0 : h.1 a0 = 11) (n1 : Int32) (n2 : Int32) {t0 : Nat} (et0 : q.2.2.1 a0 0 = t0) {tb : Nat} (etb : q.2.2.1 t0 0 = tb) {fa : Nat} (efa : q.2.2.1 a0 9 = fa) {uu : Nat} (euu : q.2.2.1 a0 11 = uu) {o0 : Nat} (eo0 : q.2.2.1 a0 1 = o0) {ob : Nat} (eob : q.2.2.1 o0 0 = ob)  (f9 : Nat) (e9 : (q.1 a0 14).toInt < 12 → h.2.2.2 fa (q.1 a0 14).toNatClampNeg = f9)  : CMi l dC dI h L yX11_fragment wsX11_fragment ({ frames := 2, cells := 0, slots := 0, locals := 46 } : Room) q [.ref a0, .int n1, .int n2] (fun r q' => sx_V h L q' ∧ sx_fr h L (fun a => h.1 a = 11 ∨ h.1 a = 7 ∧ ¬ h.2.1 a = 2 ∨ a = f9 ∧ h.1 a = 0 ∨ h.1 a = 300 ∧ ¬ h.2.1 a = 440 ∧ ¬ h.2.1 a = 59) q q' ∧ (q'.2.2.1 a0 0 = t0 ∧ (q'.1 t0 1).toInt = 0 ∧ (((q.1 a0 14).toInt < 12 ∧ (0 ≤ n1.toInt ∧ n1.toInt ≤ 99999999) ∧ (0 ≤ n2.toInt ∧ n2.toInt ≤ 99999999) ∧ (q.1 t0 1).toInt ≤ 200) ∧ (q'.1 a0 14).toInt = (q.1 a0 14).toInt + 1 ∧ r.toInt = (q.1 a0 14).toInt ∨ ¬ ((q.1 a0 14).toInt < 12 ∧ (0 ≤ n1.toInt ∧ n1.toInt ≤ 99999999) ∧ (0 ≤ n2.toInt ∧ n2.toInt ≤ 99999999) ∧ (q.1 t0 1).toInt ≤ 200) ∧ (q'.1 a0 14).toInt = (q.1 a0 14).toInt ∧ r.toInt = -1) ∧ q'.2.2.1 a0 11 = uu ∧ q'.2.2.1 a0 12 = q.2.2.1 a0 12 ∧ (q'.2.2.1 a0 9 = fa ∧ q'.2.2.1 a0 1 = o0) ∧ (((q.1 a0 14).toInt < 12 ∧ (0 ≤ n1.toInt ∧ n1.toInt ≤ 99999999) ∧ (0 ≤ n2.toInt ∧ n2.toInt ≤ 99999999) ∧ (q.1 t0 1).toInt ≤ 200) → (q'.1 f9 3).toInt = 1 + ((ty_c (fun j => q.2.2.2.1 tb j &&& 255) (q.1 t0 1).toInt.toNat : Nat) : Int)))) := by
  refine cm_i (cc := cX11_fragment) (mL := 4) (own := RX11) hN (by decide) rfl rfl (Nat.le_of_ble_eq_true rfl) (fun Z B hret => ?_)
  have hF : sx_fr h L (fun a => h.1 a = 11 ∨ h.1 a = 7 ∧ ¬ h.2.1 a = 2 ∨ a = f9 ∧ h.1 a = 0 ∨ h.1 a = 300 ∧ ¬ h.2.1 a = 440 ∧ ¬ h.2.1 a = 59) q q := sx_fr.rf
  obtain ⟨ht0, kt0, lt0⟩ : t0 ∈ L ∧ h.1 t0 = 7 ∧ h.2.1 t0 = 1 := by obtain ⟨r9, e9, z1, z2, z3⟩ := hV.refn (t := 7) (n := 1) ha0 ka0 0 rfl (by decide) rfl (by decide); rw [← et0, e9]; exact ⟨z1, z2, z3⟩
  obtain ⟨htb, ktb, ltb⟩ : tb ∈ L ∧ h.1 tb = 300 ∧ h.2.1 tb = 440 := by obtain ⟨r9, e9, z1, z2, z3⟩ := hV.refn (t := 300) (n := 440) ht0 kt0 0 rfl (by decide) (by rw [lt0]; rfl) (by decide); rw [← etb, e9]; exact ⟨z1, z2, z3⟩
  obtain ⟨hfa, kfa, lfa⟩ : fa ∈ L ∧ h.1 fa = 403 ∧ h.2.1 fa = 12 := by obtain ⟨r9, e9, z1, z2, z3⟩ := hV.refn (t := 403) (n := 12) ha0 ka0 9 rfl (by decide) rfl (by decide); rw [← efa, e9]; exact ⟨z1, z2, z3⟩
  obtain ⟨huu, kuu⟩ : uu ∈ L ∧ h.1 uu = 9 := by obtain ⟨r9, e9, z1, z2⟩ := hV.ref (t := 9) ha0 ka0 11 rfl (by decide); rw [← euu, e9]; exact ⟨z1, z2⟩
  obtain ⟨ho0, ko0, lo0⟩ : o0 ∈ L ∧ h.1 o0 = 7 ∧ h.2.1 o0 = 2 := by obtain ⟨r9, e9, z1, z2, z3⟩ := hV.refn (t := 7) (n := 2) ha0 ka0 1 rfl (by decide) rfl (by decide); rw [← eo0, e9]; exact ⟨z1, z2, z3⟩
  have nt0_o0 : ¬ t0 = o0 := fun z9 => absurd (z9 ▸ lt0 : h.2.1 o0 = 1) (by rw [lo0]; decide)
  obtain ⟨hob, kob, lob⟩ : ob ∈ L ∧ h.1 ob = 300 ∧ h.2.1 ob = 59 := by obtain ⟨r9, e9, z1, z2, z3⟩ := hV.refn (t := 300) (n := 59) ho0 ko0 0 rfl (by decide) (by rw [lo0]; rfl) (by decide); rw [← eob, e9]; exact ⟨z1, z2, z3⟩
  show WA l dC dI h L ({ frames := 2, cells := 0, slots := 0, locals := 46 } : Room) 4 Z q 0 [(0, .ref a0), (1, .int n1), (2, .int n2)] []
  refine wa_aload_n B dX11_fragment_0 rfl 0 rfl ?_
  refine wa_getI B (C := RX11) (T := TX11) (N := 16) iq_X11_fragment_X11 ha0 ka0 (by decide) rfl 14 (by decide) (by decide) (by decide +kernel) rfl (by decide) (v := (q.1 a0 14)) rfl dX11_fragment_1 ?_
  have g_1 : (0 : Int) ≤ (q.1 a0 14).toInt ∧ (q.1 a0 14).toInt ≤ 12 := hV.int ha0 ka0 14
  refine wa_bipush B 12 dX11_fragment_4 (by decide) ?_
  refine wa_icmp_ge B 40 dX11_fragment_6 (by decide) (fun (t_2 : 12 ≤ (q.1 a0 14).toInt) => ?_) (fun (t_2 : ¬ 12 ≤ (q.1 a0 14).toInt) => ?_)
  · refine wa_iconst B 0 dX11_fragment_40 (by decide) ?_
    refine wa_istore_n B [(3, .int 0), (0, .ref a0), (1, .int n1), (2, .int n2)] dX11_fragment_41 rfl (by decide) rfl ?_
    refine wa_iload_n B dX11_fragment_42 rfl 0 rfl ?_
    refine wa_if_eq B 74 dX11_fragment_43 (by decide) (fun _ => ?_) (fun z => absurd z (by decide))
    refine wa_aload_n B dX11_fragment_74 rfl 1 rfl ?_
    refine wa_getR B (C := RX11) (T := TX11) (N := 16) iq_X11_fragment_X11 ha0 ka0 (by decide) rfl 0 (by decide) (by decide) (by decide +kernel) rfl (fun _ _ _ => rfl) (v := t0) et0 dX11_fragment_75 ?_
    refine wa_callVv B (x := (RX7, TX7, 2)) (As := []) (rest := []) (k_X7_clear l dC dI h L hN q hV (a0 := t0) ht0 kt0  ) (cwV 0 B.1.2.2.2.2 gX11_fragment_X7_clear rfl rfl rfl (by decide +kernel) ⟨Nat.le_of_ble_eq_true rfl, Nat.le_of_ble_eq_true rfl⟩) ht0 kt0 (by decide) rfl rfl rfl (Nat.le_of_ble_eq_true rfl) dX11_fragment_78 (fun q_3 w_4 => ?_)
    obtain ⟨hV_q_3, h2_q_3, hw_4⟩ := w_4
    have hF_q_3 : sx_fr h L (fun a => h.1 a = 11 ∨ h.1 a = 7 ∧ ¬ h.2.1 a = 2 ∨ a = f9 ∧ h.1 a = 0 ∨ h.1 a = 300 ∧ ¬ h.2.1 a = 440 ∧ ¬ h.2.1 a = 59) q q_3 := hF.tr (h2_q_3.mono (fun a (z : a = t0 ∧ h.1 a = 7) => (show h.1 a = 11 ∨ h.1 a = 7 ∧ ¬ h.2.1 a = 2 ∨ a = f9 ∧ h.1 a = 0 ∨ h.1 a = 300 ∧ ¬ h.2.1 a = 440 ∧ ¬ h.2.1 a = 59 from by (have c9_t0 : a = t0 → h.2.1 a = 1 := fun e9 => (congrArg h.2.1 e9).trans lt0); omega)))
    refine wa_iload_n B dX11_fragment_81 rfl 0 rfl ?_
    refine wa_if_eq B 94 dX11_fragment_82 (by decide) (fun _ => ?_) (fun z => absurd z (by decide))
    refine wa_iconst B (-1) dX11_fragment_94 (by decide) ?_
    have z_5 : q_3.1 a0 14 = q.1 a0 14 := h2_q_3.I ha0 (show ¬ (a0 = t0 ∧ h.1 a0 = 7) from (fun z => absurd (z.2.symm.trans ka0) (by decide))) 14
    have y_6 : (q_3.1 a0 14).toInt = (q.1 a0 14).toInt := by rw [z_5]
    have y_7 : (q_3.1 t0 1).toInt = 0 := by rw [hw_4]; rfl
    have z_8 : q_3.2.2.1 a0 0 = t0 := (h2_q_3.R ha0 (show ¬ ((a0 = t0 ∧ h.1 a0 = 7) ∧ (h.1 a0 = 8 ∨ h.1 a0 = 11)) from fun z9 => (show ¬ (a0 = t0 ∧ h.1 a0 = 7) from (fun z => absurd (z.2.symm.trans ka0) (by decide))) z9.1) 0).trans (et0)
    have z_9 : q_3.2.2.1 a0 9 = fa := (h2_q_3.R ha0 (show ¬ ((a0 = t0 ∧ h.1 a0 = 7) ∧ (h.1 a0 = 8 ∨ h.1 a0 = 11)) from fun z9 => (show ¬ (a0 = t0 ∧ h.1 a0 = 7) from (fun z => absurd (z.2.symm.trans ka0) (by decide))) z9.1) 9).trans (efa)
    have z_10 : q_3.2.2.1 a0 11 = uu := (h2_q_3.R ha0 (show ¬ ((a0 = t0 ∧ h.1 a0 = 7) ∧ (h.1 a0 = 8 ∨ h.1 a0 = 11)) from fun z9 => (show ¬ (a0 = t0 ∧ h.1 a0 = 7) from (fun z => absurd (z.2.symm.trans ka0) (by decide))) z9.1) 11).trans (euu)
    have z_11 : q_3.2.2.1 a0 12 = q.2.2.1 a0 12 := h2_q_3.R ha0 (show ¬ ((a0 = t0 ∧ h.1 a0 = 7) ∧ (h.1 a0 = 8 ∨ h.1 a0 = 11)) from fun z9 => (show ¬ (a0 = t0 ∧ h.1 a0 = 7) from (fun z => absurd (z.2.symm.trans ka0) (by decide))) z9.1) 12
    have z_12 : q_3.2.2.1 a0 1 = o0 := (h2_q_3.R ha0 (show ¬ ((a0 = t0 ∧ h.1 a0 = 7) ∧ (h.1 a0 = 8 ∨ h.1 a0 = 11)) from fun z9 => (show ¬ (a0 = t0 ∧ h.1 a0 = 7) from (fun z => absurd (z.2.symm.trans ka0) (by decide))) z9.1) 1).trans (eo0)
    exact hret _ _ _ _ dX11_fragment_95 ⟨hV_q_3, hF_q_3, ⟨z_8, by have h9 : ((-1) : Int32).toInt = (-1) := rfl; omega, by have h9 : ((-1) : Int32).toInt = (-1) := rfl; omega, z_10, z_11, ⟨z_9, z_12⟩, fun z9 => by exfalso; omega⟩⟩
  · refine wa_iload_n B dX11_fragment_9 rfl 1 rfl ?_
    refine wa_callSi B (As := [.int n1]) (rest := []) (k_X11_isEdge l dC dI h L hN q hV n1  ) (va_cwS 1 B.1.2.2.2.2 gX11_fragment_X11_isEdge rfl rfl rfl (by decide +kernel) ⟨Nat.le_of_ble_eq_true rfl, Nat.le_of_ble_eq_true rfl⟩) rfl rfl (Nat.le_of_ble_eq_true rfl) dX11_fragment_10 (fun r_14 q_13 w_15 => ?_)
    obtain ⟨ew_15, hw_15⟩ := w_15
    subst ew_15
    refine wa_if_eq B 40 dX11_fragment_13 (by decide) (fun (t_16 : r_14.toInt = 0) => ?_) (fun (t_16 : ¬ r_14.toInt = 0) => ?_)
    · refine wa_iconst B 0 dX11_fragment_40 (by decide) ?_
      refine wa_istore_n B [(3, .int 0), (0, .ref a0), (1, .int n1), (2, .int n2)] dX11_fragment_41 rfl (by decide) rfl ?_
      refine wa_iload_n B dX11_fragment_42 rfl 0 rfl ?_
      refine wa_if_eq B 74 dX11_fragment_43 (by decide) (fun _ => ?_) (fun z => absurd z (by decide))
      refine wa_aload_n B dX11_fragment_74 rfl 1 rfl ?_
      refine wa_getR B (C := RX11) (T := TX11) (N := 16) iq_X11_fragment_X11 ha0 ka0 (by decide) rfl 0 (by decide) (by decide) (by decide +kernel) rfl (fun _ _ _ => rfl) (v := t0) et0 dX11_fragment_75 ?_
      refine wa_callVv B (x := (RX7, TX7, 2)) (As := []) (rest := []) (k_X7_clear l dC dI h L hN q hV (a0 := t0) ht0 kt0  ) (cwV 0 B.1.2.2.2.2 gX11_fragment_X7_clear rfl rfl rfl (by decide +kernel) ⟨Nat.le_of_ble_eq_true rfl, Nat.le_of_ble_eq_true rfl⟩) ht0 kt0 (by decide) rfl rfl rfl (Nat.le_of_ble_eq_true rfl) dX11_fragment_78 (fun q_17 w_18 => ?_)
      obtain ⟨hV_q_17, h2_q_17, hw_18⟩ := w_18
      have hF_q_17 : sx_fr h L (fun a => h.1 a = 11 ∨ h.1 a = 7 ∧ ¬ h.2.1 a = 2 ∨ a = f9 ∧ h.1 a = 0 ∨ h.1 a = 300 ∧ ¬ h.2.1 a = 440 ∧ ¬ h.2.1 a = 59) q q_17 := hF.tr (h2_q_17.mono (fun a (z : a = t0 ∧ h.1 a = 7) => (show h.1 a = 11 ∨ h.1 a = 7 ∧ ¬ h.2.1 a = 2 ∨ a = f9 ∧ h.1 a = 0 ∨ h.1 a = 300 ∧ ¬ h.2.1 a = 440 ∧ ¬ h.2.1 a = 59 from by (have c9_t0 : a = t0 → h.2.1 a = 1 := fun e9 => (congrArg h.2.1 e9).trans lt0); omega)))
      refine wa_iload_n B dX11_fragment_81 rfl 0 rfl ?_
      refine wa_if_eq B 94 dX11_fragment_82 (by decide) (fun _ => ?_) (fun z => absurd z (by decide))
      refine wa_iconst B (-1) dX11_fragment_94 (by decide) ?_
      have z_19 : q_17.1 a0 14 = q.1 a0 14 := h2_q_17.I ha0 (show ¬ (a0 = t0 ∧ h.1 a0 = 7) from (fun z => absurd (z.2.symm.trans ka0) (by decide))) 14
      have y_20 : (q_17.1 a0 14).toInt = (q.1 a0 14).toInt := by rw [z_19]
      have y_21 : (q_17.1 t0 1).toInt = 0 := by rw [hw_18]; rfl
      have z_22 : q_17.2.2.1 a0 0 = t0 := (h2_q_17.R ha0 (show ¬ ((a0 = t0 ∧ h.1 a0 = 7) ∧ (h.1 a0 = 8 ∨ h.1 a0 = 11)) from fun z9 => (show ¬ (a0 = t0 ∧ h.1 a0 = 7) from (fun z => absurd (z.2.symm.trans ka0) (by decide))) z9.1) 0).trans (et0)
      have z_23 : q_17.2.2.1 a0 9 = fa := (h2_q_17.R ha0 (show ¬ ((a0 = t0 ∧ h.1 a0 = 7) ∧ (h.1 a0 = 8 ∨ h.1 a0 = 11)) from fun z9 => (show ¬ (a0 = t0 ∧ h.1 a0 = 7) from (fun z => absurd (z.2.symm.trans ka0) (by decide))) z9.1) 9).trans (efa)
      have z_24 : q_17.2.2.1 a0 11 = uu := (h2_q_17.R ha0 (show ¬ ((a0 = t0 ∧ h.1 a0 = 7) ∧ (h.1 a0 = 8 ∨ h.1 a0 = 11)) from fun z9 => (show ¬ (a0 = t0 ∧ h.1 a0 = 7) from (fun z => absurd (z.2.symm.trans ka0) (by decide))) z9.1) 11).trans (euu)
      have z_25 : q_17.2.2.1 a0 12 = q.2.2.1 a0 12 := h2_q_17.R ha0 (show ¬ ((a0 = t0 ∧ h.1 a0 = 7) ∧ (h.1 a0 = 8 ∨ h.1 a0 = 11)) from fun z9 => (show ¬ (a0 = t0 ∧ h.1 a0 = 7) from (fun z => absurd (z.2.symm.trans ka0) (by decide))) z9.1) 12
      have z_26 : q_17.2.2.1 a0 1 = o0 := (h2_q_17.R ha0 (show ¬ ((a0 = t0 ∧ h.1 a0 = 7) ∧ (h.1 a0 = 8 ∨ h.1 a0 = 11)) from fun z9 => (show ¬ (a0 = t0 ∧ h.1 a0 = 7) from (fun z => absurd (z.2.symm.trans ka0) (by decide))) z9.1) 1).trans (eo0)
      exact hret _ _ _ _ dX11_fragment_95 ⟨hV_q_17, hF_q_17, ⟨z_22, by have h9 : ((-1) : Int32).toInt = (-1) := rfl; omega, by have h9 : ((-1) : Int32).toInt = (-1) := rfl; omega, z_24, z_25, ⟨z_23, z_26⟩, fun z9 => by exfalso; omega⟩⟩
    · refine wa_iload_n B dX11_fragment_16 rfl 2 rfl ?_
      refine wa_callSi B (As := [.int n2]) (rest := []) (k_X11_isEdge l dC dI h L hN q hV n2  ) (va_cwS 1 B.1.2.2.2.2 gX11_fragment_X11_isEdge rfl rfl rfl (by decide +kernel) ⟨Nat.le_of_ble_eq_true rfl, Nat.le_of_ble_eq_true rfl⟩) rfl rfl (Nat.le_of_ble_eq_true rfl) dX11_fragment_17 (fun r_28 q_27 w_29 => ?_)
      obtain ⟨ew_29, hw_29⟩ := w_29
      subst ew_29
      refine wa_if_eq B 40 dX11_fragment_20 (by decide) (fun (t_30 : r_28.toInt = 0) => ?_) (fun (t_30 : ¬ r_28.toInt = 0) => ?_)
      · refine wa_iconst B 0 dX11_fragment_40 (by decide) ?_
        refine wa_istore_n B [(3, .int 0), (0, .ref a0), (1, .int n1), (2, .int n2)] dX11_fragment_41 rfl (by decide) rfl ?_
        refine wa_iload_n B dX11_fragment_42 rfl 0 rfl ?_
        refine wa_if_eq B 74 dX11_fragment_43 (by decide) (fun _ => ?_) (fun z => absurd z (by decide))
        refine wa_aload_n B dX11_fragment_74 rfl 1 rfl ?_
        refine wa_getR B (C := RX11) (T := TX11) (N := 16) iq_X11_fragment_X11 ha0 ka0 (by decide) rfl 0 (by decide) (by decide) (by decide +kernel) rfl (fun _ _ _ => rfl) (v := t0) et0 dX11_fragment_75 ?_
        refine wa_callVv B (x := (RX7, TX7, 2)) (As := []) (rest := []) (k_X7_clear l dC dI h L hN q hV (a0 := t0) ht0 kt0  ) (cwV 0 B.1.2.2.2.2 gX11_fragment_X7_clear rfl rfl rfl (by decide +kernel) ⟨Nat.le_of_ble_eq_true rfl, Nat.le_of_ble_eq_true rfl⟩) ht0 kt0 (by decide) rfl rfl rfl (Nat.le_of_ble_eq_true rfl) dX11_fragment_78 (fun q_31 w_32 => ?_)
        obtain ⟨hV_q_31, h2_q_31, hw_32⟩ := w_32
        have hF_q_31 : sx_fr h L (fun a => h.1 a = 11 ∨ h.1 a = 7 ∧ ¬ h.2.1 a = 2 ∨ a = f9 ∧ h.1 a = 0 ∨ h.1 a = 300 ∧ ¬ h.2.1 a = 440 ∧ ¬ h.2.1 a = 59) q q_31 := hF.tr (h2_q_31.mono (fun a (z : a = t0 ∧ h.1 a = 7) => (show h.1 a = 11 ∨ h.1 a = 7 ∧ ¬ h.2.1 a = 2 ∨ a = f9 ∧ h.1 a = 0 ∨ h.1 a = 300 ∧ ¬ h.2.1 a = 440 ∧ ¬ h.2.1 a = 59 from by (have c9_t0 : a = t0 → h.2.1 a = 1 := fun e9 => (congrArg h.2.1 e9).trans lt0); omega)))
        refine wa_iload_n B dX11_fragment_81 rfl 0 rfl ?_
        refine wa_if_eq B 94 dX11_fragment_82 (by decide) (fun _ => ?_) (fun z => absurd z (by decide))
        refine wa_iconst B (-1) dX11_fragment_94 (by decide) ?_
        have z_33 : q_31.1 a0 14 = q.1 a0 14 := h2_q_31.I ha0 (show ¬ (a0 = t0 ∧ h.1 a0 = 7) from (fun z => absurd (z.2.symm.trans ka0) (by decide))) 14
        have y_34 : (q_31.1 a0 14).toInt = (q.1 a0 14).toInt := by rw [z_33]
        have y_35 : (q_31.1 t0 1).toInt = 0 := by rw [hw_32]; rfl
        have z_36 : q_31.2.2.1 a0 0 = t0 := (h2_q_31.R ha0 (show ¬ ((a0 = t0 ∧ h.1 a0 = 7) ∧ (h.1 a0 = 8 ∨ h.1 a0 = 11)) from fun z9 => (show ¬ (a0 = t0 ∧ h.1 a0 = 7) from (fun z => absurd (z.2.symm.trans ka0) (by decide))) z9.1) 0).trans (et0)
        have z_37 : q_31.2.2.1 a0 9 = fa := (h2_q_31.R ha0 (show ¬ ((a0 = t0 ∧ h.1 a0 = 7) ∧ (h.1 a0 = 8 ∨ h.1 a0 = 11)) from fun z9 => (show ¬ (a0 = t0 ∧ h.1 a0 = 7) from (fun z => absurd (z.2.symm.trans ka0) (by decide))) z9.1) 9).trans (efa)
        have z_38 : q_31.2.2.1 a0 11 = uu := (h2_q_31.R ha0 (show ¬ ((a0 = t0 ∧ h.1 a0 = 7) ∧ (h.1 a0 = 8 ∨ h.1 a0 = 11)) from fun z9 => (show ¬ (a0 = t0 ∧ h.1 a0 = 7) from (fun z => absurd (z.2.symm.trans ka0) (by decide))) z9.1) 11).trans (euu)
        have z_39 : q_31.2.2.1 a0 12 = q.2.2.1 a0 12 := h2_q_31.R ha0 (show ¬ ((a0 = t0 ∧ h.1 a0 = 7) ∧ (h.1 a0 = 8 ∨ h.1 a0 = 11)) from fun z9 => (show ¬ (a0 = t0 ∧ h.1 a0 = 7) from (fun z => absurd (z.2.symm.trans ka0) (by decide))) z9.1) 12
        have z_40 : q_31.2.2.1 a0 1 = o0 := (h2_q_31.R ha0 (show ¬ ((a0 = t0 ∧ h.1 a0 = 7) ∧ (h.1 a0 = 8 ∨ h.1 a0 = 11)) from fun z9 => (show ¬ (a0 = t0 ∧ h.1 a0 = 7) from (fun z => absurd (z.2.symm.trans ka0) (by decide))) z9.1) 1).trans (eo0)
        exact hret _ _ _ _ dX11_fragment_95 ⟨hV_q_31, hF_q_31, ⟨z_36, by have h9 : ((-1) : Int32).toInt = (-1) := rfl; omega, by have h9 : ((-1) : Int32).toInt = (-1) := rfl; omega, z_38, z_39, ⟨z_37, z_40⟩, fun z9 => by exfalso; omega⟩⟩
      · refine wa_aload_n B dX11_fragment_23 rfl 0 rfl ?_
        refine wa_getR B (C := RX11) (T := TX11) (N := 16) iq_X11_fragment_X11 ha0 ka0 (by decide) rfl 0 (by decide) (by decide) (by decide +kernel) rfl (fun _ _ _ => rfl) (v := t0) et0 dX11_fragment_24 ?_
        refine wa_getI B (C := RX7) (T := TX7) (N := 2) iq_X11_fragment_X7 ht0 kt0 (by decide) rfl 1 (by decide) (by decide) (by decide +kernel) rfl (by decide) (v := (q.1 t0 1)) rfl dX11_fragment_27 ?_
        have g_41 : (0 : Int) ≤ (q.1 t0 1).toInt ∧ (q.1 t0 1).toInt ≤ (h.2.1 tb : Int) := by have z9 := hV.int ht0 kt0 1; rw [etb] at z9; exact z9
        refine wa_sipush B 200 dX11_fragment_30 (by decide) ?_
        refine wa_icmp_gt B 40 dX11_fragment_33 (by decide) (fun (t_42 : 200 < (q.1 t0 1).toInt) => ?_) (fun (t_42 : ¬ 200 < (q.1 t0 1).toInt) => ?_)
        · refine wa_iconst B 0 dX11_fragment_40 (by decide) ?_
          refine wa_istore_n B [(3, .int 0), (0, .ref a0), (1, .int n1), (2, .int n2)] dX11_fragment_41 rfl (by decide) rfl ?_
          refine wa_iload_n B dX11_fragment_42 rfl 0 rfl ?_
          refine wa_if_eq B 74 dX11_fragment_43 (by decide) (fun _ => ?_) (fun z => absurd z (by decide))
          refine wa_aload_n B dX11_fragment_74 rfl 1 rfl ?_
          refine wa_getR B (C := RX11) (T := TX11) (N := 16) iq_X11_fragment_X11 ha0 ka0 (by decide) rfl 0 (by decide) (by decide) (by decide +kernel) rfl (fun _ _ _ => rfl) (v := t0) et0 dX11_fragment_75 ?_
          refine wa_callVv B (x := (RX7, TX7, 2)) (As := []) (rest := []) (k_X7_clear l dC dI h L hN q hV (a0 := t0) ht0 kt0  ) (cwV 0 B.1.2.2.2.2 gX11_fragment_X7_clear rfl rfl rfl (by decide +kernel) ⟨Nat.le_of_ble_eq_true rfl, Nat.le_of_ble_eq_true rfl⟩) ht0 kt0 (by decide) rfl rfl rfl (Nat.le_of_ble_eq_true rfl) dX11_fragment_78 (fun q_43 w_44 => ?_)
          obtain ⟨hV_q_43, h2_q_43, hw_44⟩ := w_44
          have hF_q_43 : sx_fr h L (fun a => h.1 a = 11 ∨ h.1 a = 7 ∧ ¬ h.2.1 a = 2 ∨ a = f9 ∧ h.1 a = 0 ∨ h.1 a = 300 ∧ ¬ h.2.1 a = 440 ∧ ¬ h.2.1 a = 59) q q_43 := hF.tr (h2_q_43.mono (fun a (z : a = t0 ∧ h.1 a = 7) => (show h.1 a = 11 ∨ h.1 a = 7 ∧ ¬ h.2.1 a = 2 ∨ a = f9 ∧ h.1 a = 0 ∨ h.1 a = 300 ∧ ¬ h.2.1 a = 440 ∧ ¬ h.2.1 a = 59 from by (have c9_t0 : a = t0 → h.2.1 a = 1 := fun e9 => (congrArg h.2.1 e9).trans lt0); omega)))
          refine wa_iload_n B dX11_fragment_81 rfl 0 rfl ?_
          refine wa_if_eq B 94 dX11_fragment_82 (by decide) (fun _ => ?_) (fun z => absurd z (by decide))
          refine wa_iconst B (-1) dX11_fragment_94 (by decide) ?_
          have z_45 : q_43.1 a0 14 = q.1 a0 14 := h2_q_43.I ha0 (show ¬ (a0 = t0 ∧ h.1 a0 = 7) from (fun z => absurd (z.2.symm.trans ka0) (by decide))) 14
          have y_46 : (q_43.1 a0 14).toInt = (q.1 a0 14).toInt := by rw [z_45]
          have y_47 : (q_43.1 t0 1).toInt = 0 := by rw [hw_44]; rfl
          have z_48 : q_43.2.2.1 a0 0 = t0 := (h2_q_43.R ha0 (show ¬ ((a0 = t0 ∧ h.1 a0 = 7) ∧ (h.1 a0 = 8 ∨ h.1 a0 = 11)) from fun z9 => (show ¬ (a0 = t0 ∧ h.1 a0 = 7) from (fun z => absurd (z.2.symm.trans ka0) (by decide))) z9.1) 0).trans (et0)
          have z_49 : q_43.2.2.1 a0 9 = fa := (h2_q_43.R ha0 (show ¬ ((a0 = t0 ∧ h.1 a0 = 7) ∧ (h.1 a0 = 8 ∨ h.1 a0 = 11)) from fun z9 => (show ¬ (a0 = t0 ∧ h.1 a0 = 7) from (fun z => absurd (z.2.symm.trans ka0) (by decide))) z9.1) 9).trans (efa)
          have z_50 : q_43.2.2.1 a0 11 = uu := (h2_q_43.R ha0 (show ¬ ((a0 = t0 ∧ h.1 a0 = 7) ∧ (h.1 a0 = 8 ∨ h.1 a0 = 11)) from fun z9 => (show ¬ (a0 = t0 ∧ h.1 a0 = 7) from (fun z => absurd (z.2.symm.trans ka0) (by decide))) z9.1) 11).trans (euu)
          have z_51 : q_43.2.2.1 a0 12 = q.2.2.1 a0 12 := h2_q_43.R ha0 (show ¬ ((a0 = t0 ∧ h.1 a0 = 7) ∧ (h.1 a0 = 8 ∨ h.1 a0 = 11)) from fun z9 => (show ¬ (a0 = t0 ∧ h.1 a0 = 7) from (fun z => absurd (z.2.symm.trans ka0) (by decide))) z9.1) 12
          have z_52 : q_43.2.2.1 a0 1 = o0 := (h2_q_43.R ha0 (show ¬ ((a0 = t0 ∧ h.1 a0 = 7) ∧ (h.1 a0 = 8 ∨ h.1 a0 = 11)) from fun z9 => (show ¬ (a0 = t0 ∧ h.1 a0 = 7) from (fun z => absurd (z.2.symm.trans ka0) (by decide))) z9.1) 1).trans (eo0)
          exact hret _ _ _ _ dX11_fragment_95 ⟨hV_q_43, hF_q_43, ⟨z_48, by have h9 : ((-1) : Int32).toInt = (-1) := rfl; omega, by have h9 : ((-1) : Int32).toInt = (-1) := rfl; omega, z_50, z_51, ⟨z_49, z_52⟩, fun z9 => by exfalso; omega⟩⟩
        · refine wa_iconst B 1 dX11_fragment_36 (by decide) ?_
          refine wa_goto B 41 dX11_fragment_37 (by decide) ?_
          refine wa_istore_n B [(3, .int 1), (0, .ref a0), (1, .int n1), (2, .int n2)] dX11_fragment_41 rfl (by decide) rfl ?_
          refine wa_iload_n B dX11_fragment_42 rfl 0 rfl ?_
          refine wa_if_eq B 74 dX11_fragment_43 (by decide) (fun z => absurd z (by decide)) (fun _ => ?_)
          refine wa_aload_n B dX11_fragment_46 rfl 1 rfl ?_
          refine wa_getR B (C := RX11) (T := TX11) (N := 16) iq_X11_fragment_X11 ha0 ka0 (by decide) rfl 9 (by decide) (by decide) (by decide +kernel) rfl (fun _ _ _ => rfl) (v := fa) efa dX11_fragment_47 ?_
          refine wa_aload_n B dX11_fragment_50 rfl 1 rfl ?_
          refine wa_getI B (C := RX11) (T := TX11) (N := 16) iq_X11_fragment_X11 ha0 ka0 (by decide) rfl 14 (by decide) (by decide) (by decide +kernel) rfl (by decide) (v := (q.1 a0 14)) rfl dX11_fragment_51 ?_
          obtain ⟨a_53, ea_53, ha_53, ka_53⟩ := hV.elem (t := 0) hfa kfa (by decide) rfl (zx_ix (i := (q.1 a0 14)) (show 0 ≤ (q.1 a0 14).toInt by omega) (show (q.1 a0 14).toInt < (h.2.1 fa : Int) by omega))
          refine wa_aaload B (t0 := 6) hfa kfa (by decide) rfl (show 0 ≤ (q.1 a0 14).toInt by omega) (show (q.1 a0 14).toInt < (h.2.1 fa : Int) by omega) (v := a_53) ea_53 dX11_fragment_54 ?_
          have w9 : a_53 = f9 := ea_53.symm.trans (e9 (by omega))
          refine wa_aload_n B dX11_fragment_55 rfl 1 rfl ?_
          refine wa_getR B (C := RX11) (T := TX11) (N := 16) iq_X11_fragment_X11 ha0 ka0 (by decide) rfl 0 (by decide) (by decide) (by decide +kernel) rfl (fun _ _ _ => rfl) (v := t0) et0 dX11_fragment_56 ?_
          refine wa_iload_n B dX11_fragment_59 rfl 2 rfl ?_
          refine wa_iload_n B dX11_fragment_60 rfl 3 rfl ?_
          obtain ⟨a_54, ea_54, ha_54, ka_54, la_54⟩ := hV.refn (n := 4) (t := 7) ha_53 ka_53 0 rfl (by decide) rfl (by decide)
          have nt0_a_54 : ¬ t0 = a_54 := fun z9 => absurd (z9 ▸ lt0 : h.2.1 a_54 = 1) (by rw [la_54]; decide)
          have no0_a_54 : ¬ o0 = a_54 := fun z9 => absurd (z9 ▸ lo0 : h.2.1 a_54 = 2) (by rw [la_54]; decide)
          obtain ⟨a_55, ea_55, ha_55, ka_55, la_55⟩ := hV.refn (n := 200) (t := 300) ha_54 ka_54 0 rfl (by decide) (by rw [la_54]; rfl) (by decide)
          refine wa_callVv B (x := (RX0, TX0, 4)) (As := [.ref t0, .int n1, .int n2]) (rest := []) (k_X0_take_c l dC dI h L hN q hV (a0 := a_53) ha_53 ka_53 (a1 := t0) ht0 kt0 n1 n2 (t0 := a_54) ea_54 (b0 := a_55) ea_55 (c0 := tb) etb (by omega) (fun z9 => absurd (z9 ▸ la_55 : h.2.1 tb = 200) (by rw [ltb]; decide))  ) (cwV 3 B.1.2.2.2.2 gX11_fragment_X0_take rfl rfl rfl (by decide +kernel) ⟨Nat.le_of_ble_eq_true rfl, Nat.le_of_ble_eq_true rfl⟩) ha_53 ka_53 (by decide) rfl rfl rfl (Nat.le_of_ble_eq_true rfl) dX11_fragment_61 (fun q_56 w_57 => ?_)
          obtain ⟨hV_q_56, h2_q_56, hw_57⟩ := w_57
          have hF_q_56 : sx_fr h L (fun a => h.1 a = 11 ∨ h.1 a = 7 ∧ ¬ h.2.1 a = 2 ∨ a = f9 ∧ h.1 a = 0 ∨ h.1 a = 300 ∧ ¬ h.2.1 a = 440 ∧ ¬ h.2.1 a = 59) q q_56 := hF.tr (h2_q_56.mono (fun a (z : a = a_53 ∧ h.1 a = 0 ∨ a = a_54 ∧ h.1 a = 7 ∨ a = a_55 ∧ h.1 a = 300) => (show h.1 a = 11 ∨ h.1 a = 7 ∧ ¬ h.2.1 a = 2 ∨ a = f9 ∧ h.1 a = 0 ∨ h.1 a = 300 ∧ ¬ h.2.1 a = 440 ∧ ¬ h.2.1 a = 59 from by (have c9_a_54 : a = a_54 → h.2.1 a = 4 := fun e9 => (congrArg h.2.1 e9).trans la_54); (have c9_a_55 : a = a_55 → h.2.1 a = 200 := fun e9 => (congrArg h.2.1 e9).trans la_55); omega)))
          refine wa_aload_n B dX11_fragment_64 rfl 1 rfl ?_
          refine wa_dup B dX11_fragment_65 rfl ?_
          have z_58 : q_56.1 a0 14 = q.1 a0 14 := h2_q_56.I ha0 (show ¬ (a0 = a_53 ∧ h.1 a0 = 0 ∨ a0 = a_54 ∧ h.1 a0 = 7 ∨ a0 = a_55 ∧ h.1 a0 = 300) from (fun z => z.elim (fun z => absurd (z.2.symm.trans ka0) (by decide)) (fun z => z.elim (fun z => absurd (z.2.symm.trans ka0) (by decide)) (fun z => absurd (z.2.symm.trans ka0) (by decide))))) 14
          refine wa_getI B (C := RX11) (T := TX11) (N := 16) iq_X11_fragment_X11 ha0 ka0 (by decide) rfl 14 (by decide) (by decide) (by decide +kernel) rfl (by decide) (v := (q.1 a0 14)) z_58 dX11_fragment_66 ?_
          refine wa_iconst B 1 dX11_fragment_69 (by decide) ?_
          refine wa_iadd B dX11_fragment_70 (fun v_59 ev_59 => ?_)
          have tv_59 : v_59.toInt = (q.1 a0 14).toInt + 1 := by have b0 := zx_bd (q.1 a0 14); rw [ev_59]; exact zx_add (show (-2147483648 : Int) ≤ (q.1 a0 14).toInt + 1 by omega) (show (q.1 a0 14).toInt + 1 < (2147483648 : Int) by omega)
          refine wa_putI B (C := RX11) (T := TX11) (N := 16) iq_X11_fragment_X11 ha0 ka0 (by decide) rfl 14 (by decide) (by decide) (by decide +kernel) rfl (by decide) (v := v_59) (ty := .int) tyX11 tyX11_ok nmX11 rfl (by decide +kernel) rfl rfl dX11_fragment_71 (fun q_60 eq_60 => ?_)
          have hV_q_60 : sx_V h L q_60 := by rw [eq_60]; exact hV_q_56.pI ka0 (show sx_in v_59 (0) 12 from ⟨by omega, by omega⟩)
          have hF_q_60 : sx_fr h L (fun a => h.1 a = 11 ∨ h.1 a = 7 ∧ ¬ h.2.1 a = 2 ∨ a = f9 ∧ h.1 a = 0 ∨ h.1 a = 300 ∧ ¬ h.2.1 a = 440 ∧ ¬ h.2.1 a = 59) q q_60 := hF_q_56.tr (by rw [eq_60]; exact sx_fr.pI (show h.1 a0 = 11 ∨ h.1 a0 = 7 ∧ ¬ h.2.1 a0 = 2 ∨ a0 = f9 ∧ h.1 a0 = 0 ∨ h.1 a0 = 300 ∧ ¬ h.2.1 a0 = 440 ∧ ¬ h.2.1 a0 = 59 from (Or.inl ka0)))
          have z_61 : q_60.1 a0 14 = v_59 := by rw [eq_60]; exact sg_pI_e
          refine wa_aload_n B dX11_fragment_74 rfl 1 rfl ?_
          have z_62 : q_60.2.2.1 a0 0 = t0 := ((show q_60.2.2.1 a0 0 = q_56.2.2.1 a0 0 from by rw [eq_60]; rfl)).trans ((h2_q_56.R ha0 (show ¬ ((a0 = a_53 ∧ h.1 a0 = 0 ∨ a0 = a_54 ∧ h.1 a0 = 7 ∨ a0 = a_55 ∧ h.1 a0 = 300) ∧ (h.1 a0 = 8 ∨ h.1 a0 = 11)) from fun z9 => (show ¬ (a0 = a_53 ∧ h.1 a0 = 0 ∨ a0 = a_54 ∧ h.1 a0 = 7 ∨ a0 = a_55 ∧ h.1 a0 = 300) from (fun z => z.elim (fun z => absurd (z.2.symm.trans ka0) (by decide)) (fun z => z.elim (fun z => absurd (z.2.symm.trans ka0) (by decide)) (fun z => absurd (z.2.symm.trans ka0) (by decide))))) z9.1) 0).trans (et0))
          refine wa_getR B (C := RX11) (T := TX11) (N := 16) iq_X11_fragment_X11 ha0 ka0 (by decide) rfl 0 (by decide) (by decide) (by decide +kernel) rfl (fun _ _ _ => rfl) (v := t0) z_62 dX11_fragment_75 ?_
          refine wa_callVv B (x := (RX7, TX7, 2)) (As := []) (rest := []) (k_X7_clear l dC dI h L hN q_60 hV_q_60 (a0 := t0) ht0 kt0  ) (cwV 0 B.1.2.2.2.2 gX11_fragment_X7_clear rfl rfl rfl (by decide +kernel) ⟨Nat.le_of_ble_eq_true rfl, Nat.le_of_ble_eq_true rfl⟩) ht0 kt0 (by decide) rfl rfl rfl (Nat.le_of_ble_eq_true rfl) dX11_fragment_78 (fun q_63 w_64 => ?_)
          obtain ⟨hV_q_63, h2_q_63, hw_64⟩ := w_64
          have hF_q_63 : sx_fr h L (fun a => h.1 a = 11 ∨ h.1 a = 7 ∧ ¬ h.2.1 a = 2 ∨ a = f9 ∧ h.1 a = 0 ∨ h.1 a = 300 ∧ ¬ h.2.1 a = 440 ∧ ¬ h.2.1 a = 59) q q_63 := hF_q_60.tr (h2_q_63.mono (fun a (z : a = t0 ∧ h.1 a = 7) => (show h.1 a = 11 ∨ h.1 a = 7 ∧ ¬ h.2.1 a = 2 ∨ a = f9 ∧ h.1 a = 0 ∨ h.1 a = 300 ∧ ¬ h.2.1 a = 440 ∧ ¬ h.2.1 a = 59 from by (have c9_t0 : a = t0 → h.2.1 a = 1 := fun e9 => (congrArg h.2.1 e9).trans lt0); omega)))
          refine wa_iload_n B dX11_fragment_81 rfl 0 rfl ?_
          refine wa_if_eq B 94 dX11_fragment_82 (by decide) (fun z => absurd z (by decide)) (fun _ => ?_)
          refine wa_aload_n B dX11_fragment_85 rfl 1 rfl ?_
          have z_65 : q_63.1 a0 14 = v_59 := (h2_q_63.I ha0 (show ¬ (a0 = t0 ∧ h.1 a0 = 7) from (fun z => absurd (z.2.symm.trans ka0) (by decide))) 14).trans (z_61)
          refine wa_getI B (C := RX11) (T := TX11) (N := 16) iq_X11_fragment_X11 ha0 ka0 (by decide) rfl 14 (by decide) (by decide) (by decide +kernel) rfl (by decide) (v := v_59) z_65 dX11_fragment_86 ?_
          have g_66 : (0 : Int) ≤ v_59.toInt ∧ v_59.toInt ≤ 12 := by rw [← z_65]; exact hV_q_63.int ha0 ka0 14
          refine wa_iconst B 1 dX11_fragment_89 (by decide) ?_
          refine wa_isub B dX11_fragment_90 (fun v_67 ev_67 => ?_)
          refine wa_goto B 95 dX11_fragment_91 (by decide) ?_
          have tv_67 : v_67.toInt = v_59.toInt - 1 := by have b0 := zx_bd v_59; rw [ev_67]; exact zx_sub (show (-2147483648 : Int) ≤ v_59.toInt - 1 by omega) (show v_59.toInt - 1 < (2147483648 : Int) by omega)
          have y_68 : (q_63.1 a0 14).toInt = v_59.toInt := by rw [z_65]
          have y_69 : (q_63.1 t0 1).toInt = 0 := by rw [hw_64]; rfl
          have z_70 : q_63.2.2.1 a0 0 = t0 := (h2_q_63.R ha0 (show ¬ ((a0 = t0 ∧ h.1 a0 = 7) ∧ (h.1 a0 = 8 ∨ h.1 a0 = 11)) from fun z9 => (show ¬ (a0 = t0 ∧ h.1 a0 = 7) from (fun z => absurd (z.2.symm.trans ka0) (by decide))) z9.1) 0).trans (z_62)
          have z_71 : q_63.2.2.1 a0 9 = fa := (h2_q_63.R ha0 (show ¬ ((a0 = t0 ∧ h.1 a0 = 7) ∧ (h.1 a0 = 8 ∨ h.1 a0 = 11)) from fun z9 => (show ¬ (a0 = t0 ∧ h.1 a0 = 7) from (fun z => absurd (z.2.symm.trans ka0) (by decide))) z9.1) 9).trans (((show q_60.2.2.1 a0 9 = q_56.2.2.1 a0 9 from by rw [eq_60]; rfl)).trans ((h2_q_56.R ha0 (show ¬ ((a0 = a_53 ∧ h.1 a0 = 0 ∨ a0 = a_54 ∧ h.1 a0 = 7 ∨ a0 = a_55 ∧ h.1 a0 = 300) ∧ (h.1 a0 = 8 ∨ h.1 a0 = 11)) from fun z9 => (show ¬ (a0 = a_53 ∧ h.1 a0 = 0 ∨ a0 = a_54 ∧ h.1 a0 = 7 ∨ a0 = a_55 ∧ h.1 a0 = 300) from (fun z => z.elim (fun z => absurd (z.2.symm.trans ka0) (by decide)) (fun z => z.elim (fun z => absurd (z.2.symm.trans ka0) (by decide)) (fun z => absurd (z.2.symm.trans ka0) (by decide))))) z9.1) 9).trans (efa)))
          have z_72 : q_63.2.2.1 a0 11 = uu := (h2_q_63.R ha0 (show ¬ ((a0 = t0 ∧ h.1 a0 = 7) ∧ (h.1 a0 = 8 ∨ h.1 a0 = 11)) from fun z9 => (show ¬ (a0 = t0 ∧ h.1 a0 = 7) from (fun z => absurd (z.2.symm.trans ka0) (by decide))) z9.1) 11).trans (((show q_60.2.2.1 a0 11 = q_56.2.2.1 a0 11 from by rw [eq_60]; rfl)).trans ((h2_q_56.R ha0 (show ¬ ((a0 = a_53 ∧ h.1 a0 = 0 ∨ a0 = a_54 ∧ h.1 a0 = 7 ∨ a0 = a_55 ∧ h.1 a0 = 300) ∧ (h.1 a0 = 8 ∨ h.1 a0 = 11)) from fun z9 => (show ¬ (a0 = a_53 ∧ h.1 a0 = 0 ∨ a0 = a_54 ∧ h.1 a0 = 7 ∨ a0 = a_55 ∧ h.1 a0 = 300) from (fun z => z.elim (fun z => absurd (z.2.symm.trans ka0) (by decide)) (fun z => z.elim (fun z => absurd (z.2.symm.trans ka0) (by decide)) (fun z => absurd (z.2.symm.trans ka0) (by decide))))) z9.1) 11).trans (euu)))
          have z_73 : q_63.2.2.1 a0 12 = q.2.2.1 a0 12 := (h2_q_63.R ha0 (show ¬ ((a0 = t0 ∧ h.1 a0 = 7) ∧ (h.1 a0 = 8 ∨ h.1 a0 = 11)) from fun z9 => (show ¬ (a0 = t0 ∧ h.1 a0 = 7) from (fun z => absurd (z.2.symm.trans ka0) (by decide))) z9.1) 12).trans (((show q_60.2.2.1 a0 12 = q_56.2.2.1 a0 12 from by rw [eq_60]; rfl)).trans (h2_q_56.R ha0 (show ¬ ((a0 = a_53 ∧ h.1 a0 = 0 ∨ a0 = a_54 ∧ h.1 a0 = 7 ∨ a0 = a_55 ∧ h.1 a0 = 300) ∧ (h.1 a0 = 8 ∨ h.1 a0 = 11)) from fun z9 => (show ¬ (a0 = a_53 ∧ h.1 a0 = 0 ∨ a0 = a_54 ∧ h.1 a0 = 7 ∨ a0 = a_55 ∧ h.1 a0 = 300) from (fun z => z.elim (fun z => absurd (z.2.symm.trans ka0) (by decide)) (fun z => z.elim (fun z => absurd (z.2.symm.trans ka0) (by decide)) (fun z => absurd (z.2.symm.trans ka0) (by decide))))) z9.1) 12))
          have z_74 : q_63.2.2.1 a0 1 = o0 := (h2_q_63.R ha0 (show ¬ ((a0 = t0 ∧ h.1 a0 = 7) ∧ (h.1 a0 = 8 ∨ h.1 a0 = 11)) from fun z9 => (show ¬ (a0 = t0 ∧ h.1 a0 = 7) from (fun z => absurd (z.2.symm.trans ka0) (by decide))) z9.1) 1).trans (((show q_60.2.2.1 a0 1 = q_56.2.2.1 a0 1 from by rw [eq_60]; rfl)).trans ((h2_q_56.R ha0 (show ¬ ((a0 = a_53 ∧ h.1 a0 = 0 ∨ a0 = a_54 ∧ h.1 a0 = 7 ∨ a0 = a_55 ∧ h.1 a0 = 300) ∧ (h.1 a0 = 8 ∨ h.1 a0 = 11)) from fun z9 => (show ¬ (a0 = a_53 ∧ h.1 a0 = 0 ∨ a0 = a_54 ∧ h.1 a0 = 7 ∨ a0 = a_55 ∧ h.1 a0 = 300) from (fun z => z.elim (fun z => absurd (z.2.symm.trans ka0) (by decide)) (fun z => z.elim (fun z => absurd (z.2.symm.trans ka0) (by decide)) (fun z => absurd (z.2.symm.trans ka0) (by decide))))) z9.1) 1).trans (eo0)))
          have z_75 : q_63.1 a_53 3 = q_56.1 a_53 3 := (h2_q_63.I ha_53 (show ¬ (a_53 = t0 ∧ h.1 a_53 = 7) from (fun z => absurd (z.2.symm.trans ka_53) (by decide))) 3).trans ((show q_60.1 a_53 3 = q_56.1 a_53 3 from by rw [eq_60]; exact sg_pI_k (by decide)))
          exact hret _ _ _ _ dX11_fragment_95 ⟨hV_q_63, hF_q_63, ⟨z_70, by omega, by omega, z_72, z_73, ⟨z_71, z_74⟩, fun _ => by rw [← w9, z_75]; exact hw_57⟩⟩
set_option maxHeartbeats 4000000 in
set_option maxRecDepth 100000 in
theorem k_X11_isFragment_c (l : Launch) (dC : Nat → ClassId) (dI : Nat → Nat → Nat) (h : Sh) (L : List Nat) (hN : sx_nd L) (q : Sg) (hV : sx_V h L q) {a0 : Nat} (ha0 : a0 ∈ L) (ka0 : h.1 a0 = 11) (n1 : Int32)    : CMi l dC dI h L yX11_isFragment wsX11_isFragment ({ frames := 0, cells := 0, slots := 0, locals := 0 } : Room) q [.ref a0, .int n1] (fun r q' => q = q' ∧ (r.toInt = 1 ∧ 0 ≤ n1.toInt ∧ n1.toInt < (q.1 a0 14).toInt ∧ n1.toInt < 12 ∨ r.toInt = 0 ∧ ¬ (0 ≤ n1.toInt ∧ n1.toInt < (q.1 a0 14).toInt))) := by
  refine cm_z (cc := cX11_isFragment) (mL := 2) (own := RX11) hN (by decide) rfl rfl (Nat.le_of_ble_eq_true rfl) (fun Z B hret => ?_)
  show WA l dC dI h L ({ frames := 0, cells := 0, slots := 0, locals := 0 } : Room) 2 Z q 0 [(0, .ref a0), (1, .int n1)] []
  refine wa_iload_n B dX11_isFragment_0 rfl 1 rfl ?_
  refine wa_if_lt B 16 dX11_isFragment_1 (by decide) (fun (t_1 : n1.toInt < 0) => ?_) (fun (t_1 : ¬ n1.toInt < 0) => ?_)
  · refine wa_iconst B 0 dX11_isFragment_16 (by decide) ?_
    exact hret _ _ _ _ dX11_isFragment_17 (Or.inl rfl) ⟨rfl, (by have h9 : (0 : Int32).toInt = 0 := rfl; first | omega | (refine ⟨?_, ?_⟩ <;> omega) | trivial)⟩
  · refine wa_iload_n B dX11_isFragment_4 rfl 1 rfl ?_
    refine wa_aload_n B dX11_isFragment_5 rfl 0 rfl ?_
    refine wa_getI B (C := RX11) (T := TX11) (N := 16) iq_X11_isFragment_X11 ha0 ka0 (by decide) rfl 14 (by decide) (by decide) (by decide +kernel) rfl (by decide) (v := (q.1 a0 14)) rfl dX11_isFragment_6 ?_
    have g_2 : (0 : Int) ≤ (q.1 a0 14).toInt ∧ (q.1 a0 14).toInt ≤ 12 := hV.int ha0 ka0 14
    refine wa_icmp_ge B 16 dX11_isFragment_9 (by decide) (fun (t_3 : (q.1 a0 14).toInt ≤ n1.toInt) => ?_) (fun (t_3 : ¬ (q.1 a0 14).toInt ≤ n1.toInt) => ?_)
    · refine wa_iconst B 0 dX11_isFragment_16 (by decide) ?_
      exact hret _ _ _ _ dX11_isFragment_17 (Or.inl rfl) ⟨rfl, (by have h9 : (0 : Int32).toInt = 0 := rfl; first | omega | (refine ⟨?_, ?_⟩ <;> omega) | trivial)⟩
    · refine wa_iconst B 1 dX11_isFragment_12 (by decide) ?_
      refine wa_goto B 17 dX11_isFragment_13 (by decide) ?_
      exact hret _ _ _ _ dX11_isFragment_17 (Or.inr rfl) ⟨rfl, (by have h9 : (1 : Int32).toInt = 1 := rfl; first | omega | (refine ⟨?_, ?_⟩ <;> omega) | trivial)⟩
set_option maxHeartbeats 4000000 in
set_option maxRecDepth 100000 in
theorem k_X11_rows_c (l : Launch) (dC : Nat → ClassId) (dI : Nat → Nat → Nat) (h : Sh) (L : List Nat) (hN : sx_nd L) (q : Sg) (hV : sx_V h L q) {a0 : Nat} (ha0 : a0 ∈ L) (ka0 : h.1 a0 = 11) (n1 : Int32) {fa : Nat} (efa : q.2.2.1 a0 9 = fa)    : CMi l dC dI h L yX11_rows wsX11_rows ({ frames := 1, cells := 0, slots := 0, locals := 21 } : Room) q [.ref a0, .int n1] (fun r q' => q = q' ∧ ((0 ≤ n1.toInt ∧ n1.toInt < (q.1 a0 14).toInt → r = q.1 (h.2.2.2 fa n1.toNatClampNeg) 3) ∧ (¬ (0 ≤ n1.toInt ∧ n1.toInt < (q.1 a0 14).toInt) → r = -1))) := by
  refine cm_i (cc := cX11_rows) (mL := 2) (own := RX11) hN (by decide) rfl rfl (Nat.le_of_ble_eq_true rfl) (fun Z B hret => ?_)
  obtain ⟨hfa, kfa, lfa⟩ : fa ∈ L ∧ h.1 fa = 403 ∧ h.2.1 fa = 12 := by obtain ⟨r9, e9, z1, z2, z3⟩ := hV.refn (t := 403) (n := 12) ha0 ka0 9 rfl (by decide) rfl (by decide); rw [← efa, e9]; exact ⟨z1, z2, z3⟩
  show WA l dC dI h L ({ frames := 1, cells := 0, slots := 0, locals := 21 } : Room) 2 Z q 0 [(0, .ref a0), (1, .int n1)] []
  refine wa_aload_n B dX11_rows_0 rfl 0 rfl ?_
  refine wa_iload_n B dX11_rows_1 rfl 1 rfl ?_
  refine wa_callVi B (x := (RX11, TX11, 16)) (As := [.int n1]) (rest := []) (k_X11_isFragment_c l dC dI h L hN q hV (a0 := a0) ha0 ka0 n1  ) (cwV 1 B.1.2.2.2.2 gX11_rows_X11_isFragment rfl rfl rfl (by decide +kernel) ⟨Nat.le_of_ble_eq_true rfl, Nat.le_of_ble_eq_true rfl⟩) ha0 ka0 (by decide) rfl rfl rfl (Nat.le_of_ble_eq_true rfl) dX11_rows_2 (fun r_2 q_1 w_3 => ?_)
  obtain ⟨ew_3, hw_3⟩ := w_3
  subst ew_3
  refine wa_if_eq B 20 dX11_rows_5 (by decide) (fun (t_4 : r_2.toInt = 0) => ?_) (fun (t_4 : ¬ r_2.toInt = 0) => ?_)
  · refine wa_iconst B (-1) dX11_rows_20 (by decide) ?_
    exact hret _ _ _ _ dX11_rows_21 ⟨rfl, ⟨fun z9 => by exfalso; omega, fun _ => rfl⟩⟩
  · refine wa_aload_n B dX11_rows_8 rfl 0 rfl ?_
    refine wa_getR B (C := RX11) (T := TX11) (N := 16) iq_X11_rows_X11 ha0 ka0 (by decide) rfl 9 (by decide) (by decide) (by decide +kernel) rfl (fun _ _ _ => rfl) (v := fa) efa dX11_rows_9 ?_
    refine wa_iload_n B dX11_rows_12 rfl 1 rfl ?_
    obtain ⟨a_5, ea_5, ha_5, ka_5⟩ := hV.elem (t := 0) hfa kfa (by decide) rfl (zx_ix (i := n1) (show 0 ≤ n1.toInt by omega) (show n1.toInt < (h.2.1 fa : Int) by omega))
    refine wa_aaload B (t0 := 6) hfa kfa (by decide) rfl (show 0 ≤ n1.toInt by omega) (show n1.toInt < (h.2.1 fa : Int) by omega) (v := a_5) ea_5 dX11_rows_13 ?_
    refine wa_getI B (C := RX0) (T := TX0) (N := 4) iq_X11_rows_X0 ha_5 ka_5 (by decide) rfl 3 (by decide) (by decide) (by decide +kernel) rfl (by decide) (v := (q.1 a_5 3)) rfl dX11_rows_14 ?_
    refine wa_goto B 21 dX11_rows_17 (by decide) ?_
    exact hret _ _ _ _ dX11_rows_21 ⟨rfl, ⟨fun _ => by rw [ea_5], fun z9 => absurd (show 0 ≤ n1.toInt ∧ n1.toInt < (q.1 a0 14).toInt by omega) z9⟩⟩
