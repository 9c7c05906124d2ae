theorem iq_X0_goesLeftOf_X0 : ∀ w ∈ wsX00, w ∈ wsX0_goesLeftOf := fun _ h => List.mem_cons_of_mem _ (List.mem_append_right _ h)
set_option maxHeartbeats 4000000 in
set_option maxRecDepth 100000 in
theorem k_X0_goesLeftOf (l : Launch) (dC : Nat → ClassId) (dI : Nat → Nat → Nat) (h : Sh) (L : List Nat) (hN : sx_nd L) (q : Sg) (hV : sx_V h L q) {a0 : Nat} (ha0 : a0 ∈ L) (ka0 : h.1 a0 = 0) {a1 : Nat} (ha1 : a1 ∈ L) (ka1 : h.1 a1 = 0)   : CMi l dC dI h L yX0_goesLeftOf wsX0_goesLeftOf ({ frames := 0, cells := 0, slots := 0, locals := 0 } : Room) q [.ref a0, .ref a1] (fun r q' => q = q' ∧ (r.toInt = 0 ∨ r.toInt = 1)) := by
  refine cm_z (cc := cX0_goesLeftOf) (mL := 2) (own := RX0) hN (by decide) rfl rfl (Nat.le_of_ble_eq_true rfl) (fun Z B hret => ?_)
  show WA l dC dI h L ({ frames := 0, cells := 0, slots := 0, locals := 0 } : Room) 2 Z q 0 [(0, .ref a0), (1, .ref a1)] []
  refine wa_aload_n B dX0_goesLeftOf_0 rfl 0 rfl ?_
  refine wa_getI B (C := RX0) (T := TX0) (N := 4) iq_X0_goesLeftOf_X0 ha0 ka0 (by decide) rfl 2 (by decide) (by decide) (by decide +kernel) rfl (by decide) (v := (q.1 a0 2)) rfl dX0_goesLeftOf_1 ?_
  refine wa_if_eq B 43 dX0_goesLeftOf_4 (by decide) (fun (t_1 : (q.1 a0 2).toInt = 0) => ?_) (fun (t_1 : ¬ (q.1 a0 2).toInt = 0) => ?_)
  · refine wa_iconst B 0 dX0_goesLeftOf_43 (by decide) ?_
    exact hret _ _ _ _ dX0_goesLeftOf_44 (Or.inl rfl) ⟨rfl, (by have h9 : (0 : Int32).toInt = 0 := rfl; first | omega | (refine ⟨?_, ?_⟩ <;> omega) | trivial)⟩
  · refine wa_aload_n B dX0_goesLeftOf_7 rfl 1 rfl ?_
    refine wa_getI B (C := RX0) (T := TX0) (N := 4) iq_X0_goesLeftOf_X0 ha1 ka1 (by decide) rfl 1 (by decide) (by decide) (by decide +kernel) rfl (by decide) (v := (q.1 a1 1)) rfl dX0_goesLeftOf_8 ?_
    refine wa_if_eq B 43 dX0_goesLeftOf_11 (by decide) (fun (t_2 : (q.1 a1 1).toInt = 0) => ?_) (fun (t_2 : ¬ (q.1 a1 1).toInt = 0) => ?_)
    · refine wa_iconst B 0 dX0_goesLeftOf_43 (by decide) ?_
      exact hret _ _ _ _ dX0_goesLeftOf_44 (Or.inl rfl) ⟨rfl, (by have h9 : (0 : Int32).toInt = 0 := rfl; first | omega | (refine ⟨?_, ?_⟩ <;> omega) | trivial)⟩
    · refine wa_aload_n B dX0_goesLeftOf_14 rfl 0 rfl ?_
      refine wa_getI B (C := RX0) (T := TX0) (N := 4) iq_X0_goesLeftOf_X0 ha0 ka0 (by decide) rfl 2 (by decide) (by decide) (by decide +kernel) rfl (by decide) (v := (q.1 a0 2)) rfl dX0_goesLeftOf_15 ?_
      refine wa_aload_n B dX0_goesLeftOf_18 rfl 1 rfl ?_
      refine wa_getI B (C := RX0) (T := TX0) (N := 4) iq_X0_goesLeftOf_X0 ha1 ka1 (by decide) rfl 1 (by decide) (by decide) (by decide +kernel) rfl (by decide) (v := (q.1 a1 1)) rfl dX0_goesLeftOf_19 ?_
      refine wa_iadd B dX0_goesLeftOf_22 (fun v_3 ev_3 => ?_)
      refine wa_ldc B 99999999 (by decide +kernel) dX0_goesLeftOf_23 ?_
      refine wa_icmp_ne B 43 dX0_goesLeftOf_25 (by decide) (fun (t_4 : ¬ v_3.toInt = 99999999) => ?_) (fun (t_4 : v_3.toInt = 99999999) => ?_)
      · refine wa_iconst B 0 dX0_goesLeftOf_43 (by decide) ?_
        exact hret _ _ _ _ dX0_goesLeftOf_44 (Or.inl rfl) ⟨rfl, (by have h9 : (0 : Int32).toInt = 0 := rfl; first | omega | (refine ⟨?_, ?_⟩ <;> omega) | trivial)⟩
      · refine wa_aload_n B dX0_goesLeftOf_28 rfl 0 rfl ?_
        refine wa_getI B (C := RX0) (T := TX0) (N := 4) iq_X0_goesLeftOf_X0 ha0 ka0 (by decide) rfl 3 (by decide) (by decide) (by decide +kernel) rfl (by decide) (v := (q.1 a0 3)) rfl dX0_goesLeftOf_29 ?_
        refine wa_aload_n B dX0_goesLeftOf_32 rfl 1 rfl ?_
        refine wa_getI B (C := RX0) (T := TX0) (N := 4) iq_X0_goesLeftOf_X0 ha1 ka1 (by decide) rfl 3 (by decide) (by decide) (by decide +kernel) rfl (by decide) (v := (q.1 a1 3)) rfl dX0_goesLeftOf_33 ?_
        refine wa_icmp_ne B 43 dX0_goesLeftOf_36 (by decide) (fun (t_5 : ¬ (q.1 a0 3).toInt = (q.1 a1 3).toInt) => ?_) (fun (t_5 : (q.1 a0 3).toInt = (q.1 a1 3).toInt) => ?_)
        · refine wa_iconst B 0 dX0_goesLeftOf_43 (by decide) ?_
          exact hret _ _ _ _ dX0_goesLeftOf_44 (Or.inl rfl) ⟨rfl, (by have h9 : (0 : Int32).toInt = 0 := rfl; first | omega | (refine ⟨?_, ?_⟩ <;> omega) | trivial)⟩
        · refine wa_iconst B 1 dX0_goesLeftOf_39 (by decide) ?_
          refine wa_goto B 44 dX0_goesLeftOf_40 (by decide) ?_
          exact hret _ _ _ _ dX0_goesLeftOf_44 (Or.inr rfl) ⟨rfl, (by have h9 : (1 : Int32).toInt = 1 := rfl; first | omega | (refine ⟨?_, ?_⟩ <;> omega) | trivial)⟩
theorem iq_X0_take_X0 : ∀ w ∈ wsX00, w ∈ wsX0_take := fun _ h => List.mem_cons_of_mem _ (List.mem_append_left _ (List.mem_append_right _ h))
theorem iq_X0_take_X7 : ∀ w ∈ wsX70, w ∈ wsX0_take := fun _ h => List.mem_cons_of_mem _ (List.mem_append_right _ h)
set_option maxHeartbeats 4000000 in
set_option maxRecDepth 100000 in
theorem k_X0_take (l : Launch) (dC : Nat → ClassId) (dI : Nat → Nat → Nat) (h : Sh) (L : List Nat) (hN : sx_nd L) (q : Sg) (hV : sx_V h L q) {a0 : Nat} (ha0 : a0 ∈ L) (ka0 : h.1 a0 = 0) {a1 : Nat} (ha1 : a1 ∈ L) (ka1 : h.1 a1 = 7) (n1 : Int32) (n2 : Int32) {t0 : Nat} (et0 : q.2.2.1 a0 0 = t0) {b0 : Nat} (eb0 : q.2.2.1 t0 0 = b0) (na1_t0 : ¬ a1 = t0)   : CMv l dC dI h L yX0_take wsX0_take ({ frames := 1, cells := 0, slots := 0, locals := 21 } : Room) q [.ref a0, .ref a1, .int n1, .int n2] (fun q' => sx_V h L q' ∧ sx_fr h L (fun a => a = a0 ∧ h.1 a = 0 ∨ a = t0 ∧ h.1 a = 7 ∨ a = b0 ∧ h.1 a = 300) q q') := by
  refine cm_v (cc := cX0_take) (mL := 6) (own := RX0) hN (by decide) rfl rfl (Nat.le_of_ble_eq_true rfl) (fun Z B hret => ?_)
  have hF : sx_fr h L (fun a => a = a0 ∧ h.1 a = 0 ∨ a = t0 ∧ h.1 a = 7 ∨ a = b0 ∧ h.1 a = 300) q q := sx_fr.rf
  obtain ⟨ht0, kt0, lt0⟩ : t0 ∈ L ∧ h.1 t0 = 7 ∧ h.2.1 t0 = 4 := by obtain ⟨r9, e9, z1, z2, z3⟩ := hV.refn (t := 7) (n := 4) ha0 ka0 0 rfl (by decide) rfl (by decide); rw [← et0, e9]; exact ⟨z1, z2, z3⟩
  obtain ⟨hb0, kb0, lb0⟩ : b0 ∈ L ∧ h.1 b0 = 300 ∧ h.2.1 b0 = 200 := by obtain ⟨r9, e9, z1, z2, z3⟩ := hV.refn (t := 300) (n := 200) ht0 kt0 0 rfl (by decide) (by rw [lt0]; rfl) (by decide); rw [← eb0, e9]; exact ⟨z1, z2, z3⟩
  show WA l dC dI h L ({ frames := 1, cells := 0, slots := 0, locals := 21 } : Room) 6 Z q 0 [(0, .ref a0), (1, .ref a1), (2, .int n1), (3, .int n2)] []
  refine wa_aload_n B dX0_take_0 rfl 0 rfl ?_
  refine wa_getR B (C := RX0) (T := TX0) (N := 4) iq_X0_take_X0 ha0 ka0 (by decide) rfl 0 (by decide) (by decide) (by decide +kernel) rfl (fun _ _ _ => rfl) (v := t0) et0 dX0_take_1 ?_
  refine wa_callVv B (x := (RX7, TX7, 2)) (As := []) (rest := []) (k_X7_clear l dC dI h L hN q hV (a0 := t0) ht0 kt0  ) (cwV 0 B.1.2.2.2.2 gX0_take_X7_clear rfl rfl rfl (by decide +kernel) ⟨Nat.le_of_ble_eq_true rfl, Nat.le_of_ble_eq_true rfl⟩) ht0 kt0 (by decide) rfl rfl rfl (Nat.le_of_ble_eq_true rfl) dX0_take_4 (fun q_1 w_2 => ?_)
  obtain ⟨hV_q_1, h2_q_1, hw_2⟩ := w_2
  have hF_q_1 : sx_fr h L (fun a => a = a0 ∧ h.1 a = 0 ∨ a = t0 ∧ h.1 a = 7 ∨ a = b0 ∧ h.1 a = 300) q q_1 := hF.tr (h2_q_1.mono (fun a (z : a = t0 ∧ h.1 a = 7) => (show a = a0 ∧ h.1 a = 0 ∨ a = t0 ∧ h.1 a = 7 ∨ a = b0 ∧ h.1 a = 300 from by omega)))
  refine wa_aload_n B dX0_take_7 rfl 0 rfl ?_
  refine wa_iconst B 1 dX0_take_8 (by decide) ?_
  refine wa_putI B (C := RX0) (T := TX0) (N := 4) iq_X0_take_X0 ha0 ka0 (by decide) rfl 3 (by decide) (by decide) (by decide +kernel) rfl (by decide) (v := 1) (ty := .int) tyX0 tyX0_ok nmX0 rfl (by decide +kernel) rfl rfl dX0_take_9 (fun q_3 eq_3 => ?_)
  have hV_q_3 : sx_V h L q_3 := by rw [eq_3]; exact hV_q_1.pI ka0 trivial
  have hF_q_3 : sx_fr h L (fun a => a = a0 ∧ h.1 a = 0 ∨ a = t0 ∧ h.1 a = 7 ∨ a = b0 ∧ h.1 a = 300) q q_3 := hF_q_1.tr (by rw [eq_3]; exact sx_fr.pI (show a0 = a0 ∧ h.1 a0 = 0 ∨ a0 = t0 ∧ h.1 a0 = 7 ∨ a0 = b0 ∧ h.1 a0 = 300 from by omega))
  have z_4 : q_3.1 a0 3 = 1 := by rw [eq_3]; exact sg_pI_e
  refine wa_iconst B 0 dX0_take_12 (by decide) ?_
  refine wa_istore B [(4, .int 0), (0, .ref a0), (1, .ref a1), (2, .int n1), (3, .int n2)] dX0_take_13 (by decide) rfl ?_
  have z_7 : q_3.1 t0 1 = 0 := ((show q_3.1 t0 1 = q_1.1 t0 1 from by rw [eq_3]; exact sg_pI_k (by decide))).trans (hw_2)
  have z_8 : q_3.2.2.1 a0 0 = t0 := ((show q_3.2.2.1 a0 0 = q_1.2.2.1 a0 0 from by rw [eq_3]; rfl)).trans ((h2_q_1.R ha0 (show ¬ ((a0 = t0 ∧ h.1 a0 = 7) ∧ (h.1 a0 = 8 ∨ h.1 a0 = 11)) from by omega) 0).trans (et0))
  have z_9 : q_3.2.2.1 t0 0 = b0 := ((show q_3.2.2.1 t0 0 = q_1.2.2.1 t0 0 from by rw [eq_3]; rfl)).trans ((h2_q_1.R ht0 (show ¬ ((t0 = t0 ∧ h.1 t0 = 7) ∧ (h.1 t0 = 8 ∨ h.1 t0 = 11)) from by omega) 0).trans (eb0))
  have Lp_15_11 : ∀ (n : Nat) (v_5 : Int32) (q_6 : Sg), sx_V h L q_6 → sx_fr h L (fun a => a = a0 ∧ h.1 a = 0 ∨ a = t0 ∧ h.1 a = 7 ∨ a = b0 ∧ h.1 a = 300) q q_6 → q_6.2.2.1 a0 0 = t0 → q_6.2.2.1 t0 0 = b0 → 0 ≤ v_5.toInt → ((q_6.1 a1 1).toInt - v_5.toInt : Int).toNat < n → WA l dC dI h L ({ frames := 1, cells := 0, slots := 0, locals := 21 } : Room) 6 Z q_6 15 [(4, .int v_5), (0, .ref a0), (1, .ref a1), (2, .int n1), (3, .int n2)] [] := by
    intro n
    induction n with
    | zero =>
      intro v_5 q_6 hV_q_6 hF_q_6 p0_q_6 p1_q_6 x_10 hn
      exact absurd hn (Nat.not_lt_zero _)
    | succ n ih_12 =>
      intro v_5 q_6 hV_q_6 hF_q_6 p0_q_6 p1_q_6 x_10 hn
      refine wa_iload B dX0_take_15 0 rfl ?_
      refine wa_aload_n B dX0_take_17 rfl 2 rfl ?_
      refine wa_getI B (C := RX7) (T := TX7) (N := 2) iq_X0_take_X7 ha1 ka1 (by decide) rfl 1 (by decide) (by decide) (by decide +kernel) rfl (by decide) (v := (q_6.1 a1 1)) rfl dX0_take_18 ?_
      obtain ⟨a_14, ea_14, ha_14, ka_14⟩ := hV_q_6.ref (t := 300) ha1 ka1 0 rfl (by decide)
      have g_13 : (0 : Int) ≤ (q_6.1 a1 1).toInt ∧ (q_6.1 a1 1).toInt ≤ (h.2.1 a_14 : Int) := by have z9 := hV_q_6.int ha1 ka1 1; rw [ea_14] at z9; exact z9
      have l_15 : h.2.1 a_14 ≤ 5000 := hV_q_6.len ha_14
      refine wa_icmp_ge B 68 dX0_take_21 (by decide) (fun (t_16 : (q_6.1 a1 1).toInt ≤ v_5.toInt) => ?_) (fun (t_16 : ¬ (q_6.1 a1 1).toInt ≤ v_5.toInt) => ?_)
      · refine wa_aload_n B dX0_take_68 rfl 1 rfl ?_
        refine wa_iload_n B dX0_take_69 rfl 3 rfl ?_
        refine wa_putI B (C := RX0) (T := TX0) (N := 4) iq_X0_take_X0 ha0 ka0 (by decide) rfl 1 (by decide) (by decide) (by decide +kernel) rfl (by decide) (v := n1) (ty := .int) tyX0 tyX0_ok nmX0 rfl (by decide +kernel) rfl rfl dX0_take_70 (fun q_17 eq_17 => ?_)
        have hV_q_17 : sx_V h L q_17 := by rw [eq_17]; exact hV_q_6.pI ka0 trivial
        have hF_q_17 : sx_fr h L (fun a => a = a0 ∧ h.1 a = 0 ∨ a = t0 ∧ h.1 a = 7 ∨ a = b0 ∧ h.1 a = 300) q q_17 := hF_q_6.tr (by rw [eq_17]; exact sx_fr.pI (show a0 = a0 ∧ h.1 a0 = 0 ∨ a0 = t0 ∧ h.1 a0 = 7 ∨ a0 = b0 ∧ h.1 a0 = 300 from by omega))
        have z_18 : q_17.1 a0 1 = n1 := by rw [eq_17]; exact sg_pI_e
        refine wa_aload_n B dX0_take_73 rfl 1 rfl ?_
        refine wa_iload_n B dX0_take_74 rfl 4 rfl ?_
        refine wa_putI B (C := RX0) (T := TX0) (N := 4) iq_X0_take_X0 ha0 ka0 (by decide) rfl 2 (by decide) (by decide) (by decide +kernel) rfl (by decide) (v := n2) (ty := .int) tyX0 tyX0_ok nmX0 rfl (by decide +kernel) rfl rfl dX0_take_75 (fun q_19 eq_19 => ?_)
        have hV_q_19 : sx_V h L q_19 := by rw [eq_19]; exact hV_q_17.pI ka0 trivial
        have hF_q_19 : sx_fr h L (fun a => a = a0 ∧ h.1 a = 0 ∨ a = t0 ∧ h.1 a = 7 ∨ a = b0 ∧ h.1 a = 300) q q_19 := hF_q_17.tr (by rw [eq_19]; exact sx_fr.pI (show a0 = a0 ∧ h.1 a0 = 0 ∨ a0 = t0 ∧ h.1 a0 = 7 ∨ a0 = b0 ∧ h.1 a0 = 300 from by omega))
        have z_20 : q_19.1 a0 2 = n2 := by rw [eq_19]; exact sg_pI_e
        exact hret _ _ _ dX0_take_78 ⟨hV_q_19, hF_q_19⟩
      · refine wa_aload_n B dX0_take_24 rfl 2 rfl ?_
        refine wa_iload B dX0_take_25 0 rfl ?_
        refine wa_callVi B (x := (RX7, TX7, 2)) (As := [.int v_5]) (rest := []) (k_X7_byteAt l dC dI h L hN q_6 hV_q_6 (a0 := a1) ha1 ka1 v_5  ) (cwV 1 B.1.2.2.2.2 gX0_take_X7_byteAt rfl rfl rfl (by decide +kernel) ⟨Nat.le_of_ble_eq_true rfl, Nat.le_of_ble_eq_true rfl⟩) ha1 ka1 (by decide) rfl rfl rfl (Nat.le_of_ble_eq_true rfl) dX0_take_27 (fun r_22 q_21 w_23 => ?_)
        obtain ⟨ew_23, hw_23⟩ := w_23
        subst ew_23
        refine wa_istore B [(5, .int r_22), (4, .int v_5), (0, .ref a0), (1, .ref a1), (2, .int n1), (3, .int n2)] dX0_take_30 (by decide) rfl ?_
        refine wa_aload_n B dX0_take_32 rfl 2 rfl ?_
        refine wa_getR B (C := RX0) (T := TX0) (N := 4) iq_X0_take_X0 ha0 ka0 (by decide) rfl 0 (by decide) (by decide) (by decide +kernel) rfl (fun _ _ _ => rfl) (v := t0) p0_q_6 dX0_take_33 ?_
        refine wa_iload B dX0_take_36 0 rfl ?_
        refine wa_callVv B (x := (RX7, TX7, 2)) (As := [.int r_22]) (rest := []) (k_X7_put l dC dI h L hN q_6 hV_q_6 (a0 := t0) ht0 kt0 r_22 (b0 := b0) p1_q_6  ) (cwV 1 B.1.2.2.2.2 gX0_take_X7_put rfl rfl rfl (by decide +kernel) ⟨Nat.le_of_ble_eq_true rfl, Nat.le_of_ble_eq_true rfl⟩) ht0 kt0 (by decide) rfl rfl rfl (Nat.le_of_ble_eq_true rfl) dX0_take_38 (fun q_24 w_25 => ?_)
        obtain ⟨hV_q_24, h2_q_24, hw_25⟩ := w_25
        have hF_q_24 : sx_fr h L (fun a => a = a0 ∧ h.1 a = 0 ∨ a = t0 ∧ h.1 a = 7 ∨ a = b0 ∧ h.1 a = 300) q q_24 := hF_q_6.tr (h2_q_24.mono (fun a (z : a = t0 ∧ h.1 a = 7 ∨ a = b0 ∧ h.1 a = 300) => (show a = a0 ∧ h.1 a = 0 ∨ a = t0 ∧ h.1 a = 7 ∨ a = b0 ∧ h.1 a = 300 from by omega)))
        refine wa_aload_n B dX0_take_41 rfl 2 rfl ?_
        refine wa_dup B dX0_take_42 rfl ?_
        refine wa_getI B (C := RX0) (T := TX0) (N := 4) iq_X0_take_X0 ha0 ka0 (by decide) rfl 3 (by decide) (by decide) (by decide +kernel) rfl (by decide) (v := (q_24.1 a0 3)) rfl dX0_take_43 ?_
        refine wa_iload B dX0_take_46 0 rfl ?_
        refine wa_bipush B 47 dX0_take_48 (by decide) ?_
        have Jn_58_27 : ∀  (v_26 : Int32), WA l dC dI h L ({ frames := 1, cells := 0, slots := 0, locals := 21 } : Room) 6 Z q_24 58 [(5, .int r_22), (4, .int v_5), (0, .ref a0), (1, .ref a1), (2, .int n1), (3, .int n2)] [.int v_26, .int (q_24.1 a0 3), .ref a0] := by
          intro v_26
          refine wa_iadd B dX0_take_58 (fun v_28 ev_28 => ?_)
          refine wa_putI B (C := RX0) (T := TX0) (N := 4) iq_X0_take_X0 ha0 ka0 (by decide) rfl 3 (by decide) (by decide) (by decide +kernel) rfl (by decide) (v := v_28) (ty := .int) tyX0 tyX0_ok nmX0 rfl (by decide +kernel) rfl rfl dX0_take_59 (fun q_29 eq_29 => ?_)
          have hV_q_29 : sx_V h L q_29 := by rw [eq_29]; exact hV_q_24.pI ka0 trivial
          have hF_q_29 : sx_fr h L (fun a => a = a0 ∧ h.1 a = 0 ∨ a = t0 ∧ h.1 a = 7 ∨ a = b0 ∧ h.1 a = 300) q q_29 := hF_q_24.tr (by rw [eq_29]; exact sx_fr.pI (show a0 = a0 ∧ h.1 a0 = 0 ∨ a0 = t0 ∧ h.1 a0 = 7 ∨ a0 = b0 ∧ h.1 a0 = 300 from by omega))
          have z_30 : q_29.1 a0 3 = v_28 := by rw [eq_29]; exact sg_pI_e
          obtain ⟨v_31, ev_31⟩ : ∃ z : Int32, z = v_5 + 1 := ⟨_, rfl⟩
          refine wa_iinc B [(4, .int v_31), (5, .int r_22), (0, .ref a0), (1, .ref a1), (2, .int n1), (3, .int n2)] v_31 dX0_take_62 1 rfl (by rw [ev_31]; rfl) (by decide) rfl ?_
          refine wa_goto B 15 dX0_take_65 (by decide) ?_
          have tv_31 : v_31.toInt = v_5.toInt + 1 := by have b0 := zx_bd v_5; rw [ev_31]; exact zx_add (show (-2147483648 : Int) ≤ v_5.toInt + 1 by omega) (show v_5.toInt + 1 < (2147483648 : Int) by omega)
          have z_32 : q_29.1 a1 1 = q_6.1 a1 1 := ((show q_29.1 a1 1 = q_24.1 a1 1 from by rw [eq_29]; exact sg_pI_k (by decide))).trans (h2_q_24.I ha1 (show ¬ (a1 = t0 ∧ h.1 a1 = 7 ∨ a1 = b0 ∧ h.1 a1 = 300) from by omega) 1)
          have y_33 : (q_29.1 a1 1).toInt = (q_6.1 a1 1).toInt := by rw [z_32]
          have z_34 : q_29.2.2.1 a0 0 = t0 := ((show q_29.2.2.1 a0 0 = q_24.2.2.1 a0 0 from by rw [eq_29]; rfl)).trans ((h2_q_24.R ha0 (show ¬ ((a0 = t0 ∧ h.1 a0 = 7 ∨ a0 = b0 ∧ h.1 a0 = 300) ∧ (h.1 a0 = 8 ∨ h.1 a0 = 11)) from by omega) 0).trans (p0_q_6))
          have z_35 : q_29.2.2.1 t0 0 = b0 := ((show q_29.2.2.1 t0 0 = q_24.2.2.1 t0 0 from by rw [eq_29]; rfl)).trans ((h2_q_24.R ht0 (show ¬ ((t0 = t0 ∧ h.1 t0 = 7 ∨ t0 = b0 ∧ h.1 t0 = 300) ∧ (h.1 t0 = 8 ∨ h.1 t0 = 11)) from by omega) 0).trans (p1_q_6))
          refine WA.sub [0, 2, 3, 4, 5] rfl ?_
          exact ih_12 v_31 q_29 hV_q_29 hF_q_29 z_34 z_35 (show 0 ≤ v_31.toInt from by first | assumption | omega | decide) (show ((q_29.1 a1 1).toInt - v_31.toInt : Int).toNat < _ from by omega)
        refine wa_icmp_ne B 57 dX0_take_50 (by decide) (fun (t_36 : ¬ r_22.toInt = 47) => ?_) (fun (t_36 : r_22.toInt = 47) => ?_)
        · refine wa_iconst B 0 dX0_take_57 (by decide) ?_
          exact Jn_58_27 0
        · refine wa_iconst B 1 dX0_take_53 (by decide) ?_
          refine wa_goto B 58 dX0_take_54 (by decide) ?_
          exact Jn_58_27 1
  exact Lp_15_11 _ 0 q_3 hV_q_3 hF_q_3 z_8 z_9 (show 0 ≤ 0 from by first | assumption | omega | decide) (Nat.lt_succ_self _)
theorem iq_X0_sayRow_X0 : ∀ w ∈ wsX00, w ∈ wsX0_sayRow := fun _ h => List.mem_cons_of_mem _ (List.mem_append_left _ (List.mem_append_right _ h))
theorem iq_X0_sayRow_X7 : ∀ w ∈ wsX70, w ∈ wsX0_sayRow := fun _ h => List.mem_cons_of_mem _ (List.mem_append_right _ h)
set_option maxHeartbeats 4000000 in
set_option maxRecDepth 100000 in
theorem k_X0_sayRow (l : Launch) (dC : Nat → ClassId) (dI : Nat → Nat → Nat) (h : Sh) (L : List Nat) (hN : sx_nd L) (q : Sg) (hV : sx_V h L q) {a0 : Nat} (ha0 : a0 ∈ L) (ka0 : h.1 a0 = 0) (n1 : Int32) {a1 : Nat} (ha1 : a1 ∈ L) (ka1 : h.1 a1 = 7) {t0 : Nat} (et0 : q.2.2.1 a0 0 = t0) {b0 : Nat} (eb0 : q.2.2.1 a1 0 = b0) (nt0_a1 : ¬ t0 = a1)   : CMi l dC dI h L yX0_sayRow wsX0_sayRow ({ frames := 1, cells := 0, slots := 0, locals := 21 } : Room) q [.ref a0, .int n1, .ref a1] (fun r q' => sx_V h L q' ∧ sx_fr h L (fun a => a = a1 ∧ h.1 a = 7 ∨ a = b0 ∧ h.1 a = 300) q q') := by
  refine cm_i (cc := cX0_sayRow) (mL := 4) (own := RX0) hN (by decide) rfl rfl (Nat.le_of_ble_eq_true rfl) (fun Z B hret => ?_)
  have hF : sx_fr h L (fun a => a = a1 ∧ h.1 a = 7 ∨ a = b0 ∧ h.1 a = 300) q q := sx_fr.rf
  obtain ⟨ht0, kt0, lt0⟩ : t0 ∈ L ∧ h.1 t0 = 7 ∧ h.2.1 t0 = 4 := by obtain ⟨r9, e9, z1, z2, z3⟩ := hV.refn (t := 7) (n := 4) ha0 ka0 0 rfl (by decide) rfl (by decide); rw [← et0, e9]; exact ⟨z1, z2, z3⟩
  obtain ⟨hb0, kb0⟩ : b0 ∈ L ∧ h.1 b0 = 300 := by obtain ⟨r9, e9, z1, z2⟩ := hV.ref (t := 300) ha1 ka1 0 rfl (by decide); rw [← eb0, e9]; exact ⟨z1, z2⟩
  show WA l dC dI h L ({ frames := 1, cells := 0, slots := 0, locals := 21 } : Room) 4 Z q 0 [(0, .ref a0), (1, .int n1), (2, .ref a1)] []
  refine wa_iload_n B dX0_sayRow_0 rfl 1 rfl ?_
  refine wa_istore_n B [(3, .int n1), (0, .ref a0), (1, .int n1), (2, .ref a1)] dX0_sayRow_1 rfl (by decide) rfl ?_
  have Lp_2_3 : ∀ (n : Nat) (v_1 : Int32) (q_2 : Sg), sx_V h L q_2 → sx_fr h L (fun a => a = a1 ∧ h.1 a = 7 ∨ a = b0 ∧ h.1 a = 300) q q_2 → q_2.2.2.1 a0 0 = t0 → q_2.2.2.1 a1 0 = b0 → ((q_2.1 t0 1).toInt - v_1.toInt : Int).toNat < n → WA l dC dI h L ({ frames := 1, cells := 0, slots := 0, locals := 21 } : Room) 4 Z q_2 2 [(3, .int v_1), (0, .ref a0), (1, .int n1), (2, .ref a1)] [] := by
    intro n
    induction n with
    | zero =>
      intro v_1 q_2 hV_q_2 hF_q_2 p0_q_2 p1_q_2 hn
      exact absurd hn (Nat.not_lt_zero _)
    | succ n ih_4 =>
      intro v_1 q_2 hV_q_2 hF_q_2 p0_q_2 p1_q_2 hn
      refine wa_iload_n B dX0_sayRow_2 rfl 0 rfl ?_
      refine wa_aload_n B dX0_sayRow_3 rfl 1 rfl ?_
      refine wa_getR B (C := RX0) (T := TX0) (N := 4) iq_X0_sayRow_X0 ha0 ka0 (by decide) rfl 0 (by decide) (by decide) (by decide +kernel) rfl (fun _ _ _ => rfl) (v := t0) p0_q_2 dX0_sayRow_4 ?_
      refine wa_getI B (C := RX7) (T := TX7) (N := 2) iq_X0_sayRow_X7 ht0 kt0 (by decide) rfl 1 (by decide) (by decide) (by decide +kernel) rfl (by decide) (v := (q_2.1 t0 1)) rfl dX0_sayRow_7 ?_
      obtain ⟨a_6, ea_6, ha_6, ka_6, la_6⟩ := hV_q_2.refn (n := 200) (t := 300) ht0 kt0 0 rfl (by decide) (by rw [lt0]; rfl) (by decide)
      have g_5 : (0 : Int) ≤ (q_2.1 t0 1).toInt ∧ (q_2.1 t0 1).toInt ≤ (h.2.1 a_6 : Int) := by have z9 := hV_q_2.int ht0 kt0 1; rw [ea_6] at z9; exact z9
      refine wa_icmp_ge B 44 dX0_sayRow_10 (by decide) (fun (t_7 : (q_2.1 t0 1).toInt ≤ v_1.toInt) => ?_) (fun (t_7 : ¬ (q_2.1 t0 1).toInt ≤ v_1.toInt) => ?_)
      · refine wa_aload_n B dX0_sayRow_44 rfl 3 rfl ?_
        refine wa_bipush B 32 dX0_sayRow_45 (by decide) ?_
        refine wa_callVv B (x := (RX7, TX7, 2)) (As := [.int 32]) (rest := []) (k_X7_put l dC dI h L hN q_2 hV_q_2 (a0 := a1) ha1 ka1 32 (b0 := b0) p1_q_2  ) (cwV 1 B.1.2.2.2.2 gX0_sayRow_X7_put rfl rfl rfl (by decide +kernel) ⟨Nat.le_of_ble_eq_true rfl, Nat.le_of_ble_eq_true rfl⟩) ha1 ka1 (by decide) rfl rfl rfl (Nat.le_of_ble_eq_true rfl) dX0_sayRow_47 (fun q_8 w_9 => ?_)
        obtain ⟨hV_q_8, h2_q_8, hw_9⟩ := w_9
        have hF_q_8 : sx_fr h L (fun a => a = a1 ∧ h.1 a = 7 ∨ a = b0 ∧ h.1 a = 300) q q_8 := hF_q_2.tr (h2_q_8.mono (fun a (z : a = a1 ∧ h.1 a = 7 ∨ a = b0 ∧ h.1 a = 300) => (show a = a1 ∧ h.1 a = 7 ∨ a = b0 ∧ h.1 a = 300 from by omega)))
        refine wa_iload_n B dX0_sayRow_50 rfl 0 rfl ?_
        refine wa_iconst B 1 dX0_sayRow_51 (by decide) ?_
        refine wa_iadd B dX0_sayRow_52 (fun v_10 ev_10 => ?_)
        exact hret _ _ _ _ dX0_sayRow_53 ⟨hV_q_8, hF_q_8⟩
      · refine wa_aload_n B dX0_sayRow_13 rfl 1 rfl ?_
        refine wa_getR B (C := RX0) (T := TX0) (N := 4) iq_X0_sayRow_X0 ha0 ka0 (by decide) rfl 0 (by decide) (by decide) (by decide +kernel) rfl (fun _ _ _ => rfl) (v := t0) p0_q_2 dX0_sayRow_14 ?_
        refine wa_iload_n B dX0_sayRow_17 rfl 0 rfl ?_
        refine wa_callVi B (x := (RX7, TX7, 2)) (As := [.int v_1]) (rest := []) (k_X7_byteAt l dC dI h L hN q_2 hV_q_2 (a0 := t0) ht0 kt0 v_1  ) (cwV 1 B.1.2.2.2.2 gX0_sayRow_X7_byteAt rfl rfl rfl (by decide +kernel) ⟨Nat.le_of_ble_eq_true rfl, Nat.le_of_ble_eq_true rfl⟩) ht0 kt0 (by decide) rfl rfl rfl (Nat.le_of_ble_eq_true rfl) dX0_sayRow_18 (fun r_12 q_11 w_13 => ?_)
        obtain ⟨ew_13, hw_13⟩ := w_13
        subst ew_13
        refine wa_bipush B 47 dX0_sayRow_21 (by decide) ?_
        refine wa_icmp_eq B 44 dX0_sayRow_23 (by decide) (fun (t_14 : r_12.toInt = 47) => ?_) (fun (t_14 : ¬ r_12.toInt = 47) => ?_)
        · refine wa_aload_n B dX0_sayRow_44 rfl 3 rfl ?_
          refine wa_bipush B 32 dX0_sayRow_45 (by decide) ?_
          refine wa_callVv B (x := (RX7, TX7, 2)) (As := [.int 32]) (rest := []) (k_X7_put l dC dI h L hN q_2 hV_q_2 (a0 := a1) ha1 ka1 32 (b0 := b0) p1_q_2  ) (cwV 1 B.1.2.2.2.2 gX0_sayRow_X7_put rfl rfl rfl (by decide +kernel) ⟨Nat.le_of_ble_eq_true rfl, Nat.le_of_ble_eq_true rfl⟩) ha1 ka1 (by decide) rfl rfl rfl (Nat.le_of_ble_eq_true rfl) dX0_sayRow_47 (fun q_15 w_16 => ?_)
          obtain ⟨hV_q_15, h2_q_15, hw_16⟩ := w_16
          have hF_q_15 : sx_fr h L (fun a => a = a1 ∧ h.1 a = 7 ∨ a = b0 ∧ h.1 a = 300) q q_15 := hF_q_2.tr (h2_q_15.mono (fun a (z : a = a1 ∧ h.1 a = 7 ∨ a = b0 ∧ h.1 a = 300) => (show a = a1 ∧ h.1 a = 7 ∨ a = b0 ∧ h.1 a = 300 from by omega)))
          refine wa_iload_n B dX0_sayRow_50 rfl 0 rfl ?_
          refine wa_iconst B 1 dX0_sayRow_51 (by decide) ?_
          refine wa_iadd B dX0_sayRow_52 (fun v_17 ev_17 => ?_)
          exact hret _ _ _ _ dX0_sayRow_53 ⟨hV_q_15, hF_q_15⟩
        · refine wa_aload_n B dX0_sayRow_26 rfl 3 rfl ?_
          refine wa_aload_n B dX0_sayRow_27 rfl 1 rfl ?_
          refine wa_getR B (C := RX0) (T := TX0) (N := 4) iq_X0_sayRow_X0 ha0 ka0 (by decide) rfl 0 (by decide) (by decide) (by decide +kernel) rfl (fun _ _ _ => rfl) (v := t0) p0_q_2 dX0_sayRow_28 ?_
          refine wa_iload_n B dX0_sayRow_31 rfl 0 rfl ?_
          refine wa_callVi B (x := (RX7, TX7, 2)) (As := [.int v_1]) (rest := [.ref a1]) (k_X7_byteAt l dC dI h L hN q_2 hV_q_2 (a0 := t0) ht0 kt0 v_1  ) (cwV 1 B.1.2.2.2.2 gX0_sayRow_X7_byteAt rfl rfl rfl (by decide +kernel) ⟨Nat.le_of_ble_eq_true rfl, Nat.le_of_ble_eq_true rfl⟩) ht0 kt0 (by decide) rfl rfl rfl (Nat.le_of_ble_eq_true rfl) dX0_sayRow_32 (fun r_19 q_18 w_20 => ?_)
          obtain ⟨ew_20, hw_20⟩ := w_20
          subst ew_20
          refine wa_callVv B (x := (RX7, TX7, 2)) (As := [.int r_19]) (rest := []) (k_X7_put l dC dI h L hN q_2 hV_q_2 (a0 := a1) ha1 ka1 r_19 (b0 := b0) p1_q_2  ) (cwV 1 B.1.2.2.2.2 gX0_sayRow_X7_put rfl rfl rfl (by decide +kernel) ⟨Nat.le_of_ble_eq_true rfl, Nat.le_of_ble_eq_true rfl⟩) ha1 ka1 (by decide) rfl rfl rfl (Nat.le_of_ble_eq_true rfl) dX0_sayRow_35 (fun q_21 w_22 => ?_)
          obtain ⟨hV_q_21, h2_q_21, hw_22⟩ := w_22
          have hF_q_21 : sx_fr h L (fun a => a = a1 ∧ h.1 a = 7 ∨ a = b0 ∧ h.1 a = 300) q q_21 := hF_q_2.tr (h2_q_21.mono (fun a (z : a = a1 ∧ h.1 a = 7 ∨ a = b0 ∧ h.1 a = 300) => (show a = a1 ∧ h.1 a = 7 ∨ a = b0 ∧ h.1 a = 300 from by omega)))
          obtain ⟨v_23, ev_23⟩ : ∃ z : Int32, z = v_1 + 1 := ⟨_, rfl⟩
          refine wa_iinc B [(3, .int v_23), (0, .ref a0), (1, .int n1), (2, .ref a1)] v_23 dX0_sayRow_38 0 rfl (by rw [ev_23]; rfl) (by decide) rfl ?_
          refine wa_goto B 2 dX0_sayRow_41 (by decide) ?_
          have tv_23 : v_23.toInt = v_1.toInt + 1 := by have b0 := zx_bd v_1; rw [ev_23]; exact zx_add (show (-2147483648 : Int) ≤ v_1.toInt + 1 by omega) (show v_1.toInt + 1 < (2147483648 : Int) by omega)
          have z_24 : q_21.1 t0 1 = q_2.1 t0 1 := h2_q_21.I ht0 (show ¬ (t0 = a1 ∧ h.1 t0 = 7 ∨ t0 = b0 ∧ h.1 t0 = 300) from by omega) 1
          have y_25 : (q_21.1 t0 1).toInt = (q_2.1 t0 1).toInt := by rw [z_24]
          have z_26 : q_21.2.2.1 a0 0 = t0 := (h2_q_21.R ha0 (show ¬ ((a0 = a1 ∧ h.1 a0 = 7 ∨ a0 = b0 ∧ h.1 a0 = 300) ∧ (h.1 a0 = 8 ∨ h.1 a0 = 11)) from by omega) 0).trans (p0_q_2)
          have z_27 : q_21.2.2.1 a1 0 = b0 := (h2_q_21.R ha1 (show ¬ ((a1 = a1 ∧ h.1 a1 = 7 ∨ a1 = b0 ∧ h.1 a1 = 300) ∧ (h.1 a1 = 8 ∨ h.1 a1 = 11)) from by omega) 0).trans (p1_q_2)
          exact ih_4 v_23 q_21 hV_q_21 hF_q_21 z_26 z_27 (show ((q_21.1 t0 1).toInt - v_23.toInt : Int).toNat < _ from by omega)
  exact Lp_2_3 _ n1 q hV hF et0 eb0 (Nat.lt_succ_self _)
theorem iq_X0_sayWith_X0 : ∀ w ∈ wsX00, w ∈ wsX0_sayWith := fun _ h => List.mem_cons_of_mem _ (List.mem_append_left _ (List.mem_append_right _ h))
set_option maxHeartbeats 4000000 in
set_option maxRecDepth 100000 in
theorem k_X0_sayWith (l : Launch) (dC : Nat → ClassId) (dI : Nat → Nat → Nat) (h : Sh) (L : List Nat) (hN : sx_nd L) (q : Sg) (hV : sx_V h L q) {a0 : Nat} (ha0 : a0 ∈ L) (ka0 : h.1 a0 = 0) {a1 : Nat} (ha1 : a1 ∈ L) (ka1 : h.1 a1 = 0) {a2 : Nat} (ha2 : a2 ∈ L) (ka2 : h.1 a2 = 7) {t0 : Nat} (et0 : q.2.2.1 a0 0 = t0) {t1 : Nat} (et1 : q.2.2.1 a1 0 = t1) {b0 : Nat} (eb0 : q.2.2.1 a2 0 = b0) (nt0_a2 : ¬ t0 = a2) (nt1_a2 : ¬ t1 = a2)   : CMv l dC dI h L yX0_sayWith wsX0_sayWith ({ frames := 2, cells := 0, slots := 0, locals := 44 } : Room) q [.ref a0, .ref a1, .ref a2] (fun q' => sx_V h L q' ∧ sx_fr h L (fun a => a = a2 ∧ h.1 a = 7 ∨ a = b0 ∧ h.1 a = 300) q q') := by
  refine cm_v (cc := cX0_sayWith) (mL := 6) (own := RX0) hN (by decide) rfl rfl (Nat.le_of_ble_eq_true rfl) (fun Z B hret => ?_)
  have hF : sx_fr h L (fun a => a = a2 ∧ h.1 a = 7 ∨ a = b0 ∧ h.1 a = 300) q q := sx_fr.rf
  obtain ⟨ht0, kt0, lt0⟩ : t0 ∈ L ∧ h.1 t0 = 7 ∧ h.2.1 t0 = 4 := by obtain ⟨r9, e9, z1, z2, z3⟩ := hV.refn (t := 7) (n := 4) ha0 ka0 0 rfl (by decide) rfl (by decide); rw [← et0, e9]; exact ⟨z1, z2, z3⟩
  obtain ⟨ht1, kt1, lt1⟩ : t1 ∈ L ∧ h.1 t1 = 7 ∧ h.2.1 t1 = 4 := by obtain ⟨r9, e9, z1, z2, z3⟩ := hV.refn (t := 7) (n := 4) ha1 ka1 0 rfl (by decide) rfl (by decide); rw [← et1, e9]; exact ⟨z1, z2, z3⟩
  obtain ⟨hb0, kb0⟩ : b0 ∈ L ∧ h.1 b0 = 300 := by obtain ⟨r9, e9, z1, z2⟩ := hV.ref (t := 300) ha2 ka2 0 rfl (by decide); rw [← eb0, e9]; exact ⟨z1, z2⟩
  show WA l dC dI h L ({ frames := 2, cells := 0, slots := 0, locals := 44 } : Room) 6 Z q 0 [(0, .ref a0), (1, .ref a1), (2, .ref a2)] []
  refine wa_aload_n B dX0_sayWith_0 rfl 2 rfl ?_
  refine wa_callVv B (x := (RX7, TX7, 2)) (As := []) (rest := []) (k_X7_clear l dC dI h L hN q hV (a0 := a2) ha2 ka2  ) (cwV 0 B.1.2.2.2.2 gX0_sayWith_X7_clear rfl rfl rfl (by decide +kernel) ⟨Nat.le_of_ble_eq_true rfl, Nat.le_of_ble_eq_true rfl⟩) ha2 ka2 (by decide) rfl rfl rfl (Nat.le_of_ble_eq_true rfl) dX0_sayWith_1 (fun q_1 w_2 => ?_)
  obtain ⟨hV_q_1, h2_q_1, hw_2⟩ := w_2
  have hF_q_1 : sx_fr h L (fun a => a = a2 ∧ h.1 a = 7 ∨ a = b0 ∧ h.1 a = 300) q q_1 := hF.tr (h2_q_1.mono (fun a (z : a = a2 ∧ h.1 a = 7) => (show a = a2 ∧ h.1 a = 7 ∨ a = b0 ∧ h.1 a = 300 from by omega)))
  refine wa_iconst B 0 dX0_sayWith_4 (by decide) ?_
  refine wa_istore_n B [(3, .int 0), (0, .ref a0), (1, .ref a1), (2, .ref a2)] dX0_sayWith_5 rfl (by decide) rfl ?_
  refine wa_iconst B 0 dX0_sayWith_6 (by decide) ?_
  refine wa_istore B [(4, .int 0), (3, .int 0), (0, .ref a0), (1, .ref a1), (2, .ref a2)] dX0_sayWith_7 (by decide) rfl ?_
  refine wa_iconst B 0 dX0_sayWith_9 (by decide) ?_
  refine wa_istore B [(5, .int 0), (4, .int 0), (3, .int 0), (0, .ref a0), (1, .ref a1), (2, .ref a2)] dX0_sayWith_10 (by decide) rfl ?_
  have z_7 : q_1.2.2.1 a0 0 = t0 := (h2_q_1.R ha0 (show ¬ ((a0 = a2 ∧ h.1 a0 = 7) ∧ (h.1 a0 = 8 ∨ h.1 a0 = 11)) from by omega) 0).trans (et0)
  have z_8 : q_1.2.2.1 a1 0 = t1 := (h2_q_1.R ha1 (show ¬ ((a1 = a2 ∧ h.1 a1 = 7) ∧ (h.1 a1 = 8 ∨ h.1 a1 = 11)) from by omega) 0).trans (et1)
  have z_9 : q_1.2.2.1 a2 0 = b0 := (h2_q_1.R ha2 (show ¬ ((a2 = a2 ∧ h.1 a2 = 7) ∧ (h.1 a2 = 8 ∨ h.1 a2 = 11)) from by omega) 0).trans (eb0)
  have Lp_12_10 : ∀ (n : Nat) (v_3 : Int32) (v_4 : Int32) (v_5 : Int32) (q_6 : Sg), sx_V h L q_6 → sx_fr h L (fun a => a = a2 ∧ h.1 a = 7 ∨ a = b0 ∧ h.1 a = 300) q q_6 → q_6.2.2.1 a0 0 = t0 → q_6.2.2.1 a1 0 = t1 → q_6.2.2.1 a2 0 = b0 → ((q_6.1 a0 3).toInt - v_3.toInt : Int).toNat < n → WA l dC dI h L ({ frames := 2, cells := 0, slots := 0, locals := 44 } : Room) 6 Z q_6 12 [(5, .int v_3), (4, .int v_4), (3, .int v_5), (0, .ref a0), (1, .ref a1), (2, .ref a2)] [] := by
    intro n
    induction n with
    | zero =>
      intro v_3 v_4 v_5 q_6 hV_q_6 hF_q_6 p0_q_6 p1_q_6 p2_q_6 hn
      exact absurd hn (Nat.not_lt_zero _)
    | succ n ih_11 =>
      intro v_3 v_4 v_5 q_6 hV_q_6 hF_q_6 p0_q_6 p1_q_6 p2_q_6 hn
      refine wa_iload B dX0_sayWith_12 0 rfl ?_
      refine wa_aload_n B dX0_sayWith_14 rfl 3 rfl ?_
      refine wa_getI B (C := RX0) (T := TX0) (N := 4) iq_X0_sayWith_X0 ha0 ka0 (by decide) rfl 3 (by decide) (by decide) (by decide +kernel) rfl (by decide) (v := (q_6.1 a0 3)) rfl dX0_sayWith_15 ?_
      have b9 := zx_bd (q_6.1 a0 3)
      refine wa_icmp_ge B 43 dX0_sayWith_18 (by decide) (fun (t_12 : (q_6.1 a0 3).toInt ≤ v_3.toInt) => ?_) (fun (t_12 : ¬ (q_6.1 a0 3).toInt ≤ v_3.toInt) => ?_)
      · exact hret _ _ _ dX0_sayWith_43 ⟨hV_q_6, hF_q_6⟩
      · refine wa_aload_n B dX0_sayWith_21 rfl 3 rfl ?_
        refine wa_iload_n B dX0_sayWith_22 rfl 2 rfl ?_
        refine wa_aload_n B dX0_sayWith_23 rfl 5 rfl ?_
        refine wa_callVi B (x := (RX0, TX0, 4)) (As := [.int v_5, .ref a2]) (rest := []) (k_X0_sayRow l dC dI h L hN q_6 hV_q_6 (a0 := a0) ha0 ka0 v_5 (a1 := a2) ha2 ka2 (t0 := t0) p0_q_6 (b0 := b0) p2_q_6 (by omega)  ) (cwV 2 B.1.2.2.2.2 gX0_sayWith_X0_sayRow rfl rfl rfl (by decide +kernel) ⟨Nat.le_of_ble_eq_true rfl, Nat.le_of_ble_eq_true rfl⟩) ha0 ka0 (by decide) rfl rfl rfl (Nat.le_of_ble_eq_true rfl) dX0_sayWith_24 (fun r_14 q_13 w_15 => ?_)
        obtain ⟨hV_q_13, h2_q_13⟩ := w_15
        have hF_q_13 : sx_fr h L (fun a => a = a2 ∧ h.1 a = 7 ∨ a = b0 ∧ h.1 a = 300) q q_13 := hF_q_6.tr (h2_q_13.mono (fun a (z : a = a2 ∧ h.1 a = 7 ∨ a = b0 ∧ h.1 a = 300) => (show a = a2 ∧ h.1 a = 7 ∨ a = b0 ∧ h.1 a = 300 from by omega)))
        refine wa_istore_n B [(3, .int r_14), (5, .int v_3), (4, .int v_4), (0, .ref a0), (1, .ref a1), (2, .ref a2)] dX0_sayWith_27 rfl (by decide) rfl ?_
        refine wa_aload_n B dX0_sayWith_28 rfl 4 rfl ?_
        refine wa_iload B dX0_sayWith_29 2 rfl ?_
        refine wa_aload_n B dX0_sayWith_31 rfl 5 rfl ?_
        have z_16 : q_13.2.2.1 a1 0 = t1 := (h2_q_13.R ha1 (show ¬ ((a1 = a2 ∧ h.1 a1 = 7 ∨ a1 = b0 ∧ h.1 a1 = 300) ∧ (h.1 a1 = 8 ∨ h.1 a1 = 11)) from by omega) 0).trans (p1_q_6)
        have z_17 : q_13.2.2.1 a2 0 = b0 := (h2_q_13.R ha2 (show ¬ ((a2 = a2 ∧ h.1 a2 = 7 ∨ a2 = b0 ∧ h.1 a2 = 300) ∧ (h.1 a2 = 8 ∨ h.1 a2 = 11)) from by omega) 0).trans (p2_q_6)
        refine wa_callVi B (x := (RX0, TX0, 4)) (As := [.int v_4, .ref a2]) (rest := []) (k_X0_sayRow l dC dI h L hN q_13 hV_q_13 (a0 := a1) ha1 ka1 v_4 (a1 := a2) ha2 ka2 (t0 := t1) z_16 (b0 := b0) z_17 (by omega)  ) (cwV 2 B.1.2.2.2.2 gX0_sayWith_X0_sayRow rfl rfl rfl (by decide +kernel) ⟨Nat.le_of_ble_eq_true rfl, Nat.le_of_ble_eq_true rfl⟩) ha1 ka1 (by decide) rfl rfl rfl (Nat.le_of_ble_eq_true rfl) dX0_sayWith_32 (fun r_19 q_18 w_20 => ?_)
        obtain ⟨hV_q_18, h2_q_18⟩ := w_20
        have hF_q_18 : sx_fr h L (fun a => a = a2 ∧ h.1 a = 7 ∨ a = b0 ∧ h.1 a = 300) q q_18 := hF_q_13.tr (h2_q_18.mono (fun a (z : a = a2 ∧ h.1 a = 7 ∨ a = b0 ∧ h.1 a = 300) => (show a = a2 ∧ h.1 a = 7 ∨ a = b0 ∧ h.1 a = 300 from by omega)))
        refine wa_istore B [(4, .int r_19), (3, .int r_14), (5, .int v_3), (0, .ref a0), (1, .ref a1), (2, .ref a2)] dX0_sayWith_35 (by decide) rfl ?_
        obtain ⟨v_21, ev_21⟩ : ∃ z : Int32, z = v_3 + 1 := ⟨_, rfl⟩
        refine wa_iinc B [(5, .int v_21), (4, .int r_19), (3, .int r_14), (0, .ref a0), (1, .ref a1), (2, .ref a2)] v_21 dX0_sayWith_37 2 rfl (by rw [ev_21]; rfl) (by decide) rfl ?_
        refine wa_goto B 12 dX0_sayWith_40 (by decide) ?_
        have tv_21 : v_21.toInt = v_3.toInt + 1 := by have b0 := zx_bd v_3; rw [ev_21]; exact zx_add (show (-2147483648 : Int) ≤ v_3.toInt + 1 by omega) (show v_3.toInt + 1 < (2147483648 : Int) by omega)
        have z_22 : q_18.1 a0 3 = q_6.1 a0 3 := (h2_q_18.I ha0 (show ¬ (a0 = a2 ∧ h.1 a0 = 7 ∨ a0 = b0 ∧ h.1 a0 = 300) from by omega) 3).trans (h2_q_13.I ha0 (show ¬ (a0 = a2 ∧ h.1 a0 = 7 ∨ a0 = b0 ∧ h.1 a0 = 300) from by omega) 3)
        have y_23 : (q_18.1 a0 3).toInt = (q_6.1 a0 3).toInt := by rw [z_22]
        have z_24 : q_18.2.2.1 a0 0 = t0 := (h2_q_18.R ha0 (show ¬ ((a0 = a2 ∧ h.1 a0 = 7 ∨ a0 = b0 ∧ h.1 a0 = 300) ∧ (h.1 a0 = 8 ∨ h.1 a0 = 11)) from by omega) 0).trans ((h2_q_13.R ha0 (show ¬ ((a0 = a2 ∧ h.1 a0 = 7 ∨ a0 = b0 ∧ h.1 a0 = 300) ∧ (h.1 a0 = 8 ∨ h.1 a0 = 11)) from by omega) 0).trans (p0_q_6))
        have z_25 : q_18.2.2.1 a1 0 = t1 := (h2_q_18.R ha1 (show ¬ ((a1 = a2 ∧ h.1 a1 = 7 ∨ a1 = b0 ∧ h.1 a1 = 300) ∧ (h.1 a1 = 8 ∨ h.1 a1 = 11)) from by omega) 0).trans (z_16)
        have z_26 : q_18.2.2.1 a2 0 = b0 := (h2_q_18.R ha2 (show ¬ ((a2 = a2 ∧ h.1 a2 = 7 ∨ a2 = b0 ∧ h.1 a2 = 300) ∧ (h.1 a2 = 8 ∨ h.1 a2 = 11)) from by omega) 0).trans (z_17)
        exact ih_11 v_21 r_19 r_14 q_18 hV_q_18 hF_q_18 z_24 z_25 z_26 (show ((q_18.1 a0 3).toInt - v_21.toInt : Int).toNat < _ from by omega)
  exact Lp_12_10 _ 0 0 0 q_1 hV_q_1 hF_q_1 z_7 z_8 z_9 (Nat.lt_succ_self _)
