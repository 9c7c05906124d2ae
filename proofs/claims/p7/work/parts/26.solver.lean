theorem iq_X4_isWorthwhile_X4 : ∀ w ∈ wsX40, w ∈ wsX4_isWorthwhile := fun _ h => List.mem_cons_of_mem _ (List.mem_append_left _ (List.mem_append_right _ h))
theorem iq_X4_isWorthwhile_X5 : ∀ w ∈ wsX50, w ∈ wsX4_isWorthwhile := fun _ h => List.mem_cons_of_mem _ (List.mem_append_right _ h)
set_option maxHeartbeats 4000000 in
set_option maxRecDepth 100000 in
theorem k_X4_isWorthwhile (l : Launch) (dC : Nat → ClassId) (dI : Nat → Nat → Nat) (h : Sh) (L : List Nat) (hN : sx_nd L) (q : Sg) (hV : sx_V h L q) {a0 : Nat} (ha0 : a0 ∈ L) (ka0 : h.1 a0 = 4) {a1 : Nat} (ha1 : a1 ∈ L) (ka1 : h.1 a1 = 5) (n1 : Int32)   : CMi l dC dI h L yX4_isWorthwhile wsX4_isWorthwhile ({ frames := 0, cells := 0, slots := 0, locals := 0 } : Room) q [.ref a0, .ref a1, .int n1] (fun r q' => q = q' ∧ (r.toInt = 0 ∨ r.toInt = 1)) := by
  refine cm_z (cc := cX4_isWorthwhile) (mL := 3) (own := RX4) hN (by decide) rfl rfl (Nat.le_of_ble_eq_true rfl) (fun Z B hret => ?_)
  show WA l dC dI h L ({ frames := 0, cells := 0, slots := 0, locals := 0 } : Room) 3 Z q 0 [(0, .ref a0), (1, .ref a1), (2, .int n1)] []
  refine wa_aload_n B dX4_isWorthwhile_0 rfl 0 rfl ?_
  refine wa_getI B (C := RX4) (T := TX4) (N := 7) iq_X4_isWorthwhile_X4 ha0 ka0 (by decide) rfl 6 (by decide) (by decide) (by decide +kernel) rfl (by decide) (v := (q.1 a0 6)) rfl dX4_isWorthwhile_1 ?_
  refine wa_if_eq B 24 dX4_isWorthwhile_4 (by decide) (fun (t_1 : (q.1 a0 6).toInt = 0) => ?_) (fun (t_1 : ¬ (q.1 a0 6).toInt = 0) => ?_)
  · refine wa_iload_n B dX4_isWorthwhile_24 rfl 2 rfl ?_
    refine wa_if_eq B 36 dX4_isWorthwhile_25 (by decide) (fun (t_2 : n1.toInt = 0) => ?_) (fun (t_2 : ¬ n1.toInt = 0) => ?_)
    · refine wa_iconst B 1 dX4_isWorthwhile_36 (by decide) ?_
      refine wa_goto B 41 dX4_isWorthwhile_37 (by decide) ?_
      exact hret _ _ _ _ dX4_isWorthwhile_41 (Or.inr rfl) ⟨rfl, (by have h9 : (1 : Int32).toInt = 1 := rfl; first | omega | (refine ⟨?_, ?_⟩ <;> omega) | trivial)⟩
    · refine wa_iload_n B dX4_isWorthwhile_28 rfl 2 rfl ?_
      refine wa_aload_n B dX4_isWorthwhile_29 rfl 1 rfl ?_
      refine wa_getI B (C := RX5) (T := TX5) (N := 7) iq_X4_isWorthwhile_X5 ha1 ka1 (by decide) rfl 6 (by decide) (by decide) (by decide +kernel) rfl (by decide) (v := (q.1 a1 6)) rfl dX4_isWorthwhile_30 ?_
      refine wa_icmp_ge B 40 dX4_isWorthwhile_33 (by decide) (fun (t_3 : (q.1 a1 6).toInt ≤ n1.toInt) => ?_) (fun (t_3 : ¬ (q.1 a1 6).toInt ≤ n1.toInt) => ?_)
      · refine wa_iconst B 0 dX4_isWorthwhile_40 (by decide) ?_
        exact hret _ _ _ _ dX4_isWorthwhile_41 (Or.inl rfl) ⟨rfl, (by have h9 : (0 : Int32).toInt = 0 := rfl; first | omega | (refine ⟨?_, ?_⟩ <;> omega) | trivial)⟩
      · refine wa_iconst B 1 dX4_isWorthwhile_36 (by decide) ?_
        refine wa_goto B 41 dX4_isWorthwhile_37 (by decide) ?_
        exact hret _ _ _ _ dX4_isWorthwhile_41 (Or.inr rfl) ⟨rfl, (by have h9 : (1 : Int32).toInt = 1 := rfl; first | omega | (refine ⟨?_, ?_⟩ <;> omega) | trivial)⟩
  · refine wa_iload_n B dX4_isWorthwhile_7 rfl 2 rfl ?_
    refine wa_if_ne B 22 dX4_isWorthwhile_8 (by decide) (fun (t_4 : ¬ n1.toInt = 0) => ?_) (fun (t_4 : n1.toInt = 0) => ?_)
    · refine wa_iconst B 0 dX4_isWorthwhile_22 (by decide) ?_
      exact hret _ _ _ _ dX4_isWorthwhile_23 (Or.inl rfl) ⟨rfl, (by have h9 : (0 : Int32).toInt = 0 := rfl; first | omega | (refine ⟨?_, ?_⟩ <;> omega) | trivial)⟩
    · refine wa_aload_n B dX4_isWorthwhile_11 rfl 1 rfl ?_
      refine wa_getI B (C := RX5) (T := TX5) (N := 7) iq_X4_isWorthwhile_X5 ha1 ka1 (by decide) rfl 5 (by decide) (by decide) (by decide +kernel) rfl (by decide) (v := (q.1 a1 5)) rfl dX4_isWorthwhile_12 ?_
      refine wa_if_ne B 22 dX4_isWorthwhile_15 (by decide) (fun (t_5 : ¬ (q.1 a1 5).toInt = 0) => ?_) (fun (t_5 : (q.1 a1 5).toInt = 0) => ?_)
      · refine wa_iconst B 0 dX4_isWorthwhile_22 (by decide) ?_
        exact hret _ _ _ _ dX4_isWorthwhile_23 (Or.inl rfl) ⟨rfl, (by have h9 : (0 : Int32).toInt = 0 := rfl; first | omega | (refine ⟨?_, ?_⟩ <;> omega) | trivial)⟩
      · refine wa_iconst B 1 dX4_isWorthwhile_18 (by decide) ?_
        refine wa_goto B 23 dX4_isWorthwhile_19 (by decide) ?_
        exact hret _ _ _ _ dX4_isWorthwhile_23 (Or.inr rfl) ⟨rfl, (by have h9 : (1 : Int32).toInt = 1 := rfl; first | omega | (refine ⟨?_, ?_⟩ <;> omega) | trivial)⟩
theorem iq_X4_addPart_X1 : ∀ w ∈ wsX10, w ∈ wsX4_addPart := fun _ h => List.mem_cons_of_mem _ (List.mem_append_right _ h)
theorem iq_X4_addPart_X2 : ∀ w ∈ wsX20, w ∈ wsX4_addPart := fun _ h => List.mem_cons_of_mem _ (List.mem_append_left _ (List.mem_append_right _ h))
theorem iq_X4_addPart_X4 : ∀ w ∈ wsX40, w ∈ wsX4_addPart := fun _ h => List.mem_cons_of_mem _ (List.mem_append_left _ (List.mem_append_left _ (List.mem_append_left _ (List.mem_append_right _ h))))
theorem iq_X4_addPart_X5 : ∀ w ∈ wsX50, w ∈ wsX4_addPart := fun _ h => List.mem_cons_of_mem _ (List.mem_append_left _ (List.mem_append_left _ (List.mem_append_right _ h)))
set_option maxHeartbeats 4000000 in
set_option maxRecDepth 100000 in
theorem k_X4_addPart (l : Launch) (dC : Nat → ClassId) (dI : Nat → Nat → Nat) (h : Sh) (L : List Nat) (hN : sx_nd L) (q : Sg) (hV : sx_V h L q) {a0 : Nat} (ha0 : a0 ∈ L) (ka0 : h.1 a0 = 4) {a1 : Nat} (ha1 : a1 ∈ L) (ka1 : h.1 a1 = 5) (n1 : Int32) (n2 : Int32) (n3 : Int32)  (hy0 : 0 ≤ n1.toInt) (hy1 : n1.toInt ≤ 11) (hy2 : 0 ≤ n2.toInt) (hy3 : n2.toInt ≤ 11) : CMv l dC dI h L yX4_addPart wsX4_addPart ({ frames := 0, cells := 0, slots := 0, locals := 0 } : Room) q [.ref a0, .ref a1, .int n1, .int n2, .int n3] (fun q' => sx_V h L q' ∧ sx_fr h L (fun a => False) q q') := by
  refine cm_v (cc := cX4_addPart) (mL := 6) (own := RX4) hN (by decide) rfl rfl (Nat.le_of_ble_eq_true rfl) (fun Z B hret => ?_)
  have hF : sx_fr h L (fun a => False) q q := sx_fr.rf
  show WA l dC dI h L ({ frames := 0, cells := 0, slots := 0, locals := 0 } : Room) 6 Z q 0 [(0, .ref a0), (1, .ref a1), (2, .int n1), (3, .int n2), (4, .int n3)] []
  refine wa_aload_n B dX4_addPart_0 rfl 0 rfl ?_
  obtain ⟨a_1, ea_1, ha_1, ka_1, la_1⟩ := hV.refn (n := 5) (t := 404) ha0 ka0 1 rfl (by decide) rfl (by decide)
  refine wa_getR B (C := RX4) (T := TX4) (N := 7) iq_X4_addPart_X4 ha0 ka0 (by decide) rfl 1 (by decide) (by decide) (by decide +kernel) rfl (fun _ _ _ => rfl) (v := a_1) ea_1 dX4_addPart_1 ?_
  refine wa_iconst B 0 dX4_addPart_4 (by decide) ?_
  obtain ⟨a_2, ea_2, ha_2, ka_2, la_2⟩ := hV.row ha_1 ka_1 (zx_ix (i := 0) (show (0 : Int) ≤ _ by decide) (show (0 : Int) < (h.2.1 a_1 : Int) by omega))
  refine wa_aaloadA B (t0 := 7) ha_1 ka_1 (by decide) rfl (show (0 : Int) ≤ _ by decide) (show (0 : Int) < (h.2.1 a_1 : Int) by omega) (v := a_2) ea_2 dX4_addPart_5 ?_
  refine wa_iload_n B dX4_addPart_6 rfl 3 rfl ?_
  refine wa_dup2 B dX4_addPart_7 rfl rfl ?_
  refine wa_laload B ha_2 ka_2 (by decide) (by decide) (show 0 ≤ n2.toInt by omega) (show n2.toInt < (h.2.1 a_2 : Int) by omega) (v := (q.2.2.2.2 a_2 (n2 : Int32).toNatClampNeg)) rfl dX4_addPart_8 ?_
  refine wa_iload B dX4_addPart_9 4 rfl ?_
  refine wa_i2l B dX4_addPart_11 (fun v_3 ev_3 => ?_)
  refine wa_aload_n B dX4_addPart_12 rfl 1 rfl ?_
  obtain ⟨a_4, ea_4, ha_4, ka_4, la_4⟩ := hV.refn (n := 12) (t := 401) ha1 ka1 0 rfl (by decide) rfl (by decide)
  refine wa_getR B (C := RX5) (T := TX5) (N := 7) iq_X4_addPart_X5 ha1 ka1 (by decide) rfl 0 (by decide) (by decide) (by decide +kernel) rfl (fun _ _ _ => rfl) (v := a_4) ea_4 dX4_addPart_13 ?_
  refine wa_iload_n B dX4_addPart_16 rfl 2 rfl ?_
  obtain ⟨a_5, ea_5, ha_5, ka_5⟩ := hV.elem (t := 2) ha_4 ka_4 (by decide) rfl (zx_ix (i := n1) (show 0 ≤ n1.toInt by omega) (show n1.toInt < (h.2.1 a_4 : Int) by omega))
  refine wa_aaload B (t0 := 4) ha_4 ka_4 (by decide) rfl (show 0 ≤ n1.toInt by omega) (show n1.toInt < (h.2.1 a_4 : Int) by omega) (v := a_5) ea_5 dX4_addPart_17 ?_
  refine wa_getI B (C := RX2) (T := TX2) (N := 6) iq_X4_addPart_X2 ha_5 ka_5 (by decide) rfl 3 (by decide) (by decide) (by decide +kernel) rfl (by decide) (v := (q.1 a_5 3)) rfl dX4_addPart_18 ?_
  refine wa_i2l B dX4_addPart_21 (fun v_6 ev_6 => ?_)
  refine wa_lmul B dX4_addPart_22 (fun v_7 ev_7 => ?_)
  refine wa_ladd B dX4_addPart_23 (fun v_8 ev_8 => ?_)
  refine wa_lastore B ha_2 ka_2 (by decide) (by decide) (show 0 ≤ n2.toInt by omega) (show n2.toInt < (h.2.1 a_2 : Int) by omega) dX4_addPart_24 (fun q_9 eq_9 => ?_)
  have hV_q_9 : sx_V h L q_9 := by rw [eq_9]; exact hV.pL
  have hF_q_9 : sx_fr h L (fun a => False) q q_9 := hF.tr (by rw [eq_9]; exact sx_fr.pL (show h.1 a_2 = 200 ∨ (False) from by omega))
  have z_10 : q_9.2.2.2.2 a_2 (n2 : Int32).toNatClampNeg = v_8 := by rw [eq_9, sg_pL_e]; exact if_pos rfl
  refine wa_iconst B 0 dX4_addPart_25 (by decide) ?_
  refine wa_istore B [(5, .int 0), (0, .ref a0), (1, .ref a1), (2, .int n1), (3, .int n2), (4, .int n3)] dX4_addPart_26 (by decide) rfl ?_
  have z_13 : q_9.1 a_5 3 = q.1 a_5 3 := (show q_9.1 a_5 3 = q.1 a_5 3 from by rw [eq_9]; rfl)
  have z_14 : q_9.2.2.1 a0 1 = a_1 := ((show q_9.2.2.1 a0 1 = q.2.2.1 a0 1 from by rw [eq_9]; rfl)).trans (ea_1)
  have z_15 : q_9.2.2.1 a1 0 = a_4 := ((show q_9.2.2.1 a1 0 = q.2.2.1 a1 0 from by rw [eq_9]; rfl)).trans (ea_4)
  have Lp_28_17 : ∀ (n : Nat) (v_11 : Int32) (q_12 : Sg), sx_V h L q_12 → sx_fr h L (fun a => False) q q_12 → q_12.1 a_5 3 = (q.1 a_5 3) → q_12.2.2.1 a0 1 = a_1 → q_12.2.2.1 a1 0 = a_4 → 0 ≤ v_11.toInt → ((q_12.1 a1 3).toInt - v_11.toInt : Int).toNat < n → WA l dC dI h L ({ frames := 0, cells := 0, slots := 0, locals := 0 } : Room) 6 Z q_12 28 [(5, .int v_11), (0, .ref a0), (1, .ref a1), (2, .int n1), (3, .int n2), (4, .int n3)] [] := by
    intro n
    induction n with
    | zero =>
      intro v_11 q_12 hV_q_12 hF_q_12 p0_q_12 p1_q_12 p2_q_12 x_16 hn
      exact absurd hn (Nat.not_lt_zero _)
    | succ n ih_18 =>
      intro v_11 q_12 hV_q_12 hF_q_12 p0_q_12 p1_q_12 p2_q_12 x_16 hn
      refine wa_iload B dX4_addPart_28 0 rfl ?_
      refine wa_aload_n B dX4_addPart_30 rfl 2 rfl ?_
      refine wa_getI B (C := RX5) (T := TX5) (N := 7) iq_X4_addPart_X5 ha1 ka1 (by decide) rfl 3 (by decide) (by decide) (by decide +kernel) rfl (by decide) (v := (q_12.1 a1 3)) rfl dX4_addPart_31 ?_
      have g_19 : (0 : Int) ≤ (q_12.1 a1 3).toInt ∧ (q_12.1 a1 3).toInt ≤ 4 := hV_q_12.int ha1 ka1 3
      refine wa_icmp_ge B 81 dX4_addPart_34 (by decide) (fun (t_20 : (q_12.1 a1 3).toInt ≤ v_11.toInt) => ?_) (fun (t_20 : ¬ (q_12.1 a1 3).toInt ≤ v_11.toInt) => ?_)
      · exact hret _ _ _ dX4_addPart_81 ⟨hV_q_12, hF_q_12⟩
      · refine wa_aload_n B dX4_addPart_37 rfl 2 rfl ?_
        obtain ⟨a_21, ea_21, ha_21, ka_21, la_21⟩ := hV_q_12.refn (n := 4) (t := 402) ha1 ka1 1 rfl (by decide) rfl (by decide)
        refine wa_getR B (C := RX5) (T := TX5) (N := 7) iq_X4_addPart_X5 ha1 ka1 (by decide) rfl 1 (by decide) (by decide) (by decide +kernel) rfl (fun _ _ _ => rfl) (v := a_21) ea_21 dX4_addPart_38 ?_
        refine wa_iload B dX4_addPart_41 0 rfl ?_
        obtain ⟨a_22, ea_22, ha_22, ka_22⟩ := hV_q_12.elem (t := 1) ha_21 ka_21 (by decide) rfl (zx_ix (i := v_11) (show 0 ≤ v_11.toInt by omega) (show v_11.toInt < (h.2.1 a_21 : Int) by omega))
        refine wa_aaload B (t0 := 5) ha_21 ka_21 (by decide) rfl (show 0 ≤ v_11.toInt by omega) (show v_11.toInt < (h.2.1 a_21 : Int) by omega) (v := a_22) ea_22 dX4_addPart_43 ?_
        refine wa_getI B (C := RX1) (T := TX1) (N := 7) iq_X4_addPart_X1 ha_22 ka_22 (by decide) rfl 0 (by decide) (by decide) (by decide +kernel) rfl (by decide) (v := (q_12.1 a_22 0)) rfl dX4_addPart_44 ?_
        have g_23 : (0 : Int) ≤ (q_12.1 a_22 0).toInt ∧ (q_12.1 a_22 0).toInt ≤ 11 := hV_q_12.int ha_22 ka_22 0
        refine wa_iload_n B dX4_addPart_47 rfl 3 rfl ?_
        have Jn_75_25 : ∀  (q_24 : Sg), sx_V h L q_24 → sx_fr h L (fun a => False) q q_24 → q_24.1 a_5 3 = (q.1 a_5 3) → q_24.1 a1 3 = (q_12.1 a1 3) → q_24.1 a_22 0 = (q_12.1 a_22 0) → q_24.2.2.1 a0 1 = a_1 → q_24.2.2.1 a1 0 = a_4 → q_24.2.2.1 a1 1 = a_21 → WA l dC dI h L ({ frames := 0, cells := 0, slots := 0, locals := 0 } : Room) 6 Z q_24 75 [(5, .int v_11), (0, .ref a0), (1, .ref a1), (2, .int n1), (3, .int n2), (4, .int n3)] [] := by
          intro q_24 hV_q_24 hF_q_24 p0_q_24 p1_q_24 p2_q_24 p3_q_24 p4_q_24 p5_q_24
          obtain ⟨v_26, ev_26⟩ : ∃ z : Int32, z = v_11 + 1 := ⟨_, rfl⟩
          refine wa_iinc B [(5, .int v_26), (0, .ref a0), (1, .ref a1), (2, .int n1), (3, .int n2), (4, .int n3)] v_26 dX4_addPart_75 0 rfl (by rw [ev_26]; rfl) (by decide) rfl ?_
          refine wa_goto B 28 dX4_addPart_78 (by decide) ?_
          have tv_26 : v_26.toInt = v_11.toInt + 1 := by have b0 := zx_bd v_11; rw [ev_26]; exact zx_add (show (-2147483648 : Int) ≤ v_11.toInt + 1 by omega) (show v_11.toInt + 1 < (2147483648 : Int) by omega)
          have y_27 : (q_24.1 a1 3).toInt = (q_12.1 a1 3).toInt := by rw [p1_q_24]
          exact ih_18 v_26 q_24 hV_q_24 hF_q_24 p0_q_24 p3_q_24 p4_q_24 (show 0 ≤ v_26.toInt from by first | assumption | omega | decide) (show ((q_24.1 a1 3).toInt - v_26.toInt : Int).toNat < _ from by omega)
        refine wa_icmp_ne B 75 dX4_addPart_48 (by decide) (fun (t_28 : ¬ (q_12.1 a_22 0).toInt = n1.toInt) => ?_) (fun (t_28 : (q_12.1 a_22 0).toInt = n1.toInt) => ?_)
        · exact Jn_75_25 q_12 hV_q_12 hF_q_12 p0_q_12 rfl rfl p1_q_12 p2_q_12 ea_21
        · refine wa_aload_n B dX4_addPart_51 rfl 1 rfl ?_
          obtain ⟨a_29, ea_29, ha_29, ka_29, la_29⟩ := hV_q_12.refn (n := 4) (t := 404) ha0 ka0 2 rfl (by decide) rfl (by decide)
          refine wa_getR B (C := RX4) (T := TX4) (N := 7) iq_X4_addPart_X4 ha0 ka0 (by decide) rfl 2 (by decide) (by decide) (by decide +kernel) rfl (fun _ _ _ => rfl) (v := a_29) ea_29 dX4_addPart_52 ?_
          refine wa_iload B dX4_addPart_55 0 rfl ?_
          obtain ⟨a_30, ea_30, ha_30, ka_30, la_30⟩ := hV_q_12.row ha_29 ka_29 (zx_ix (i := v_11) (show 0 ≤ v_11.toInt by omega) (show v_11.toInt < (h.2.1 a_29 : Int) by omega))
          refine wa_aaloadA B (t0 := 7) ha_29 ka_29 (by decide) rfl (show 0 ≤ v_11.toInt by omega) (show v_11.toInt < (h.2.1 a_29 : Int) by omega) (v := a_30) ea_30 dX4_addPart_57 ?_
          refine wa_iload_n B dX4_addPart_58 rfl 4 rfl ?_
          refine wa_iload B dX4_addPart_59 5 rfl ?_
          refine wa_i2l B dX4_addPart_61 (fun v_31 ev_31 => ?_)
          refine wa_aload_n B dX4_addPart_62 rfl 2 rfl ?_
          refine wa_getR B (C := RX5) (T := TX5) (N := 7) iq_X4_addPart_X5 ha1 ka1 (by decide) rfl 1 (by decide) (by decide) (by decide +kernel) rfl (fun _ _ _ => rfl) (v := a_21) ea_21 dX4_addPart_63 ?_
          refine wa_iload B dX4_addPart_66 0 rfl ?_
          refine wa_aaload B (t0 := 5) ha_21 ka_21 (by decide) rfl (show 0 ≤ v_11.toInt by omega) (show v_11.toInt < (h.2.1 a_21 : Int) by omega) (v := a_22) ea_22 dX4_addPart_68 ?_
          refine wa_getI B (C := RX1) (T := TX1) (N := 7) iq_X4_addPart_X1 ha_22 ka_22 (by decide) rfl 2 (by decide) (by decide) (by decide +kernel) rfl (by decide) (v := (q_12.1 a_22 2)) rfl dX4_addPart_69 ?_
          refine wa_i2l B dX4_addPart_72 (fun v_32 ev_32 => ?_)
          refine wa_lmul B dX4_addPart_73 (fun v_33 ev_33 => ?_)
          refine wa_lastore B ha_30 ka_30 (by decide) (by decide) (show 0 ≤ n2.toInt by omega) (show n2.toInt < (h.2.1 a_30 : Int) by omega) dX4_addPart_74 (fun q_34 eq_34 => ?_)
          have hV_q_34 : sx_V h L q_34 := by rw [eq_34]; exact hV_q_12.pL
          have hF_q_34 : sx_fr h L (fun a => False) q q_34 := hF_q_12.tr (by rw [eq_34]; exact sx_fr.pL (show h.1 a_30 = 200 ∨ (False) from by omega))
          have z_35 : q_34.2.2.2.2 a_30 (n2 : Int32).toNatClampNeg = v_33 := by rw [eq_34, sg_pL_e]; exact if_pos rfl
          have z_36 : q_34.1 a_5 3 = (q.1 a_5 3) := ((show q_34.1 a_5 3 = q_12.1 a_5 3 from by rw [eq_34]; rfl)).trans (p0_q_12)
          have z_37 : q_34.1 a1 3 = q_12.1 a1 3 := (show q_34.1 a1 3 = q_12.1 a1 3 from by rw [eq_34]; rfl)
          have z_38 : q_34.1 a_22 0 = q_12.1 a_22 0 := (show q_34.1 a_22 0 = q_12.1 a_22 0 from by rw [eq_34]; rfl)
          have z_39 : q_34.2.2.1 a0 1 = a_1 := ((show q_34.2.2.1 a0 1 = q_12.2.2.1 a0 1 from by rw [eq_34]; rfl)).trans (p1_q_12)
          have z_40 : q_34.2.2.1 a1 0 = a_4 := ((show q_34.2.2.1 a1 0 = q_12.2.2.1 a1 0 from by rw [eq_34]; rfl)).trans (p2_q_12)
          have z_41 : q_34.2.2.1 a1 1 = a_21 := ((show q_34.2.2.1 a1 1 = q_12.2.2.1 a1 1 from by rw [eq_34]; rfl)).trans (ea_21)
          exact Jn_75_25 q_34 hV_q_34 hF_q_34 z_36 z_37 z_38 z_39 z_40 z_41
  exact Lp_28_17 _ 0 q_9 hV_q_9 hF_q_9 z_13 z_14 z_15 (show 0 ≤ 0 from by first | assumption | omega | decide) (Nat.lt_succ_self _)
theorem iq_X4_weigh_X2 : ∀ w ∈ wsX20, w ∈ wsX4_weigh := fun _ h => List.mem_cons_of_mem _ (List.mem_append_left _ (List.mem_append_right _ h))
theorem iq_X4_weigh_X4 : ∀ w ∈ wsX40, w ∈ wsX4_weigh := fun _ h => List.mem_cons_of_mem _ (List.mem_append_left _ (List.mem_append_left _ (List.mem_append_left _ (List.mem_append_right _ h))))
theorem iq_X4_weigh_X5 : ∀ w ∈ wsX50, w ∈ wsX4_weigh := fun _ h => List.mem_cons_of_mem _ (List.mem_append_left _ (List.mem_append_left _ (List.mem_append_right _ h)))
set_option maxHeartbeats 4000000 in
set_option maxRecDepth 100000 in
theorem k_X4_weigh (l : Launch) (dC : Nat → ClassId) (dI : Nat → Nat → Nat) (h : Sh) (L : List Nat) (hN : sx_nd L) (q : Sg) (hV : sx_V h L q) {a0 : Nat} (ha0 : a0 ∈ L) (ka0 : h.1 a0 = 4) {a1 : Nat} (ha1 : a1 ∈ L) (ka1 : h.1 a1 = 5) (n1 : Int32) (n2 : Int32)  (hy0 : 0 ≤ n1.toInt) (hy1 : n1.toInt ≤ 11) (hy2 : 0 ≤ n2.toInt) (hy3 : n2.toInt ≤ 11) : CMv l dC dI h L yX4_weigh wsX4_weigh ({ frames := 1, cells := 0, slots := 0, locals := 25 } : Room) q [.ref a0, .ref a1, .int n1, .int n2] (fun q' => sx_V h L q' ∧ sx_fr h L (fun a => False) q q') := by
  refine cm_v (cc := cX4_weigh) (mL := 7) (own := RX4) hN (by decide) rfl rfl (Nat.le_of_ble_eq_true rfl) (fun Z B hret => ?_)
  have hF : sx_fr h L (fun a => False) q q := sx_fr.rf
  show WA l dC dI h L ({ frames := 1, cells := 0, slots := 0, locals := 25 } : Room) 7 Z q 0 [(0, .ref a0), (1, .ref a1), (2, .int n1), (3, .int n2)] []
  refine wa_aload_n B dX4_weigh_0 rfl 0 rfl ?_
  obtain ⟨a_1, ea_1, ha_1, ka_1, la_1⟩ := hV.refn (n := 5) (t := 404) ha0 ka0 1 rfl (by decide) rfl (by decide)
  refine wa_getR B (C := RX4) (T := TX4) (N := 7) iq_X4_weigh_X4 ha0 ka0 (by decide) rfl 1 (by decide) (by decide) (by decide +kernel) rfl (fun _ _ _ => rfl) (v := a_1) ea_1 dX4_weigh_1 ?_
  refine wa_iconst B 0 dX4_weigh_4 (by decide) ?_
  obtain ⟨a_2, ea_2, ha_2, ka_2, la_2⟩ := hV.row ha_1 ka_1 (zx_ix (i := 0) (show (0 : Int) ≤ _ by decide) (show (0 : Int) < (h.2.1 a_1 : Int) by omega))
  refine wa_aaloadA B (t0 := 7) ha_1 ka_1 (by decide) rfl (show (0 : Int) ≤ _ by decide) (show (0 : Int) < (h.2.1 a_1 : Int) by omega) (v := a_2) ea_2 dX4_weigh_5 ?_
  refine wa_iload_n B dX4_weigh_6 rfl 3 rfl ?_
  refine wa_lconst B 0 dX4_weigh_7 (by decide) ?_
  refine wa_lastore B ha_2 ka_2 (by decide) (by decide) (show 0 ≤ n2.toInt by omega) (show n2.toInt < (h.2.1 a_2 : Int) by omega) dX4_weigh_8 (fun q_3 eq_3 => ?_)
  have hV_q_3 : sx_V h L q_3 := by rw [eq_3]; exact hV.pL
  have hF_q_3 : sx_fr h L (fun a => False) q q_3 := hF.tr (by rw [eq_3]; exact sx_fr.pL (show h.1 a_2 = 200 ∨ (False) from by omega))
  have z_4 : q_3.2.2.2.2 a_2 (n2 : Int32).toNatClampNeg = 0 := by rw [eq_3, sg_pL_e]; exact if_pos rfl
  refine wa_iconst B 0 dX4_weigh_9 (by decide) ?_
  refine wa_istore B [(4, .int 0), (0, .ref a0), (1, .ref a1), (2, .int n1), (3, .int n2)] dX4_weigh_10 (by decide) rfl ?_
  have z_7 : q_3.2.2.1 a0 1 = a_1 := ((show q_3.2.2.1 a0 1 = q.2.2.1 a0 1 from by rw [eq_3]; rfl)).trans (ea_1)
  have Lp_12_9 : ∀ (n : Nat) (v_5 : Int32) (q_6 : Sg), sx_V h L q_6 → sx_fr h L (fun a => False) q q_6 → q_6.2.2.1 a0 1 = a_1 → 0 ≤ v_5.toInt → (4 - v_5.toInt : Int).toNat < n → WA l dC dI h L ({ frames := 1, cells := 0, slots := 0, locals := 25 } : Room) 7 Z q_6 12 [(4, .int v_5), (0, .ref a0), (1, .ref a1), (2, .int n1), (3, .int n2)] [] := by
    intro n
    induction n with
    | zero =>
      intro v_5 q_6 hV_q_6 hF_q_6 p0_q_6 x_8 hn
      exact absurd hn (Nat.not_lt_zero _)
    | succ n ih_10 =>
      intro v_5 q_6 hV_q_6 hF_q_6 p0_q_6 x_8 hn
      refine wa_iload B dX4_weigh_12 0 rfl ?_
      refine wa_iconst B 4 dX4_weigh_14 (by decide) ?_
      refine wa_icmp_ge B 34 dX4_weigh_15 (by decide) (fun (t_11 : 4 ≤ v_5.toInt) => ?_) (fun (t_11 : ¬ 4 ≤ v_5.toInt) => ?_)
      · refine wa_aload_n B dX4_weigh_34 rfl 2 rfl ?_
        obtain ⟨a_12, ea_12, ha_12, ka_12, la_12⟩ := hV_q_6.refn (n := 12) (t := 401) ha1 ka1 0 rfl (by decide) rfl (by decide)
        refine wa_getR B (C := RX5) (T := TX5) (N := 7) iq_X4_weigh_X5 ha1 ka1 (by decide) rfl 0 (by decide) (by decide) (by decide +kernel) rfl (fun _ _ _ => rfl) (v := a_12) ea_12 dX4_weigh_35 ?_
        refine wa_iload_n B dX4_weigh_38 rfl 3 rfl ?_
        obtain ⟨a_13, ea_13, ha_13, ka_13⟩ := hV_q_6.elem (t := 2) ha_12 ka_12 (by decide) rfl (zx_ix (i := n1) (show 0 ≤ n1.toInt by omega) (show n1.toInt < (h.2.1 a_12 : Int) by omega))
        refine wa_aaload B (t0 := 4) ha_12 ka_12 (by decide) rfl (show 0 ≤ n1.toInt by omega) (show n1.toInt < (h.2.1 a_12 : Int) by omega) (v := a_13) ea_13 dX4_weigh_39 ?_
        refine wa_astore B [(4, .ref a_13), (0, .ref a0), (1, .ref a1), (2, .int n1), (3, .int n2)] dX4_weigh_40 (by decide) rfl ?_
        refine wa_aload_n B dX4_weigh_42 rfl 1 rfl ?_
        refine wa_aload_n B dX4_weigh_43 rfl 2 rfl ?_
        refine wa_iload_n B dX4_weigh_44 rfl 3 rfl ?_
        refine wa_iload_n B dX4_weigh_45 rfl 4 rfl ?_
        refine wa_iconst B 1 dX4_weigh_46 (by decide) ?_
        refine wa_callVv B (x := (RX4, TX4, 7)) (As := [.ref a1, .int n1, .int n2, .int 1]) (rest := []) (k_X4_addPart l dC dI h L hN q_6 hV_q_6 (a0 := a0) ha0 ka0 (a1 := a1) ha1 ka1 n1 n2 1  (by first | assumption | omega | decide) (by first | assumption | omega | decide) (by first | assumption | omega | decide) (by first | assumption | omega | decide)) (cwV 4 B.1.2.2.2.2 gX4_weigh_X4_addPart rfl rfl rfl (by decide +kernel) ⟨Nat.le_of_ble_eq_true rfl, Nat.le_of_ble_eq_true rfl⟩) ha0 ka0 (by decide) rfl rfl rfl (Nat.le_of_ble_eq_true rfl) dX4_weigh_47 (fun q_14 w_15 => ?_)
        obtain ⟨hV_q_14, h2_q_14⟩ := w_15
        have hF_q_14 : sx_fr h L (fun a => False) q q_14 := hF_q_6.tr (h2_q_14.mono (fun a (z : False) => z.elim))
        refine wa_iload_n B dX4_weigh_50 rfl 3 rfl ?_
        refine wa_iconst B 1 dX4_weigh_51 (by decide) ?_
        refine wa_isub B dX4_weigh_52 (fun v_16 ev_16 => ?_)
        refine wa_istore B [(5, .int v_16), (4, .ref a_13), (0, .ref a0), (1, .ref a1), (2, .int n1), (3, .int n2)] dX4_weigh_53 (by decide) rfl ?_
        have z_19 : q_14.2.2.1 a0 1 = a_1 := (h2_q_14.R ha0 (show ¬ ((False) ∧ (h.1 a0 = 8 ∨ h.1 a0 = 11)) from by omega) 1).trans (p0_q_6)
        have z_20 : q_14.2.2.1 a1 0 = a_12 := (h2_q_14.R ha1 (show ¬ ((False) ∧ (h.1 a1 = 8 ∨ h.1 a1 = 11)) from by omega) 0).trans (ea_12)
        have Lp_55_23 : ∀ (n : Nat) (v_17 : Int32) (q_18 : Sg), sx_V h L q_18 → sx_fr h L (fun a => False) q q_18 → q_18.2.2.1 a0 1 = a_1 → q_18.2.2.1 a1 0 = a_12 → (-1) ≤ v_17.toInt → v_17.toInt ≤ 11 → (v_17.toInt + 1 : Int).toNat < n → WA l dC dI h L ({ frames := 1, cells := 0, slots := 0, locals := 25 } : Room) 7 Z q_18 55 [(5, .int v_17), (4, .ref a_13), (0, .ref a0), (1, .ref a1), (2, .int n1), (3, .int n2)] [] := by
          intro n
          induction n with
          | zero =>
            intro v_17 q_18 hV_q_18 hF_q_18 p0_q_18 p1_q_18 x_21 x_22 hn
            exact absurd hn (Nat.not_lt_zero _)
          | succ n ih_24 =>
            intro v_17 q_18 hV_q_18 hF_q_18 p0_q_18 p1_q_18 x_21 x_22 hn
            refine wa_iload B dX4_weigh_55 0 rfl ?_
            refine wa_if_lt B 146 dX4_weigh_57 (by decide) (fun (t_25 : v_17.toInt < 0) => ?_) (fun (t_25 : ¬ v_17.toInt < 0) => ?_)
            · exact hret _ _ _ dX4_weigh_146 ⟨hV_q_18, hF_q_18⟩
            · refine wa_aload_n B dX4_weigh_60 rfl 3 rfl ?_
              refine wa_getR B (C := RX5) (T := TX5) (N := 7) iq_X4_weigh_X5 ha1 ka1 (by decide) rfl 0 (by decide) (by decide) (by decide +kernel) rfl (fun _ _ _ => rfl) (v := a_12) p1_q_18 dX4_weigh_61 ?_
              refine wa_iload B dX4_weigh_64 0 rfl ?_
              obtain ⟨a_26, ea_26, ha_26, ka_26⟩ := hV_q_18.elem (t := 2) ha_12 ka_12 (by decide) rfl (zx_ix (i := v_17) (show 0 ≤ v_17.toInt by omega) (show v_17.toInt < (h.2.1 a_12 : Int) by omega))
              refine wa_aaload B (t0 := 4) ha_12 ka_12 (by decide) rfl (show 0 ≤ v_17.toInt by omega) (show v_17.toInt < (h.2.1 a_12 : Int) by omega) (v := a_26) ea_26 dX4_weigh_66 ?_
              refine wa_astore B [(6, .ref a_26), (5, .int v_17), (4, .ref a_13), (0, .ref a0), (1, .ref a1), (2, .int n1), (3, .int n2)] dX4_weigh_67 (by decide) rfl ?_
              refine wa_aload B dX4_weigh_69 0 rfl ?_
              refine wa_getI B (C := RX2) (T := TX2) (N := 6) iq_X4_weigh_X2 ha_26 ka_26 (by decide) rfl 1 (by decide) (by decide) (by decide +kernel) rfl (by decide) (v := (q_18.1 a_26 1)) rfl dX4_weigh_71 ?_
              refine wa_aload B dX4_weigh_74 2 rfl ?_
              refine wa_getI B (C := RX2) (T := TX2) (N := 6) iq_X4_weigh_X2 ha_13 ka_13 (by decide) rfl 1 (by decide) (by decide) (by decide +kernel) rfl (by decide) (v := (q_18.1 a_13 1)) rfl dX4_weigh_76 ?_
              have Jn_106_28 : ∀  (q_27 : Sg), sx_V h L q_27 → sx_fr h L (fun a => False) q q_27 → q_27.1 a_26 1 = (q_18.1 a_26 1) → q_27.1 a_13 1 = (q_18.1 a_13 1) → q_27.2.2.1 a0 1 = a_1 → q_27.2.2.1 a1 0 = a_12 → WA l dC dI h L ({ frames := 1, cells := 0, slots := 0, locals := 25 } : Room) 7 Z q_27 106 [(6, .ref a_26), (5, .int v_17), (4, .ref a_13), (0, .ref a0), (1, .ref a1), (2, .int n1), (3, .int n2)] [] := by
                intro q_27 hV_q_27 hF_q_27 p0_q_27 p1_q_27 p2_q_27 p3_q_27
                refine wa_aload B dX4_weigh_106 0 rfl ?_
                refine wa_getI B (C := RX2) (T := TX2) (N := 6) iq_X4_weigh_X2 ha_26 ka_26 (by decide) rfl 1 (by decide) (by decide) (by decide +kernel) rfl (by decide) (v := (q_18.1 a_26 1)) p0_q_27 dX4_weigh_108 ?_
                refine wa_aload B dX4_weigh_111 2 rfl ?_
                refine wa_getI B (C := RX2) (T := TX2) (N := 6) iq_X4_weigh_X2 ha_13 ka_13 (by decide) rfl 1 (by decide) (by decide) (by decide +kernel) rfl (by decide) (v := (q_18.1 a_13 1)) p1_q_27 dX4_weigh_113 ?_
                refine wa_icmp_ne B 140 dX4_weigh_116 (by decide) (fun (t_29 : ¬ (q_18.1 a_26 1).toInt = (q_18.1 a_13 1).toInt) => ?_) (fun (t_29 : (q_18.1 a_26 1).toInt = (q_18.1 a_13 1).toInt) => ?_)
                · obtain ⟨v_30, ev_30⟩ : ∃ z : Int32, z = v_17 + (-1) := ⟨_, rfl⟩
                  refine wa_iinc B [(5, .int v_30), (6, .ref a_26), (4, .ref a_13), (0, .ref a0), (1, .ref a1), (2, .int n1), (3, .int n2)] v_30 dX4_weigh_140 1 rfl (by rw [ev_30]; rfl) (by decide) rfl ?_
                  refine wa_goto B 55 dX4_weigh_143 (by decide) ?_
                  have tv_30 : v_30.toInt = v_17.toInt + (-1) := by have b0 := zx_bd v_17; rw [ev_30]; exact zx_add (show (-2147483648 : Int) ≤ v_17.toInt + (-1) by omega) (show v_17.toInt + (-1) < (2147483648 : Int) by omega)
                  refine WA.sub [0, 2, 3, 4, 5, 6] rfl ?_
                  exact ih_24 v_30 q_27 hV_q_27 hF_q_27 p2_q_27 p3_q_27 (show (-1) ≤ v_30.toInt from by first | assumption | omega | decide) (show v_30.toInt ≤ 11 from by first | assumption | omega | decide) (show (v_30.toInt + 1 : Int).toNat < _ from by omega)
                · refine wa_aload B dX4_weigh_119 0 rfl ?_
                  refine wa_getI B (C := RX2) (T := TX2) (N := 6) iq_X4_weigh_X2 ha_26 ka_26 (by decide) rfl 0 (by decide) (by decide) (by decide +kernel) rfl (by decide) (v := (q_27.1 a_26 0)) rfl dX4_weigh_121 ?_
                  refine wa_iconst B 1 dX4_weigh_124 (by decide) ?_
                  refine wa_icmp_ne B 140 dX4_weigh_125 (by decide) (fun (t_31 : ¬ (q_27.1 a_26 0).toInt = 1) => ?_) (fun (t_31 : (q_27.1 a_26 0).toInt = 1) => ?_)
                  · obtain ⟨v_32, ev_32⟩ : ∃ z : Int32, z = v_17 + (-1) := ⟨_, rfl⟩
                    refine wa_iinc B [(5, .int v_32), (6, .ref a_26), (4, .ref a_13), (0, .ref a0), (1, .ref a1), (2, .int n1), (3, .int n2)] v_32 dX4_weigh_140 1 rfl (by rw [ev_32]; rfl) (by decide) rfl ?_
                    refine wa_goto B 55 dX4_weigh_143 (by decide) ?_
                    have tv_32 : v_32.toInt = v_17.toInt + (-1) := by have b0 := zx_bd v_17; rw [ev_32]; exact zx_add (show (-2147483648 : Int) ≤ v_17.toInt + (-1) by omega) (show v_17.toInt + (-1) < (2147483648 : Int) by omega)
                    refine WA.sub [0, 2, 3, 4, 5, 6] rfl ?_
                    exact ih_24 v_32 q_27 hV_q_27 hF_q_27 p2_q_27 p3_q_27 (show (-1) ≤ v_32.toInt from by first | assumption | omega | decide) (show v_32.toInt ≤ 11 from by first | assumption | omega | decide) (show (v_32.toInt + 1 : Int).toNat < _ from by omega)
                  · refine wa_aload B dX4_weigh_128 2 rfl ?_
                    refine wa_getI B (C := RX2) (T := TX2) (N := 6) iq_X4_weigh_X2 ha_13 ka_13 (by decide) rfl 0 (by decide) (by decide) (by decide +kernel) rfl (by decide) (v := (q_27.1 a_13 0)) rfl dX4_weigh_130 ?_
                    refine wa_iconst B 1 dX4_weigh_133 (by decide) ?_
                    refine wa_icmp_ne B 140 dX4_weigh_134 (by decide) (fun (t_33 : ¬ (q_27.1 a_13 0).toInt = 1) => ?_) (fun (t_33 : (q_27.1 a_13 0).toInt = 1) => ?_)
                    · obtain ⟨v_34, ev_34⟩ : ∃ z : Int32, z = v_17 + (-1) := ⟨_, rfl⟩
                      refine wa_iinc B [(5, .int v_34), (6, .ref a_26), (4, .ref a_13), (0, .ref a0), (1, .ref a1), (2, .int n1), (3, .int n2)] v_34 dX4_weigh_140 1 rfl (by rw [ev_34]; rfl) (by decide) rfl ?_
                      refine wa_goto B 55 dX4_weigh_143 (by decide) ?_
                      have tv_34 : v_34.toInt = v_17.toInt + (-1) := by have b0 := zx_bd v_17; rw [ev_34]; exact zx_add (show (-2147483648 : Int) ≤ v_17.toInt + (-1) by omega) (show v_17.toInt + (-1) < (2147483648 : Int) by omega)
                      refine WA.sub [0, 2, 3, 4, 5, 6] rfl ?_
                      exact ih_24 v_34 q_27 hV_q_27 hF_q_27 p2_q_27 p3_q_27 (show (-1) ≤ v_34.toInt from by first | assumption | omega | decide) (show v_34.toInt ≤ 11 from by first | assumption | omega | decide) (show (v_34.toInt + 1 : Int).toNat < _ from by omega)
                    · refine wa_goto B 146 dX4_weigh_137 (by decide) ?_
                      exact hret _ _ _ dX4_weigh_146 ⟨hV_q_27, hF_q_27⟩
              refine wa_icmp_ne B 106 dX4_weigh_79 (by decide) (fun (t_35 : ¬ (q_18.1 a_26 1).toInt = (q_18.1 a_13 1).toInt) => ?_) (fun (t_35 : (q_18.1 a_26 1).toInt = (q_18.1 a_13 1).toInt) => ?_)
              · exact Jn_106_28 q_18 hV_q_18 hF_q_18 rfl rfl p0_q_18 p1_q_18
              · refine wa_aload B dX4_weigh_82 0 rfl ?_
                refine wa_getI B (C := RX2) (T := TX2) (N := 6) iq_X4_weigh_X2 ha_26 ka_26 (by decide) rfl 0 (by decide) (by decide) (by decide +kernel) rfl (by decide) (v := (q_18.1 a_26 0)) rfl dX4_weigh_84 ?_
                refine wa_aload B dX4_weigh_87 2 rfl ?_
                refine wa_getI B (C := RX2) (T := TX2) (N := 6) iq_X4_weigh_X2 ha_13 ka_13 (by decide) rfl 0 (by decide) (by decide) (by decide +kernel) rfl (by decide) (v := (q_18.1 a_13 0)) rfl dX4_weigh_89 ?_
                refine wa_iconst B 1 dX4_weigh_92 (by decide) ?_
                refine wa_isub B dX4_weigh_93 (fun v_36 ev_36 => ?_)
                refine wa_icmp_ne B 106 dX4_weigh_94 (by decide) (fun (t_37 : ¬ (q_18.1 a_26 0).toInt = v_36.toInt) => ?_) (fun (t_37 : (q_18.1 a_26 0).toInt = v_36.toInt) => ?_)
                · exact Jn_106_28 q_18 hV_q_18 hF_q_18 rfl rfl p0_q_18 p1_q_18
                · refine wa_aload_n B dX4_weigh_97 rfl 3 rfl ?_
                  refine wa_aload_n B dX4_weigh_98 rfl 4 rfl ?_
                  refine wa_iload B dX4_weigh_99 1 rfl ?_
                  refine wa_iload_n B dX4_weigh_101 rfl 6 rfl ?_
                  refine wa_iconst B (-1) dX4_weigh_102 (by decide) ?_
                  refine wa_callVv B (x := (RX4, TX4, 7)) (As := [.ref a1, .int v_17, .int n2, .int (-1)]) (rest := []) (k_X4_addPart l dC dI h L hN q_18 hV_q_18 (a0 := a0) ha0 ka0 (a1 := a1) ha1 ka1 v_17 n2 (-1)  (by first | assumption | omega | decide) (by first | assumption | omega | decide) (by first | assumption | omega | decide) (by first | assumption | omega | decide)) (cwV 4 B.1.2.2.2.2 gX4_weigh_X4_addPart rfl rfl rfl (by decide +kernel) ⟨Nat.le_of_ble_eq_true rfl, Nat.le_of_ble_eq_true rfl⟩) ha0 ka0 (by decide) rfl rfl rfl (Nat.le_of_ble_eq_true rfl) dX4_weigh_103 (fun q_38 w_39 => ?_)
                  obtain ⟨hV_q_38, h2_q_38⟩ := w_39
                  have hF_q_38 : sx_fr h L (fun a => False) q q_38 := hF_q_18.tr (h2_q_38.mono (fun a (z : False) => z.elim))
                  have z_40 : q_38.1 a_26 1 = q_18.1 a_26 1 := h2_q_38.I ha_26 (show ¬ (False) from id) 1
                  have z_41 : q_38.1 a_13 1 = q_18.1 a_13 1 := h2_q_38.I ha_13 (show ¬ (False) from id) 1
                  have z_42 : q_38.2.2.1 a0 1 = a_1 := (h2_q_38.R ha0 (show ¬ ((False) ∧ (h.1 a0 = 8 ∨ h.1 a0 = 11)) from by omega) 1).trans (p0_q_18)
                  have z_43 : q_38.2.2.1 a1 0 = a_12 := (h2_q_38.R ha1 (show ¬ ((False) ∧ (h.1 a1 = 8 ∨ h.1 a1 = 11)) from by omega) 0).trans (p1_q_18)
                  exact Jn_106_28 q_38 hV_q_38 hF_q_38 z_40 z_41 z_42 z_43
        have tv_16 : v_16.toInt = n1.toInt - 1 := by have b0 := zx_bd n1; rw [ev_16]; exact zx_sub (show (-2147483648 : Int) ≤ n1.toInt - 1 by omega) (show n1.toInt - 1 < (2147483648 : Int) by omega)
        exact Lp_55_23 _ v_16 q_14 hV_q_14 hF_q_14 z_19 z_20 (show (-1) ≤ v_16.toInt from by first | assumption | omega | decide) (show v_16.toInt ≤ 11 from by first | assumption | omega | decide) (Nat.lt_succ_self _)
      · refine wa_aload_n B dX4_weigh_18 rfl 1 rfl ?_
        obtain ⟨a_44, ea_44, ha_44, ka_44, la_44⟩ := hV_q_6.refn (n := 4) (t := 404) ha0 ka0 2 rfl (by decide) rfl (by decide)
        refine wa_getR B (C := RX4) (T := TX4) (N := 7) iq_X4_weigh_X4 ha0 ka0 (by decide) rfl 2 (by decide) (by decide) (by decide +kernel) rfl (fun _ _ _ => rfl) (v := a_44) ea_44 dX4_weigh_19 ?_
        refine wa_iload B dX4_weigh_22 0 rfl ?_
        obtain ⟨a_45, ea_45, ha_45, ka_45, la_45⟩ := hV_q_6.row ha_44 ka_44 (zx_ix (i := v_5) (show 0 ≤ v_5.toInt by omega) (show v_5.toInt < (h.2.1 a_44 : Int) by omega))
        refine wa_aaloadA B (t0 := 7) ha_44 ka_44 (by decide) rfl (show 0 ≤ v_5.toInt by omega) (show v_5.toInt < (h.2.1 a_44 : Int) by omega) (v := a_45) ea_45 dX4_weigh_24 ?_
        refine wa_iload_n B dX4_weigh_25 rfl 4 rfl ?_
        refine wa_lconst B 0 dX4_weigh_26 (by decide) ?_
        refine wa_lastore B ha_45 ka_45 (by decide) (by decide) (show 0 ≤ n2.toInt by omega) (show n2.toInt < (h.2.1 a_45 : Int) by omega) dX4_weigh_27 (fun q_46 eq_46 => ?_)
        have hV_q_46 : sx_V h L q_46 := by rw [eq_46]; exact hV_q_6.pL
        have hF_q_46 : sx_fr h L (fun a => False) q q_46 := hF_q_6.tr (by rw [eq_46]; exact sx_fr.pL (show h.1 a_45 = 200 ∨ (False) from by omega))
        have z_47 : q_46.2.2.2.2 a_45 (n2 : Int32).toNatClampNeg = 0 := by rw [eq_46, sg_pL_e]; exact if_pos rfl
        obtain ⟨v_48, ev_48⟩ : ∃ z : Int32, z = v_5 + 1 := ⟨_, rfl⟩
        refine wa_iinc B [(4, .int v_48), (0, .ref a0), (1, .ref a1), (2, .int n1), (3, .int n2)] v_48 dX4_weigh_28 0 rfl (by rw [ev_48]; rfl) (by decide) rfl ?_
        refine wa_goto B 12 dX4_weigh_31 (by decide) ?_
        have tv_48 : v_48.toInt = v_5.toInt + 1 := by have b0 := zx_bd v_5; rw [ev_48]; exact zx_add (show (-2147483648 : Int) ≤ v_5.toInt + 1 by omega) (show v_5.toInt + 1 < (2147483648 : Int) by omega)
        have z_49 : q_46.2.2.1 a0 1 = a_1 := ((show q_46.2.2.1 a0 1 = q_6.2.2.1 a0 1 from by rw [eq_46]; rfl)).trans (p0_q_6)
        exact ih_10 v_48 q_46 hV_q_46 hF_q_46 z_49 (show 0 ≤ v_48.toInt from by first | assumption | omega | decide) (show (4 - v_48.toInt : Int).toNat < _ from by omega)
  exact Lp_12_9 _ 0 q_3 hV_q_3 hF_q_3 z_7 (show 0 ≤ 0 from by first | assumption | omega | decide) (Nat.lt_succ_self _)
theorem iq_X4_measure_X4 : ∀ w ∈ wsX40, w ∈ wsX4_measure := fun _ h => List.mem_cons_of_mem _ (List.mem_append_right _ h)
set_option maxHeartbeats 4000000 in
set_option maxRecDepth 100000 in
theorem k_X4_measure (l : Launch) (dC : Nat → ClassId) (dI : Nat → Nat → Nat) (h : Sh) (L : List Nat) (hN : sx_nd L) (q : Sg) (hV : sx_V h L q) {a0 : Nat} (ha0 : a0 ∈ L) (ka0 : h.1 a0 = 4) (n1 : Int32)  (hy0 : 0 ≤ n1.toInt) (hy1 : n1.toInt ≤ 11) : CMv l dC dI h L yX4_measure wsX4_measure ({ frames := 1, cells := 0, slots := 0, locals := 21 } : Room) q [.ref a0, .int n1] (fun q' => sx_V h L q' ∧ sx_fr h L (fun a => False) q q') := by
  refine cm_v (cc := cX4_measure) (mL := 5) (own := RX4) hN (by decide) rfl rfl (Nat.le_of_ble_eq_true rfl) (fun Z B hret => ?_)
  have hF : sx_fr h L (fun a => False) q q := sx_fr.rf
  show WA l dC dI h L ({ frames := 1, cells := 0, slots := 0, locals := 21 } : Room) 5 Z q 0 [(0, .ref a0), (1, .int n1)] []
  refine wa_aload_n B dX4_measure_0 rfl 0 rfl ?_
  obtain ⟨a_1, ea_1, ha_1, ka_1, la_1⟩ := hV.refn (n := 5) (t := 404) ha0 ka0 3 rfl (by decide) rfl (by decide)
  refine wa_getR B (C := RX4) (T := TX4) (N := 7) iq_X4_measure_X4 ha0 ka0 (by decide) rfl 3 (by decide) (by decide) (by decide +kernel) rfl (fun _ _ _ => rfl) (v := a_1) ea_1 dX4_measure_1 ?_
  refine wa_iconst B 4 dX4_measure_4 (by decide) ?_
  obtain ⟨a_2, ea_2, ha_2, ka_2, la_2⟩ := hV.row ha_1 ka_1 (zx_ix (i := 4) (show (0 : Int) ≤ _ by decide) (show (4 : Int) < (h.2.1 a_1 : Int) by omega))
  refine wa_aaloadA B (t0 := 7) ha_1 ka_1 (by decide) rfl (show (0 : Int) ≤ _ by decide) (show (4 : Int) < (h.2.1 a_1 : Int) by omega) (v := a_2) ea_2 dX4_measure_5 ?_
  refine wa_iload_n B dX4_measure_6 rfl 1 rfl ?_
  refine wa_lconst B 0 dX4_measure_7 (by decide) ?_
  refine wa_lastore B ha_2 ka_2 (by decide) (by decide) (show 0 ≤ n1.toInt by omega) (show n1.toInt < (h.2.1 a_2 : Int) by omega) dX4_measure_8 (fun q_3 eq_3 => ?_)
  have hV_q_3 : sx_V h L q_3 := by rw [eq_3]; exact hV.pL
  have hF_q_3 : sx_fr h L (fun a => False) q q_3 := hF.tr (by rw [eq_3]; exact sx_fr.pL (show h.1 a_2 = 200 ∨ (False) from by omega))
  have z_4 : q_3.2.2.2.2 a_2 (n1 : Int32).toNatClampNeg = 0 := by rw [eq_3, sg_pL_e]; exact if_pos rfl
  refine wa_aload_n B dX4_measure_9 rfl 0 rfl ?_
  obtain ⟨a_5, ea_5, ha_5, ka_5, la_5⟩ := hV_q_3.refn (n := 5) (t := 404) ha0 ka0 4 rfl (by decide) rfl (by decide)
  refine wa_getR B (C := RX4) (T := TX4) (N := 7) iq_X4_measure_X4 ha0 ka0 (by decide) rfl 4 (by decide) (by decide) (by decide +kernel) rfl (fun _ _ _ => rfl) (v := a_5) ea_5 dX4_measure_10 ?_
  refine wa_iconst B 4 dX4_measure_13 (by decide) ?_
  obtain ⟨a_6, ea_6, ha_6, ka_6, la_6⟩ := hV_q_3.row ha_5 ka_5 (zx_ix (i := 4) (show (0 : Int) ≤ _ by decide) (show (4 : Int) < (h.2.1 a_5 : Int) by omega))
  refine wa_aaloadA B (t0 := 7) ha_5 ka_5 (by decide) rfl (show (0 : Int) ≤ _ by decide) (show (4 : Int) < (h.2.1 a_5 : Int) by omega) (v := a_6) ea_6 dX4_measure_14 ?_
  refine wa_iload_n B dX4_measure_15 rfl 1 rfl ?_
  refine wa_lconst B 0 dX4_measure_16 (by decide) ?_
  refine wa_lastore B ha_6 ka_6 (by decide) (by decide) (show 0 ≤ n1.toInt by omega) (show n1.toInt < (h.2.1 a_6 : Int) by omega) dX4_measure_17 (fun q_7 eq_7 => ?_)
  have hV_q_7 : sx_V h L q_7 := by rw [eq_7]; exact hV_q_3.pL
  have hF_q_7 : sx_fr h L (fun a => False) q q_7 := hF_q_3.tr (by rw [eq_7]; exact sx_fr.pL (show h.1 a_6 = 200 ∨ (False) from by omega))
  have z_8 : q_7.2.2.2.2 a_6 (n1 : Int32).toNatClampNeg = 0 := by rw [eq_7, sg_pL_e]; exact if_pos rfl
  refine wa_iconst B 3 dX4_measure_18 (by decide) ?_
  refine wa_istore_n B [(2, .int 3), (0, .ref a0), (1, .int n1)] dX4_measure_19 rfl (by decide) rfl ?_
  have z_11 : q_7.2.2.1 a0 3 = a_1 := ((show q_7.2.2.1 a0 3 = q_3.2.2.1 a0 3 from by rw [eq_7]; rfl)).trans (((show q_3.2.2.1 a0 3 = q.2.2.1 a0 3 from by rw [eq_3]; rfl)).trans (ea_1))
  have z_12 : q_7.2.2.1 a0 4 = a_5 := ((show q_7.2.2.1 a0 4 = q_3.2.2.1 a0 4 from by rw [eq_7]; rfl)).trans (ea_5)
  have Lp_20_15 : ∀ (n : Nat) (v_9 : Int32) (q_10 : Sg), sx_V h L q_10 → sx_fr h L (fun a => False) q q_10 → q_10.2.2.1 a0 3 = a_1 → q_10.2.2.1 a0 4 = a_5 → (-1) ≤ v_9.toInt → v_9.toInt ≤ 3 → (v_9.toInt + 1 : Int).toNat < n → WA l dC dI h L ({ frames := 1, cells := 0, slots := 0, locals := 21 } : Room) 5 Z q_10 20 [(2, .int v_9), (0, .ref a0), (1, .int n1)] [] := by
    intro n
    induction n with
    | zero =>
      intro v_9 q_10 hV_q_10 hF_q_10 p0_q_10 p1_q_10 x_13 x_14 hn
      exact absurd hn (Nat.not_lt_zero _)
    | succ n ih_16 =>
      intro v_9 q_10 hV_q_10 hF_q_10 p0_q_10 p1_q_10 x_13 x_14 hn
      refine wa_iload_n B dX4_measure_20 rfl 0 rfl ?_
      refine wa_if_lt B 91 dX4_measure_21 (by decide) (fun (t_17 : v_9.toInt < 0) => ?_) (fun (t_17 : ¬ v_9.toInt < 0) => ?_)
      · exact hret _ _ _ dX4_measure_91 ⟨hV_q_10, hF_q_10⟩
      · refine wa_ldc2 B 9 (by decide +kernel) dX4_measure_24 ?_
        refine wa_aload_n B dX4_measure_27 rfl 1 rfl ?_
        obtain ⟨a_18, ea_18, ha_18, ka_18, la_18⟩ := hV_q_10.refn (n := 4) (t := 404) ha0 ka0 2 rfl (by decide) rfl (by decide)
        refine wa_getR B (C := RX4) (T := TX4) (N := 7) iq_X4_measure_X4 ha0 ka0 (by decide) rfl 2 (by decide) (by decide) (by decide +kernel) rfl (fun _ _ _ => rfl) (v := a_18) ea_18 dX4_measure_28 ?_
        refine wa_iload_n B dX4_measure_31 rfl 0 rfl ?_
        obtain ⟨a_19, ea_19, ha_19, ka_19, la_19⟩ := hV_q_10.row ha_18 ka_18 (zx_ix (i := v_9) (show 0 ≤ v_9.toInt by omega) (show v_9.toInt < (h.2.1 a_18 : Int) by omega))
        refine wa_aaloadA B (t0 := 7) ha_18 ka_18 (by decide) rfl (show 0 ≤ v_9.toInt by omega) (show v_9.toInt < (h.2.1 a_18 : Int) by omega) (v := a_19) ea_19 dX4_measure_32 ?_
        refine wa_iload_n B dX4_measure_33 rfl 2 rfl ?_
        refine wa_laload B ha_19 ka_19 (by decide) (by decide) (show 0 ≤ n1.toInt by omega) (show n1.toInt < (h.2.1 a_19 : Int) by omega) (v := (q_10.2.2.2.2 a_19 (n1 : Int32).toNatClampNeg)) rfl dX4_measure_34 ?_
        refine wa_lmul B dX4_measure_35 (fun v_20 ev_20 => ?_)
        refine wa_lstore_n B [(3, .long v_20), (2, .int v_9), (0, .ref a0), (1, .int n1)] dX4_measure_36 rfl (by decide) rfl ?_
        refine wa_aload_n B dX4_measure_37 rfl 2 rfl ?_
        refine wa_getR B (C := RX4) (T := TX4) (N := 7) iq_X4_measure_X4 ha0 ka0 (by decide) rfl 3 (by decide) (by decide) (by decide +kernel) rfl (fun _ _ _ => rfl) (v := a_1) p0_q_10 dX4_measure_38 ?_
        refine wa_iload_n B dX4_measure_41 rfl 1 rfl ?_
        obtain ⟨a_21, ea_21, ha_21, ka_21, la_21⟩ := hV_q_10.row ha_1 ka_1 (zx_ix (i := v_9) (show 0 ≤ v_9.toInt by omega) (show v_9.toInt < (h.2.1 a_1 : Int) by omega))
        refine wa_aaloadA B (t0 := 7) ha_1 ka_1 (by decide) rfl (show 0 ≤ v_9.toInt by omega) (show v_9.toInt < (h.2.1 a_1 : Int) by omega) (v := a_21) ea_21 dX4_measure_42 ?_
        refine wa_iload_n B dX4_measure_43 rfl 3 rfl ?_
        refine wa_aload_n B dX4_measure_44 rfl 2 rfl ?_
        refine wa_getR B (C := RX4) (T := TX4) (N := 7) iq_X4_measure_X4 ha0 ka0 (by decide) rfl 3 (by decide) (by decide) (by decide +kernel) rfl (fun _ _ _ => rfl) (v := a_1) p0_q_10 dX4_measure_45 ?_
        refine wa_iload_n B dX4_measure_48 rfl 1 rfl ?_
        refine wa_iconst B 1 dX4_measure_49 (by decide) ?_
        refine wa_iadd B dX4_measure_50 (fun v_22 ev_22 => ?_)
        have tv_22 : v_22.toInt = v_9.toInt + 1 := by have b0 := zx_bd v_9; rw [ev_22]; exact zx_add (show (-2147483648 : Int) ≤ v_9.toInt + 1 by omega) (show v_9.toInt + 1 < (2147483648 : Int) by omega)
        obtain ⟨a_23, ea_23, ha_23, ka_23, la_23⟩ := hV_q_10.row ha_1 ka_1 (zx_ix (i := v_22) (show 0 ≤ v_22.toInt by omega) (show v_22.toInt < (h.2.1 a_1 : Int) by omega))
        refine wa_aaloadA B (t0 := 7) ha_1 ka_1 (by decide) rfl (show 0 ≤ v_22.toInt by omega) (show v_22.toInt < (h.2.1 a_1 : Int) by omega) (v := a_23) ea_23 dX4_measure_51 ?_
        refine wa_iload_n B dX4_measure_52 rfl 3 rfl ?_
        refine wa_laload B ha_23 ka_23 (by decide) (by decide) (show 0 ≤ n1.toInt by omega) (show n1.toInt < (h.2.1 a_23 : Int) by omega) (v := (q_10.2.2.2.2 a_23 (n1 : Int32).toNatClampNeg)) rfl dX4_measure_53 ?_
        refine wa_lconst B 0 dX4_measure_54 (by decide) ?_
        refine wa_lload_n B dX4_measure_55 rfl 0 rfl ?_
        refine wa_mmin_long B (by decide +kernel) (by decide +kernel) (by decide +kernel) (by decide +kernel) (Nat.le_of_ble_eq_true rfl) (Nat.le_of_ble_eq_true rfl) dX4_measure_56 (fun v_24 ev_24 => ?_)
        refine wa_ladd B dX4_measure_59 (fun v_25 ev_25 => ?_)
        refine wa_lastore B ha_21 ka_21 (by decide) (by decide) (show 0 ≤ n1.toInt by omega) (show n1.toInt < (h.2.1 a_21 : Int) by omega) dX4_measure_60 (fun q_26 eq_26 => ?_)
        have hV_q_26 : sx_V h L q_26 := by rw [eq_26]; exact hV_q_10.pL
        have hF_q_26 : sx_fr h L (fun a => False) q q_26 := hF_q_10.tr (by rw [eq_26]; exact sx_fr.pL (show h.1 a_21 = 200 ∨ (False) from by omega))
        have z_27 : q_26.2.2.2.2 a_21 (n1 : Int32).toNatClampNeg = v_25 := by rw [eq_26, sg_pL_e]; exact if_pos rfl
        refine wa_aload_n B dX4_measure_61 rfl 2 rfl ?_
        have z_28 : q_26.2.2.1 a0 4 = a_5 := ((show q_26.2.2.1 a0 4 = q_10.2.2.1 a0 4 from by rw [eq_26]; rfl)).trans (p1_q_10)
        refine wa_getR B (C := RX4) (T := TX4) (N := 7) iq_X4_measure_X4 ha0 ka0 (by decide) rfl 4 (by decide) (by decide) (by decide +kernel) rfl (fun _ _ _ => rfl) (v := a_5) z_28 dX4_measure_62 ?_
        refine wa_iload_n B dX4_measure_65 rfl 1 rfl ?_
        obtain ⟨a_29, ea_29, ha_29, ka_29, la_29⟩ := hV_q_26.row ha_5 ka_5 (zx_ix (i := v_9) (show 0 ≤ v_9.toInt by omega) (show v_9.toInt < (h.2.1 a_5 : Int) by omega))
        refine wa_aaloadA B (t0 := 7) ha_5 ka_5 (by decide) rfl (show 0 ≤ v_9.toInt by omega) (show v_9.toInt < (h.2.1 a_5 : Int) by omega) (v := a_29) ea_29 dX4_measure_66 ?_
        refine wa_iload_n B dX4_measure_67 rfl 3 rfl ?_
        refine wa_aload_n B dX4_measure_68 rfl 2 rfl ?_
        refine wa_getR B (C := RX4) (T := TX4) (N := 7) iq_X4_measure_X4 ha0 ka0 (by decide) rfl 4 (by decide) (by decide) (by decide +kernel) rfl (fun _ _ _ => rfl) (v := a_5) z_28 dX4_measure_69 ?_
        refine wa_iload_n B dX4_measure_72 rfl 1 rfl ?_
        refine wa_iconst B 1 dX4_measure_73 (by decide) ?_
        refine wa_iadd B dX4_measure_74 (fun v_30 ev_30 => ?_)
        have tv_30 : v_30.toInt = v_9.toInt + 1 := by have b0 := zx_bd v_9; rw [ev_30]; exact zx_add (show (-2147483648 : Int) ≤ v_9.toInt + 1 by omega) (show v_9.toInt + 1 < (2147483648 : Int) by omega)
        obtain ⟨a_31, ea_31, ha_31, ka_31, la_31⟩ := hV_q_26.row ha_5 ka_5 (zx_ix (i := v_30) (show 0 ≤ v_30.toInt by omega) (show v_30.toInt < (h.2.1 a_5 : Int) by omega))
        refine wa_aaloadA B (t0 := 7) ha_5 ka_5 (by decide) rfl (show 0 ≤ v_30.toInt by omega) (show v_30.toInt < (h.2.1 a_5 : Int) by omega) (v := a_31) ea_31 dX4_measure_75 ?_
        refine wa_iload_n B dX4_measure_76 rfl 3 rfl ?_
        refine wa_laload B ha_31 ka_31 (by decide) (by decide) (show 0 ≤ n1.toInt by omega) (show n1.toInt < (h.2.1 a_31 : Int) by omega) (v := (q_26.2.2.2.2 a_31 (n1 : Int32).toNatClampNeg)) rfl dX4_measure_77 ?_
        refine wa_lconst B 0 dX4_measure_78 (by decide) ?_
        refine wa_lload_n B dX4_measure_79 rfl 0 rfl ?_
        refine wa_mmax_long B (by decide +kernel) (by decide +kernel) (by decide +kernel) (by decide +kernel) (Nat.le_of_ble_eq_true rfl) (Nat.le_of_ble_eq_true rfl) dX4_measure_80 (fun v_32 ev_32 => ?_)
        refine wa_ladd B dX4_measure_83 (fun v_33 ev_33 => ?_)
        refine wa_lastore B ha_29 ka_29 (by decide) (by decide) (show 0 ≤ n1.toInt by omega) (show n1.toInt < (h.2.1 a_29 : Int) by omega) dX4_measure_84 (fun q_34 eq_34 => ?_)
        have hV_q_34 : sx_V h L q_34 := by rw [eq_34]; exact hV_q_26.pL
        have hF_q_34 : sx_fr h L (fun a => False) q q_34 := hF_q_26.tr (by rw [eq_34]; exact sx_fr.pL (show h.1 a_29 = 200 ∨ (False) from by omega))
        have z_35 : q_34.2.2.2.2 a_29 (n1 : Int32).toNatClampNeg = v_33 := by rw [eq_34, sg_pL_e]; exact if_pos rfl
        obtain ⟨v_36, ev_36⟩ : ∃ z : Int32, z = v_9 + (-1) := ⟨_, rfl⟩
        refine wa_iinc B [(2, .int v_36), (3, .long v_20), (0, .ref a0), (1, .int n1)] v_36 dX4_measure_85 1 rfl (by rw [ev_36]; rfl) (by decide) rfl ?_
        refine wa_goto B 20 dX4_measure_88 (by decide) ?_
        have tv_36 : v_36.toInt = v_9.toInt + (-1) := by have b0 := zx_bd v_9; rw [ev_36]; exact zx_add (show (-2147483648 : Int) ≤ v_9.toInt + (-1) by omega) (show v_9.toInt + (-1) < (2147483648 : Int) by omega)
        have z_37 : q_34.2.2.1 a0 3 = a_1 := ((show q_34.2.2.1 a0 3 = q_26.2.2.1 a0 3 from by rw [eq_34]; rfl)).trans (((show q_26.2.2.1 a0 3 = q_10.2.2.1 a0 3 from by rw [eq_26]; rfl)).trans (p0_q_10))
        have z_38 : q_34.2.2.1 a0 4 = a_5 := ((show q_34.2.2.1 a0 4 = q_26.2.2.1 a0 4 from by rw [eq_34]; rfl)).trans (z_28)
        refine WA.sub [0, 2, 3] rfl ?_
        exact ih_16 v_36 q_34 hV_q_34 hF_q_34 z_37 z_38 (show (-1) ≤ v_36.toInt from by first | assumption | omega | decide) (show v_36.toInt ≤ 3 from by first | assumption | omega | decide) (show (v_36.toInt + 1 : Int).toNat < _ from by omega)
  exact Lp_20_15 _ 3 q_7 hV_q_7 hF_q_7 z_11 z_12 (show (-1) ≤ 3 from by first | assumption | omega | decide) (show 3 ≤ 3 from by first | assumption | omega | decide) (Nat.lt_succ_self _)
theorem iq_X4_missedWith_X4 : ∀ w ∈ wsX40, w ∈ wsX4_missedWith := fun _ h => List.mem_cons_of_mem _ (List.mem_append_right _ h)
set_option maxHeartbeats 4000000 in
set_option maxRecDepth 100000 in
theorem k_X4_missedWith (l : Launch) (dC : Nat → ClassId) (dI : Nat → Nat → Nat) (h : Sh) (L : List Nat) (hN : sx_nd L) (q : Sg) (hV : sx_V h L q) {a0 : Nat} (ha0 : a0 ∈ L) (ka0 : h.1 a0 = 4) (n1 : Int32)  (hy0 : 0 ≤ n1.toInt) (hy1 : n1.toInt ≤ 4) : CMi l dC dI h L yX4_missedWith wsX4_missedWith ({ frames := 0, cells := 0, slots := 0, locals := 0 } : Room) q [.ref a0, .int n1] (fun r q' => q = q') := by
  refine cm_i (cc := cX4_missedWith) (mL := 6) (own := RX4) hN (by decide) rfl rfl (Nat.le_of_ble_eq_true rfl) (fun Z B hret => ?_)
  show WA l dC dI h L ({ frames := 0, cells := 0, slots := 0, locals := 0 } : Room) 6 Z q 0 [(0, .ref a0), (1, .int n1)] []
  refine wa_iconst B 0 dX4_missedWith_0 (by decide) ?_
  refine wa_istore_n B [(2, .int 0), (0, .ref a0), (1, .int n1)] dX4_missedWith_1 rfl (by decide) rfl ?_
  refine wa_iconst B 0 dX4_missedWith_2 (by decide) ?_
  refine wa_istore_n B [(3, .int 0), (2, .int 0), (0, .ref a0), (1, .int n1)] dX4_missedWith_3 rfl (by decide) rfl ?_
  have Lp_4_4 : ∀ (n : Nat) (v_1 : Int32) (v_2 : Int32), 0 ≤ v_1.toInt → ((q.1 a0 0).toInt - v_1.toInt : Int).toNat < n → WA l dC dI h L ({ frames := 0, cells := 0, slots := 0, locals := 0 } : Room) 6 Z q 4 [(3, .int v_1), (2, .int v_2), (0, .ref a0), (1, .int n1)] [] := by
    intro n
    induction n with
    | zero =>
      intro v_1 v_2 x_3 hn
      exact absurd hn (Nat.not_lt_zero _)
    | succ n ih_5 =>
      intro v_1 v_2 x_3 hn
      refine wa_iload_n B dX4_missedWith_4 rfl 0 rfl ?_
      refine wa_aload_n B dX4_missedWith_5 rfl 2 rfl ?_
      refine wa_getI B (C := RX4) (T := TX4) (N := 7) iq_X4_missedWith_X4 ha0 ka0 (by decide) rfl 0 (by decide) (by decide) (by decide +kernel) rfl (by decide) (v := (q.1 a0 0)) rfl dX4_missedWith_6 ?_
      have g_6 : (0 : Int) ≤ (q.1 a0 0).toInt ∧ (q.1 a0 0).toInt ≤ 12 := hV.int ha0 ka0 0
      refine wa_icmp_ge B 63 dX4_missedWith_9 (by decide) (fun (t_7 : (q.1 a0 0).toInt ≤ v_1.toInt) => ?_) (fun (t_7 : ¬ (q.1 a0 0).toInt ≤ v_1.toInt) => ?_)
      · refine wa_iload_n B dX4_missedWith_63 rfl 1 rfl ?_
        exact hret _ _ _ _ dX4_missedWith_64 rfl
      · refine wa_aload_n B dX4_missedWith_12 rfl 2 rfl ?_
        obtain ⟨a_8, ea_8, ha_8, ka_8, la_8⟩ := hV.refn (n := 5) (t := 404) ha0 ka0 1 rfl (by decide) rfl (by decide)
        refine wa_getR B (C := RX4) (T := TX4) (N := 7) iq_X4_missedWith_X4 ha0 ka0 (by decide) rfl 1 (by decide) (by decide) (by decide +kernel) rfl (fun _ _ _ => rfl) (v := a_8) ea_8 dX4_missedWith_13 ?_
        refine wa_iload_n B dX4_missedWith_16 rfl 3 rfl ?_
        obtain ⟨a_9, ea_9, ha_9, ka_9, la_9⟩ := hV.row ha_8 ka_8 (zx_ix (i := n1) (show 0 ≤ n1.toInt by omega) (show n1.toInt < (h.2.1 a_8 : Int) by omega))
        refine wa_aaloadA B (t0 := 7) ha_8 ka_8 (by decide) rfl (show 0 ≤ n1.toInt by omega) (show n1.toInt < (h.2.1 a_8 : Int) by omega) (v := a_9) ea_9 dX4_missedWith_17 ?_
        refine wa_iload_n B dX4_missedWith_18 rfl 0 rfl ?_
        refine wa_laload B ha_9 ka_9 (by decide) (by decide) (show 0 ≤ v_1.toInt by omega) (show v_1.toInt < (h.2.1 a_9 : Int) by omega) (v := (q.2.2.2.2 a_9 (v_1 : Int32).toNatClampNeg)) rfl dX4_missedWith_19 ?_
        refine wa_lstore B [(4, .long ((q.2.2.2.2 a_9 (v_1 : Int32).toNatClampNeg))), (3, .int v_1), (2, .int v_2), (0, .ref a0), (1, .int n1)] dX4_missedWith_20 (by decide) rfl ?_
        refine wa_lload B dX4_missedWith_22 0 rfl ?_
        refine wa_aload_n B dX4_missedWith_24 rfl 3 rfl ?_
        obtain ⟨a_10, ea_10, ha_10, ka_10, la_10⟩ := hV.refn (n := 5) (t := 404) ha0 ka0 3 rfl (by decide) rfl (by decide)
        refine wa_getR B (C := RX4) (T := TX4) (N := 7) iq_X4_missedWith_X4 ha0 ka0 (by decide) rfl 3 (by decide) (by decide) (by decide +kernel) rfl (fun _ _ _ => rfl) (v := a_10) ea_10 dX4_missedWith_25 ?_
        refine wa_iload_n B dX4_missedWith_28 rfl 4 rfl ?_
        obtain ⟨a_11, ea_11, ha_11, ka_11, la_11⟩ := hV.row ha_10 ka_10 (zx_ix (i := n1) (show 0 ≤ n1.toInt by omega) (show n1.toInt < (h.2.1 a_10 : Int) by omega))
        refine wa_aaloadA B (t0 := 7) ha_10 ka_10 (by decide) rfl (show 0 ≤ n1.toInt by omega) (show n1.toInt < (h.2.1 a_10 : Int) by omega) (v := a_11) ea_11 dX4_missedWith_29 ?_
        refine wa_iload_n B dX4_missedWith_30 rfl 1 rfl ?_
        refine wa_laload B ha_11 ka_11 (by decide) (by decide) (show 0 ≤ v_1.toInt by omega) (show v_1.toInt < (h.2.1 a_11 : Int) by omega) (v := (q.2.2.2.2 a_11 (v_1 : Int32).toNatClampNeg)) rfl dX4_missedWith_31 ?_
        refine wa_ladd B dX4_missedWith_32 (fun v_12 ev_12 => ?_)
        refine wa_lconst B 0 dX4_missedWith_33 (by decide) ?_
        refine wa_lcmp B dX4_missedWith_34 (fun v_13 ev_13 => ?_)
        have Jn_57_15 : ∀  (v_14 : Int32), WA l dC dI h L ({ frames := 0, cells := 0, slots := 0, locals := 0 } : Room) 6 Z q 57 [(2, .int v_14), (4, .long ((q.2.2.2.2 a_9 (v_1 : Int32).toNatClampNeg))), (3, .int v_1), (0, .ref a0), (1, .int n1)] [] := by
          intro v_14
          obtain ⟨v_16, ev_16⟩ : ∃ z : Int32, z = v_1 + 1 := ⟨_, rfl⟩
          refine wa_iinc B [(3, .int v_16), (2, .int v_14), (4, .long ((q.2.2.2.2 a_9 (v_1 : Int32).toNatClampNeg))), (0, .ref a0), (1, .int n1)] v_16 dX4_missedWith_57 2 rfl (by rw [ev_16]; rfl) (by decide) rfl ?_
          refine wa_goto B 4 dX4_missedWith_60 (by decide) ?_
          have tv_16 : v_16.toInt = v_1.toInt + 1 := by have b0 := zx_bd v_1; rw [ev_16]; exact zx_add (show (-2147483648 : Int) ≤ v_1.toInt + 1 by omega) (show v_1.toInt + 1 < (2147483648 : Int) by omega)
          refine WA.sub [0, 1, 3, 4] rfl ?_
          exact ih_5 v_16 v_14 (show 0 ≤ v_16.toInt from by first | assumption | omega | decide) (show ((q.1 a0 0).toInt - v_16.toInt : Int).toNat < _ from by omega)
        refine wa_if_gt B 54 dX4_missedWith_35 (by decide) (fun (t_17 : 0 < v_13.toInt) => ?_) (fun (t_17 : ¬ 0 < v_13.toInt) => ?_)
        · obtain ⟨v_18, ev_18⟩ : ∃ z : Int32, z = v_2 + 1 := ⟨_, rfl⟩
          refine wa_iinc B [(2, .int v_18), (4, .long ((q.2.2.2.2 a_9 (v_1 : Int32).toNatClampNeg))), (3, .int v_1), (0, .ref a0), (1, .int n1)] v_18 dX4_missedWith_54 2 rfl (by rw [ev_18]; rfl) (by decide) rfl ?_
          exact Jn_57_15 v_18
        · refine wa_lload B dX4_missedWith_38 0 rfl ?_
          refine wa_aload_n B dX4_missedWith_40 rfl 3 rfl ?_
          obtain ⟨a_19, ea_19, ha_19, ka_19, la_19⟩ := hV.refn (n := 5) (t := 404) ha0 ka0 4 rfl (by decide) rfl (by decide)
          refine wa_getR B (C := RX4) (T := TX4) (N := 7) iq_X4_missedWith_X4 ha0 ka0 (by decide) rfl 4 (by decide) (by decide) (by decide +kernel) rfl (fun _ _ _ => rfl) (v := a_19) ea_19 dX4_missedWith_41 ?_
          refine wa_iload_n B dX4_missedWith_44 rfl 4 rfl ?_
          obtain ⟨a_20, ea_20, ha_20, ka_20, la_20⟩ := hV.row ha_19 ka_19 (zx_ix (i := n1) (show 0 ≤ n1.toInt by omega) (show n1.toInt < (h.2.1 a_19 : Int) by omega))
          refine wa_aaloadA B (t0 := 7) ha_19 ka_19 (by decide) rfl (show 0 ≤ n1.toInt by omega) (show n1.toInt < (h.2.1 a_19 : Int) by omega) (v := a_20) ea_20 dX4_missedWith_45 ?_
          refine wa_iload_n B dX4_missedWith_46 rfl 1 rfl ?_
          refine wa_laload B ha_20 ka_20 (by decide) (by decide) (show 0 ≤ v_1.toInt by omega) (show v_1.toInt < (h.2.1 a_20 : Int) by omega) (v := (q.2.2.2.2 a_20 (v_1 : Int32).toNatClampNeg)) rfl dX4_missedWith_47 ?_
          refine wa_ladd B dX4_missedWith_48 (fun v_21 ev_21 => ?_)
          refine wa_lconst B 0 dX4_missedWith_49 (by decide) ?_
          refine wa_lcmp B dX4_missedWith_50 (fun v_22 ev_22 => ?_)
          refine wa_if_ge B 57 dX4_missedWith_51 (by decide) (fun (t_23 : 0 ≤ v_22.toInt) => ?_) (fun (t_23 : ¬ 0 ≤ v_22.toInt) => ?_)
          · refine WA.sub [2, 0, 1, 3, 4] rfl ?_
            exact Jn_57_15 v_2
          · obtain ⟨v_24, ev_24⟩ : ∃ z : Int32, z = v_2 + 1 := ⟨_, rfl⟩
            refine wa_iinc B [(2, .int v_24), (4, .long ((q.2.2.2.2 a_9 (v_1 : Int32).toNatClampNeg))), (3, .int v_1), (0, .ref a0), (1, .int n1)] v_24 dX4_missedWith_54 2 rfl (by rw [ev_24]; rfl) (by decide) rfl ?_
            exact Jn_57_15 v_24
  exact Lp_4_4 _ 0 0 (show 0 ≤ 0 from by first | assumption | omega | decide) (Nat.lt_succ_self _)
theorem iq_X4_noteReading_X1 : ∀ w ∈ wsX10, w ∈ wsX4_noteReading := fun _ h => List.mem_cons_of_mem _ (List.mem_append_left _ (List.mem_append_right _ h))
theorem iq_X4_noteReading_X2 : ∀ w ∈ wsX20, w ∈ wsX4_noteReading := fun _ h => List.mem_cons_of_mem _ (List.mem_append_right _ h)
theorem iq_X4_noteReading_X4 : ∀ w ∈ wsX40, w ∈ wsX4_noteReading := fun _ h => List.mem_cons_of_mem _ (List.mem_append_left _ (List.mem_append_left _ (List.mem_append_right _ h)))
theorem iq_X4_noteReading_X5 : ∀ w ∈ wsX50, w ∈ wsX4_noteReading := fun _ h => List.mem_cons_of_mem _ (List.mem_append_left _ (List.mem_append_left _ (List.mem_append_left _ (List.mem_append_right _ h))))
set_option maxHeartbeats 4000000 in
set_option maxRecDepth 100000 in
theorem k_X4_noteReading (l : Launch) (dC : Nat → ClassId) (dI : Nat → Nat → Nat) (h : Sh) (L : List Nat) (hN : sx_nd L) (q : Sg) (hV : sx_V h L q) {a0 : Nat} (ha0 : a0 ∈ L) (ka0 : h.1 a0 = 4) {a1 : Nat} (ha1 : a1 ∈ L) (ka1 : h.1 a1 = 5)   : CMv l dC dI h L yX4_noteReading wsX4_noteReading ({ frames := 2, cells := 0, slots := 0, locals := 38 } : Room) q [.ref a0, .ref a1] (fun q' => sx_V h L q' ∧ sx_fr h L (fun a => a = a1 ∧ h.1 a = 5 ∨ h.1 a = 1 ∨ h.1 a = 2) q q') := by
  refine cm_v (cc := cX4_noteReading) (mL := 6) (own := RX4) hN (by decide) rfl rfl (Nat.le_of_ble_eq_true rfl) (fun Z B hret => ?_)
  have hF : sx_fr h L (fun a => a = a1 ∧ h.1 a = 5 ∨ h.1 a = 1 ∨ h.1 a = 2) q q := sx_fr.rf
  show WA l dC dI h L ({ frames := 2, cells := 0, slots := 0, locals := 38 } : Room) 6 Z q 0 [(0, .ref a0), (1, .ref a1)] []
  refine wa_aload_n B dX4_noteReading_0 rfl 1 rfl ?_
  refine wa_dup B dX4_noteReading_1 rfl ?_
  refine wa_getI B (C := RX5) (T := TX5) (N := 7) iq_X4_noteReading_X5 ha1 ka1 (by decide) rfl 5 (by decide) (by decide) (by decide +kernel) rfl (by decide) (v := (q.1 a1 5)) rfl dX4_noteReading_2 ?_
  refine wa_iconst B 1 dX4_noteReading_5 (by decide) ?_
  refine wa_iadd B dX4_noteReading_6 (fun v_1 ev_1 => ?_)
  refine wa_putI B (C := RX5) (T := TX5) (N := 7) iq_X4_noteReading_X5 ha1 ka1 (by decide) rfl 5 (by decide) (by decide) (by decide +kernel) rfl (by decide) (v := v_1) (ty := .int) tyX5 tyX5_ok nmX5 rfl (by decide +kernel) rfl rfl dX4_noteReading_7 (fun q_2 eq_2 => ?_)
  have hV_q_2 : sx_V h L q_2 := by rw [eq_2]; exact hV.pI ka1 trivial
  have hF_q_2 : sx_fr h L (fun a => a = a1 ∧ h.1 a = 5 ∨ h.1 a = 1 ∨ h.1 a = 2) q q_2 := hF.tr (by rw [eq_2]; exact sx_fr.pI (show a1 = a1 ∧ h.1 a1 = 5 ∨ h.1 a1 = 1 ∨ h.1 a1 = 2 from by omega))
  have z_3 : q_2.1 a1 5 = v_1 := by rw [eq_2]; exact sg_pI_e
  refine wa_iconst B 0 dX4_noteReading_10 (by decide) ?_
  refine wa_istore_n B [(2, .int 0), (0, .ref a0), (1, .ref a1)] dX4_noteReading_11 rfl (by decide) rfl ?_
  refine wa_iconst B (-1) dX4_noteReading_12 (by decide) ?_
  refine wa_istore_n B [(3, .int (-1)), (2, .int 0), (0, .ref a0), (1, .ref a1)] dX4_noteReading_13 rfl (by decide) rfl ?_
  refine wa_iconst B 0 dX4_noteReading_14 (by decide) ?_
  refine wa_istore B [(4, .int 0), (3, .int (-1)), (2, .int 0), (0, .ref a0), (1, .ref a1)] dX4_noteReading_15 (by decide) rfl ?_
  have Lp_17_11 : ∀ (n : Nat) (v_4 : Int32) (v_5 : Int32) (v_6 : Int32) (q_7 : Sg), sx_V h L q_7 → sx_fr h L (fun a => a = a1 ∧ h.1 a = 5 ∨ h.1 a = 1 ∨ h.1 a = 2) q q_7 → q_7.1 a1 5 = v_1 → 0 ≤ v_4.toInt → (-1) ≤ v_5.toInt → v_5.toInt ≤ 11 → ((q_7.1 a1 3).toInt - v_4.toInt : Int).toNat < n → WA l dC dI h L ({ frames := 2, cells := 0, slots := 0, locals := 38 } : Room) 6 Z q_7 17 [(4, .int v_4), (3, .int v_5), (2, .int v_6), (0, .ref a0), (1, .ref a1)] [] := by
    intro n
    induction n with
    | zero =>
      intro v_4 v_5 v_6 q_7 hV_q_7 hF_q_7 p0_q_7 x_8 x_9 x_10 hn
      exact absurd hn (Nat.not_lt_zero _)
    | succ n ih_12 =>
      intro v_4 v_5 v_6 q_7 hV_q_7 hF_q_7 p0_q_7 x_8 x_9 x_10 hn
      refine wa_iload B dX4_noteReading_17 0 rfl ?_
      refine wa_aload_n B dX4_noteReading_19 rfl 4 rfl ?_
      refine wa_getI B (C := RX5) (T := TX5) (N := 7) iq_X4_noteReading_X5 ha1 ka1 (by decide) rfl 3 (by decide) (by decide) (by decide +kernel) rfl (by decide) (v := (q_7.1 a1 3)) rfl dX4_noteReading_20 ?_
      have g_13 : (0 : Int) ≤ (q_7.1 a1 3).toInt ∧ (q_7.1 a1 3).toInt ≤ 4 := hV_q_7.int ha1 ka1 3
      refine wa_icmp_ge B 131 dX4_noteReading_23 (by decide) (fun (t_14 : (q_7.1 a1 3).toInt ≤ v_4.toInt) => ?_) (fun (t_14 : ¬ (q_7.1 a1 3).toInt ≤ v_4.toInt) => ?_)
      · exact hret _ _ _ dX4_noteReading_131 ⟨hV_q_7, hF_q_7⟩
      · refine wa_aload_n B dX4_noteReading_26 rfl 4 rfl ?_
        obtain ⟨a_15, ea_15, ha_15, ka_15, la_15⟩ := hV_q_7.refn (n := 4) (t := 402) ha1 ka1 1 rfl (by decide) rfl (by decide)
        refine wa_getR B (C := RX5) (T := TX5) (N := 7) iq_X4_noteReading_X5 ha1 ka1 (by decide) rfl 1 (by decide) (by decide) (by decide +kernel) rfl (fun _ _ _ => rfl) (v := a_15) ea_15 dX4_noteReading_27 ?_
        refine wa_iload B dX4_noteReading_30 0 rfl ?_
        obtain ⟨a_16, ea_16, ha_16, ka_16⟩ := hV_q_7.elem (t := 1) ha_15 ka_15 (by decide) rfl (zx_ix (i := v_4) (show 0 ≤ v_4.toInt by omega) (show v_4.toInt < (h.2.1 a_15 : Int) by omega))
        refine wa_aaload B (t0 := 5) ha_15 ka_15 (by decide) rfl (show 0 ≤ v_4.toInt by omega) (show v_4.toInt < (h.2.1 a_15 : Int) by omega) (v := a_16) ea_16 dX4_noteReading_32 ?_
        refine wa_astore B [(5, .ref a_16), (4, .int v_4), (3, .int v_5), (2, .int v_6), (0, .ref a0), (1, .ref a1)] dX4_noteReading_33 (by decide) rfl ?_
        refine wa_aload B dX4_noteReading_35 0 rfl ?_
        refine wa_aload_n B dX4_noteReading_37 rfl 4 rfl ?_
        obtain ⟨a_17, ea_17, ha_17, ka_17, la_17⟩ := hV_q_7.refn (n := 4) (t := 100) ha0 ka0 5 rfl (by decide) rfl (by decide)
        refine wa_getR B (C := RX4) (T := TX4) (N := 7) iq_X4_noteReading_X4 ha0 ka0 (by decide) rfl 5 (by decide) (by decide) (by decide +kernel) rfl (fun _ _ _ => rfl) (v := a_17) ea_17 dX4_noteReading_38 ?_
        refine wa_iload B dX4_noteReading_41 1 rfl ?_
        refine wa_iaload B ha_17 ka_17 (by decide) (by decide) (show 0 ≤ v_4.toInt by omega) (show v_4.toInt < (h.2.1 a_17 : Int) by omega) (v := (q_7.2.2.2.1 a_17 (v_4 : Int32).toNatClampNeg)) rfl dX4_noteReading_43 ?_
        refine wa_callVv B (x := (RX1, TX1, 7)) (As := [.int ((q_7.2.2.2.1 a_17 (v_4 : Int32).toNatClampNeg))]) (rest := []) (k_X1_noteDigit l dC dI h L hN q_7 hV_q_7 (a0 := a_16) ha_16 ka_16 ((q_7.2.2.2.1 a_17 (v_4 : Int32).toNatClampNeg))  ) (cwV 1 B.1.2.2.2.2 gX4_noteReading_X1_noteDigit rfl rfl rfl (by decide +kernel) ⟨Nat.le_of_ble_eq_true rfl, Nat.le_of_ble_eq_true rfl⟩) ha_16 ka_16 (by decide) rfl rfl rfl (Nat.le_of_ble_eq_true rfl) dX4_noteReading_44 (fun q_18 w_19 => ?_)
        obtain ⟨hV_q_18, h2_q_18⟩ := w_19
        have hF_q_18 : sx_fr h L (fun a => a = a1 ∧ h.1 a = 5 ∨ h.1 a = 1 ∨ h.1 a = 2) q q_18 := hF_q_7.tr (h2_q_18.mono (fun a (z : a = a_16 ∧ h.1 a = 1) => (show a = a1 ∧ h.1 a = 5 ∨ h.1 a = 1 ∨ h.1 a = 2 from by omega)))
        refine wa_aload B dX4_noteReading_47 0 rfl ?_
        refine wa_getI B (C := RX1) (T := TX1) (N := 7) iq_X4_noteReading_X1 ha_16 ka_16 (by decide) rfl 0 (by decide) (by decide) (by decide +kernel) rfl (by decide) (v := (q_18.1 a_16 0)) rfl dX4_noteReading_49 ?_
        have g_20 : (0 : Int) ≤ (q_18.1 a_16 0).toInt ∧ (q_18.1 a_16 0).toInt ≤ 11 := hV_q_18.int ha_16 ka_16 0
        refine wa_iload_n B dX4_noteReading_52 rfl 2 rfl ?_
        refine wa_icmp_eq B 72 dX4_noteReading_53 (by decide) (fun (t_21 : (q_18.1 a_16 0).toInt = v_5.toInt) => ?_) (fun (t_21 : ¬ (q_18.1 a_16 0).toInt = v_5.toInt) => ?_)
        · refine wa_iload_n B dX4_noteReading_72 rfl 3 rfl ?_
          refine wa_aload_n B dX4_noteReading_73 rfl 4 rfl ?_
          have z_22 : q_18.2.2.1 a0 5 = a_17 := (h2_q_18.R ha0 (show ¬ ((a0 = a_16 ∧ h.1 a0 = 1) ∧ (h.1 a0 = 8 ∨ h.1 a0 = 11)) from by omega) 5).trans (ea_17)
          refine wa_getR B (C := RX4) (T := TX4) (N := 7) iq_X4_noteReading_X4 ha0 ka0 (by decide) rfl 5 (by decide) (by decide) (by decide +kernel) rfl (fun _ _ _ => rfl) (v := a_17) z_22 dX4_noteReading_74 ?_
          refine wa_iload B dX4_noteReading_77 1 rfl ?_
          refine wa_iaload B ha_17 ka_17 (by decide) (by decide) (show 0 ≤ v_4.toInt by omega) (show v_4.toInt < (h.2.1 a_17 : Int) by omega) (v := (q_18.2.2.2.1 a_17 (v_4 : Int32).toNatClampNeg)) rfl dX4_noteReading_79 ?_
          refine wa_aload B dX4_noteReading_80 0 rfl ?_
          refine wa_getI B (C := RX1) (T := TX1) (N := 7) iq_X4_noteReading_X1 ha_16 ka_16 (by decide) rfl 2 (by decide) (by decide) (by decide +kernel) rfl (by decide) (v := (q_18.1 a_16 2)) rfl dX4_noteReading_82 ?_
          refine wa_imul B dX4_noteReading_85 (fun v_23 ev_23 => ?_)
          refine wa_iadd B dX4_noteReading_86 (fun v_24 ev_24 => ?_)
          refine wa_istore_n B [(2, .int v_24), (5, .ref a_16), (4, .int v_4), (3, .int v_5), (0, .ref a0), (1, .ref a1)] dX4_noteReading_87 rfl (by decide) rfl ?_
          refine wa_iload B dX4_noteReading_88 2 rfl ?_
          refine wa_iconst B 1 dX4_noteReading_90 (by decide) ?_
          refine wa_iadd B dX4_noteReading_91 (fun v_25 ev_25 => ?_)
          refine wa_aload_n B dX4_noteReading_92 rfl 5 rfl ?_
          have z_26 : q_18.1 a1 3 = q_7.1 a1 3 := h2_q_18.I ha1 (show ¬ (a1 = a_16 ∧ h.1 a1 = 1) from by omega) 3
          refine wa_getI B (C := RX5) (T := TX5) (N := 7) iq_X4_noteReading_X5 ha1 ka1 (by decide) rfl 3 (by decide) (by decide) (by decide +kernel) rfl (by decide) (v := (q_7.1 a1 3)) z_26 dX4_noteReading_93 ?_
          have tv_25 : v_25.toInt = v_4.toInt + 1 := by have b0 := zx_bd v_4; rw [ev_25]; exact zx_add (show (-2147483648 : Int) ≤ v_4.toInt + 1 by omega) (show v_4.toInt + 1 < (2147483648 : Int) by omega)
          refine wa_icmp_ge B 115 dX4_noteReading_96 (by decide) (fun (t_27 : (q_7.1 a1 3).toInt ≤ v_25.toInt) => ?_) (fun (t_27 : ¬ (q_7.1 a1 3).toInt ≤ v_25.toInt) => ?_)
          · refine wa_aload_n B dX4_noteReading_115 rfl 5 rfl ?_
            obtain ⟨a_28, ea_28, ha_28, ka_28, la_28⟩ := hV_q_18.refn (n := 12) (t := 401) ha1 ka1 0 rfl (by decide) rfl (by decide)
            refine wa_getR B (C := RX5) (T := TX5) (N := 7) iq_X4_noteReading_X5 ha1 ka1 (by decide) rfl 0 (by decide) (by decide) (by decide +kernel) rfl (fun _ _ _ => rfl) (v := a_28) ea_28 dX4_noteReading_116 ?_
            refine wa_iload_n B dX4_noteReading_119 rfl 3 rfl ?_
            obtain ⟨a_29, ea_29, ha_29, ka_29⟩ := hV_q_18.elem (t := 2) ha_28 ka_28 (by decide) rfl (zx_ix (i := v_5) (show 0 ≤ v_5.toInt by omega) (show v_5.toInt < (h.2.1 a_28 : Int) by omega))
            refine wa_aaload B (t0 := 4) ha_28 ka_28 (by decide) rfl (show 0 ≤ v_5.toInt by omega) (show v_5.toInt < (h.2.1 a_28 : Int) by omega) (v := a_29) ea_29 dX4_noteReading_120 ?_
            refine wa_iload_n B dX4_noteReading_121 rfl 0 rfl ?_
            refine wa_callVv B (x := (RX2, TX2, 6)) (As := [.int v_24]) (rest := []) (k_X2_noteValue l dC dI h L hN q_18 hV_q_18 (a0 := a_29) ha_29 ka_29 v_24  ) (cwV 1 B.1.2.2.2.2 gX4_noteReading_X2_noteValue rfl rfl rfl (by decide +kernel) ⟨Nat.le_of_ble_eq_true rfl, Nat.le_of_ble_eq_true rfl⟩) ha_29 ka_29 (by decide) rfl rfl rfl (Nat.le_of_ble_eq_true rfl) dX4_noteReading_122 (fun q_30 w_31 => ?_)
            obtain ⟨hV_q_30, h2_q_30⟩ := w_31
            have hF_q_30 : sx_fr h L (fun a => a = a1 ∧ h.1 a = 5 ∨ h.1 a = 1 ∨ h.1 a = 2) q q_30 := hF_q_18.tr (h2_q_30.mono (fun a (z : a = a_29 ∧ h.1 a = 2) => (show a = a1 ∧ h.1 a = 5 ∨ h.1 a = 1 ∨ h.1 a = 2 from by omega)))
            obtain ⟨v_32, ev_32⟩ : ∃ z : Int32, z = v_4 + 1 := ⟨_, rfl⟩
            refine wa_iinc B [(4, .int v_32), (2, .int v_24), (5, .ref a_16), (3, .int v_5), (0, .ref a0), (1, .ref a1)] v_32 dX4_noteReading_125 2 rfl (by rw [ev_32]; rfl) (by decide) rfl ?_
            refine wa_goto B 17 dX4_noteReading_128 (by decide) ?_
            have tv_32 : v_32.toInt = v_4.toInt + 1 := by have b0 := zx_bd v_4; rw [ev_32]; exact zx_add (show (-2147483648 : Int) ≤ v_4.toInt + 1 by omega) (show v_4.toInt + 1 < (2147483648 : Int) by omega)
            have z_33 : q_30.1 a1 3 = (q_7.1 a1 3) := (h2_q_30.I ha1 (show ¬ (a1 = a_29 ∧ h.1 a1 = 2) from by omega) 3).trans (z_26)
            have y_34 : (q_30.1 a1 3).toInt = (q_7.1 a1 3).toInt := by rw [z_33]
            have z_35 : q_30.1 a1 5 = v_1 := (h2_q_30.I ha1 (show ¬ (a1 = a_29 ∧ h.1 a1 = 2) from by omega) 5).trans ((h2_q_18.I ha1 (show ¬ (a1 = a_16 ∧ h.1 a1 = 1) from by omega) 5).trans (p0_q_7))
            refine WA.sub [0, 3, 1, 4, 5] rfl ?_
            exact ih_12 v_32 v_5 v_24 q_30 hV_q_30 hF_q_30 z_35 (show 0 ≤ v_32.toInt from by first | assumption | omega | decide) (show (-1) ≤ v_5.toInt from by first | assumption | omega | decide) (show v_5.toInt ≤ 11 from by first | assumption | omega | decide) (show ((q_30.1 a1 3).toInt - v_32.toInt : Int).toNat < _ from by omega)
          · refine wa_aload_n B dX4_noteReading_99 rfl 5 rfl ?_
            have z_36 : q_18.2.2.1 a1 1 = a_15 := (h2_q_18.R ha1 (show ¬ ((a1 = a_16 ∧ h.1 a1 = 1) ∧ (h.1 a1 = 8 ∨ h.1 a1 = 11)) from by omega) 1).trans (ea_15)
            refine wa_getR B (C := RX5) (T := TX5) (N := 7) iq_X4_noteReading_X5 ha1 ka1 (by decide) rfl 1 (by decide) (by decide) (by decide +kernel) rfl (fun _ _ _ => rfl) (v := a_15) z_36 dX4_noteReading_100 ?_
            refine wa_iload B dX4_noteReading_103 2 rfl ?_
            refine wa_iconst B 1 dX4_noteReading_105 (by decide) ?_
            refine wa_iadd B dX4_noteReading_106 (fun v_37 ev_37 => ?_)
            have tv_37 : v_37.toInt = v_4.toInt + 1 := by have b0 := zx_bd v_4; rw [ev_37]; exact zx_add (show (-2147483648 : Int) ≤ v_4.toInt + 1 by omega) (show v_4.toInt + 1 < (2147483648 : Int) by omega)
            obtain ⟨a_38, ea_38, ha_38, ka_38⟩ := hV_q_18.elem (t := 1) ha_15 ka_15 (by decide) rfl (zx_ix (i := v_37) (show 0 ≤ v_37.toInt by omega) (show v_37.toInt < (h.2.1 a_15 : Int) by omega))
            refine wa_aaload B (t0 := 5) ha_15 ka_15 (by decide) rfl (show 0 ≤ v_37.toInt by omega) (show v_37.toInt < (h.2.1 a_15 : Int) by omega) (v := a_38) ea_38 dX4_noteReading_107 ?_
            refine wa_getI B (C := RX1) (T := TX1) (N := 7) iq_X4_noteReading_X1 ha_38 ka_38 (by decide) rfl 0 (by decide) (by decide) (by decide +kernel) rfl (by decide) (v := (q_18.1 a_38 0)) rfl dX4_noteReading_108 ?_
            have g_39 : (0 : Int) ≤ (q_18.1 a_38 0).toInt ∧ (q_18.1 a_38 0).toInt ≤ 11 := hV_q_18.int ha_38 ka_38 0
            refine wa_iload_n B dX4_noteReading_111 rfl 3 rfl ?_
            refine wa_icmp_eq B 125 dX4_noteReading_112 (by decide) (fun (t_40 : (q_18.1 a_38 0).toInt = v_5.toInt) => ?_) (fun (t_40 : ¬ (q_18.1 a_38 0).toInt = v_5.toInt) => ?_)
            · obtain ⟨v_41, ev_41⟩ : ∃ z : Int32, z = v_4 + 1 := ⟨_, rfl⟩
              refine wa_iinc B [(4, .int v_41), (2, .int v_24), (5, .ref a_16), (3, .int v_5), (0, .ref a0), (1, .ref a1)] v_41 dX4_noteReading_125 2 rfl (by rw [ev_41]; rfl) (by decide) rfl ?_
              refine wa_goto B 17 dX4_noteReading_128 (by decide) ?_
              have tv_41 : v_41.toInt = v_4.toInt + 1 := by have b0 := zx_bd v_4; rw [ev_41]; exact zx_add (show (-2147483648 : Int) ≤ v_4.toInt + 1 by omega) (show v_4.toInt + 1 < (2147483648 : Int) by omega)
              have y_42 : (q_18.1 a1 3).toInt = (q_7.1 a1 3).toInt := by rw [z_26]
              have z_43 : q_18.1 a1 5 = v_1 := (h2_q_18.I ha1 (show ¬ (a1 = a_16 ∧ h.1 a1 = 1) from by omega) 5).trans (p0_q_7)
              refine WA.sub [0, 3, 1, 4, 5] rfl ?_
              exact ih_12 v_41 v_5 v_24 q_18 hV_q_18 hF_q_18 z_43 (show 0 ≤ v_41.toInt from by first | assumption | omega | decide) (show (-1) ≤ v_5.toInt from by first | assumption | omega | decide) (show v_5.toInt ≤ 11 from by first | assumption | omega | decide) (show ((q_18.1 a1 3).toInt - v_41.toInt : Int).toNat < _ from by omega)
            · refine wa_aload_n B dX4_noteReading_115 rfl 5 rfl ?_
              obtain ⟨a_44, ea_44, ha_44, ka_44, la_44⟩ := hV_q_18.refn (n := 12) (t := 401) ha1 ka1 0 rfl (by decide) rfl (by decide)
              refine wa_getR B (C := RX5) (T := TX5) (N := 7) iq_X4_noteReading_X5 ha1 ka1 (by decide) rfl 0 (by decide) (by decide) (by decide +kernel) rfl (fun _ _ _ => rfl) (v := a_44) ea_44 dX4_noteReading_116 ?_
              refine wa_iload_n B dX4_noteReading_119 rfl 3 rfl ?_
              obtain ⟨a_45, ea_45, ha_45, ka_45⟩ := hV_q_18.elem (t := 2) ha_44 ka_44 (by decide) rfl (zx_ix (i := v_5) (show 0 ≤ v_5.toInt by omega) (show v_5.toInt < (h.2.1 a_44 : Int) by omega))
              refine wa_aaload B (t0 := 4) ha_44 ka_44 (by decide) rfl (show 0 ≤ v_5.toInt by omega) (show v_5.toInt < (h.2.1 a_44 : Int) by omega) (v := a_45) ea_45 dX4_noteReading_120 ?_
              refine wa_iload_n B dX4_noteReading_121 rfl 0 rfl ?_
              refine wa_callVv B (x := (RX2, TX2, 6)) (As := [.int v_24]) (rest := []) (k_X2_noteValue l dC dI h L hN q_18 hV_q_18 (a0 := a_45) ha_45 ka_45 v_24  ) (cwV 1 B.1.2.2.2.2 gX4_noteReading_X2_noteValue rfl rfl rfl (by decide +kernel) ⟨Nat.le_of_ble_eq_true rfl, Nat.le_of_ble_eq_true rfl⟩) ha_45 ka_45 (by decide) rfl rfl rfl (Nat.le_of_ble_eq_true rfl) dX4_noteReading_122 (fun q_46 w_47 => ?_)
              obtain ⟨hV_q_46, h2_q_46⟩ := w_47
              have hF_q_46 : sx_fr h L (fun a => a = a1 ∧ h.1 a = 5 ∨ h.1 a = 1 ∨ h.1 a = 2) q q_46 := hF_q_18.tr (h2_q_46.mono (fun a (z : a = a_45 ∧ h.1 a = 2) => (show a = a1 ∧ h.1 a = 5 ∨ h.1 a = 1 ∨ h.1 a = 2 from by omega)))
              obtain ⟨v_48, ev_48⟩ : ∃ z : Int32, z = v_4 + 1 := ⟨_, rfl⟩
              refine wa_iinc B [(4, .int v_48), (2, .int v_24), (5, .ref a_16), (3, .int v_5), (0, .ref a0), (1, .ref a1)] v_48 dX4_noteReading_125 2 rfl (by rw [ev_48]; rfl) (by decide) rfl ?_
              refine wa_goto B 17 dX4_noteReading_128 (by decide) ?_
              have tv_48 : v_48.toInt = v_4.toInt + 1 := by have b0 := zx_bd v_4; rw [ev_48]; exact zx_add (show (-2147483648 : Int) ≤ v_4.toInt + 1 by omega) (show v_4.toInt + 1 < (2147483648 : Int) by omega)
              have z_49 : q_46.1 a1 3 = (q_7.1 a1 3) := (h2_q_46.I ha1 (show ¬ (a1 = a_45 ∧ h.1 a1 = 2) from by omega) 3).trans (z_26)
              have y_50 : (q_46.1 a1 3).toInt = (q_7.1 a1 3).toInt := by rw [z_49]
              have z_51 : q_46.1 a1 5 = v_1 := (h2_q_46.I ha1 (show ¬ (a1 = a_45 ∧ h.1 a1 = 2) from by omega) 5).trans ((h2_q_18.I ha1 (show ¬ (a1 = a_16 ∧ h.1 a1 = 1) from by omega) 5).trans (p0_q_7))
              refine WA.sub [0, 3, 1, 4, 5] rfl ?_
              exact ih_12 v_48 v_5 v_24 q_46 hV_q_46 hF_q_46 z_51 (show 0 ≤ v_48.toInt from by first | assumption | omega | decide) (show (-1) ≤ v_5.toInt from by first | assumption | omega | decide) (show v_5.toInt ≤ 11 from by first | assumption | omega | decide) (show ((q_46.1 a1 3).toInt - v_48.toInt : Int).toNat < _ from by omega)
        · refine wa_aload B dX4_noteReading_56 0 rfl ?_
          refine wa_getI B (C := RX1) (T := TX1) (N := 7) iq_X4_noteReading_X1 ha_16 ka_16 (by decide) rfl 0 (by decide) (by decide) (by decide +kernel) rfl (by decide) (v := (q_18.1 a_16 0)) rfl dX4_noteReading_58 ?_
          refine wa_istore_n B [(3, .int (q_18.1 a_16 0)), (5, .ref a_16), (4, .int v_4), (2, .int v_6), (0, .ref a0), (1, .ref a1)] dX4_noteReading_61 rfl (by decide) rfl ?_
          refine wa_aload_n B dX4_noteReading_62 rfl 5 rfl ?_
          obtain ⟨a_52, ea_52, ha_52, ka_52, la_52⟩ := hV_q_18.refn (n := 12) (t := 401) ha1 ka1 0 rfl (by decide) rfl (by decide)
          refine wa_getR B (C := RX5) (T := TX5) (N := 7) iq_X4_noteReading_X5 ha1 ka1 (by decide) rfl 0 (by decide) (by decide) (by decide +kernel) rfl (fun _ _ _ => rfl) (v := a_52) ea_52 dX4_noteReading_63 ?_
          refine wa_iload_n B dX4_noteReading_66 rfl 0 rfl ?_
          obtain ⟨a_53, ea_53, ha_53, ka_53⟩ := hV_q_18.elem (t := 2) ha_52 ka_52 (by decide) rfl (zx_ix (i := (q_18.1 a_16 0)) (show 0 ≤ (q_18.1 a_16 0).toInt by omega) (show (q_18.1 a_16 0).toInt < (h.2.1 a_52 : Int) by omega))
          refine wa_aaload B (t0 := 4) ha_52 ka_52 (by decide) rfl (show 0 ≤ (q_18.1 a_16 0).toInt by omega) (show (q_18.1 a_16 0).toInt < (h.2.1 a_52 : Int) by omega) (v := a_53) ea_53 dX4_noteReading_67 ?_
          refine wa_getI B (C := RX2) (T := TX2) (N := 6) iq_X4_noteReading_X2 ha_53 ka_53 (by decide) rfl 3 (by decide) (by decide) (by decide +kernel) rfl (by decide) (v := (q_18.1 a_53 3)) rfl dX4_noteReading_68 ?_
          refine wa_istore_n B [(2, .int (q_18.1 a_53 3)), (3, .int (q_18.1 a_16 0)), (5, .ref a_16), (4, .int v_4), (0, .ref a0), (1, .ref a1)] dX4_noteReading_71 rfl (by decide) rfl ?_
          refine wa_iload_n B dX4_noteReading_72 rfl 0 rfl ?_
          refine wa_aload_n B dX4_noteReading_73 rfl 4 rfl ?_
          have z_54 : q_18.2.2.1 a0 5 = a_17 := (h2_q_18.R ha0 (show ¬ ((a0 = a_16 ∧ h.1 a0 = 1) ∧ (h.1 a0 = 8 ∨ h.1 a0 = 11)) from by omega) 5).trans (ea_17)
          refine wa_getR B (C := RX4) (T := TX4) (N := 7) iq_X4_noteReading_X4 ha0 ka0 (by decide) rfl 5 (by decide) (by decide) (by decide +kernel) rfl (fun _ _ _ => rfl) (v := a_17) z_54 dX4_noteReading_74 ?_
          refine wa_iload B dX4_noteReading_77 3 rfl ?_
          refine wa_iaload B ha_17 ka_17 (by decide) (by decide) (show 0 ≤ v_4.toInt by omega) (show v_4.toInt < (h.2.1 a_17 : Int) by omega) (v := (q_18.2.2.2.1 a_17 (v_4 : Int32).toNatClampNeg)) rfl dX4_noteReading_79 ?_
          refine wa_aload B dX4_noteReading_80 2 rfl ?_
          refine wa_getI B (C := RX1) (T := TX1) (N := 7) iq_X4_noteReading_X1 ha_16 ka_16 (by decide) rfl 2 (by decide) (by decide) (by decide +kernel) rfl (by decide) (v := (q_18.1 a_16 2)) rfl dX4_noteReading_82 ?_
          refine wa_imul B dX4_noteReading_85 (fun v_55 ev_55 => ?_)
          refine wa_iadd B dX4_noteReading_86 (fun v_56 ev_56 => ?_)
          refine wa_istore_n B [(2, .int v_56), (3, .int (q_18.1 a_16 0)), (5, .ref a_16), (4, .int v_4), (0, .ref a0), (1, .ref a1)] dX4_noteReading_87 rfl (by decide) rfl ?_
          refine wa_iload B dX4_noteReading_88 3 rfl ?_
          refine wa_iconst B 1 dX4_noteReading_90 (by decide) ?_
          refine wa_iadd B dX4_noteReading_91 (fun v_57 ev_57 => ?_)
          refine wa_aload_n B dX4_noteReading_92 rfl 5 rfl ?_
          have z_58 : q_18.1 a1 3 = q_7.1 a1 3 := h2_q_18.I ha1 (show ¬ (a1 = a_16 ∧ h.1 a1 = 1) from by omega) 3
          refine wa_getI B (C := RX5) (T := TX5) (N := 7) iq_X4_noteReading_X5 ha1 ka1 (by decide) rfl 3 (by decide) (by decide) (by decide +kernel) rfl (by decide) (v := (q_7.1 a1 3)) z_58 dX4_noteReading_93 ?_
          have tv_57 : v_57.toInt = v_4.toInt + 1 := by have b0 := zx_bd v_4; rw [ev_57]; exact zx_add (show (-2147483648 : Int) ≤ v_4.toInt + 1 by omega) (show v_4.toInt + 1 < (2147483648 : Int) by omega)
          refine wa_icmp_ge B 115 dX4_noteReading_96 (by decide) (fun (t_59 : (q_7.1 a1 3).toInt ≤ v_57.toInt) => ?_) (fun (t_59 : ¬ (q_7.1 a1 3).toInt ≤ v_57.toInt) => ?_)
          · refine wa_aload_n B dX4_noteReading_115 rfl 5 rfl ?_
            refine wa_getR B (C := RX5) (T := TX5) (N := 7) iq_X4_noteReading_X5 ha1 ka1 (by decide) rfl 0 (by decide) (by decide) (by decide +kernel) rfl (fun _ _ _ => rfl) (v := a_52) ea_52 dX4_noteReading_116 ?_
            refine wa_iload_n B dX4_noteReading_119 rfl 1 rfl ?_
            refine wa_aaload B (t0 := 4) ha_52 ka_52 (by decide) rfl (show 0 ≤ (q_18.1 a_16 0).toInt by omega) (show (q_18.1 a_16 0).toInt < (h.2.1 a_52 : Int) by omega) (v := a_53) ea_53 dX4_noteReading_120 ?_
            refine wa_iload_n B dX4_noteReading_121 rfl 0 rfl ?_
            refine wa_callVv B (x := (RX2, TX2, 6)) (As := [.int v_56]) (rest := []) (k_X2_noteValue l dC dI h L hN q_18 hV_q_18 (a0 := a_53) ha_53 ka_53 v_56  ) (cwV 1 B.1.2.2.2.2 gX4_noteReading_X2_noteValue rfl rfl rfl (by decide +kernel) ⟨Nat.le_of_ble_eq_true rfl, Nat.le_of_ble_eq_true rfl⟩) ha_53 ka_53 (by decide) rfl rfl rfl (Nat.le_of_ble_eq_true rfl) dX4_noteReading_122 (fun q_60 w_61 => ?_)
            obtain ⟨hV_q_60, h2_q_60⟩ := w_61
            have hF_q_60 : sx_fr h L (fun a => a = a1 ∧ h.1 a = 5 ∨ h.1 a = 1 ∨ h.1 a = 2) q q_60 := hF_q_18.tr (h2_q_60.mono (fun a (z : a = a_53 ∧ h.1 a = 2) => (show a = a1 ∧ h.1 a = 5 ∨ h.1 a = 1 ∨ h.1 a = 2 from by omega)))
            obtain ⟨v_62, ev_62⟩ : ∃ z : Int32, z = v_4 + 1 := ⟨_, rfl⟩
            refine wa_iinc B [(4, .int v_62), (2, .int v_56), (3, .int (q_18.1 a_16 0)), (5, .ref a_16), (0, .ref a0), (1, .ref a1)] v_62 dX4_noteReading_125 3 rfl (by rw [ev_62]; rfl) (by decide) rfl ?_
            refine wa_goto B 17 dX4_noteReading_128 (by decide) ?_
            have tv_62 : v_62.toInt = v_4.toInt + 1 := by have b0 := zx_bd v_4; rw [ev_62]; exact zx_add (show (-2147483648 : Int) ≤ v_4.toInt + 1 by omega) (show v_4.toInt + 1 < (2147483648 : Int) by omega)
            have z_63 : q_60.1 a1 3 = (q_7.1 a1 3) := (h2_q_60.I ha1 (show ¬ (a1 = a_53 ∧ h.1 a1 = 2) from by omega) 3).trans (z_58)
            have y_64 : (q_60.1 a1 3).toInt = (q_7.1 a1 3).toInt := by rw [z_63]
            have z_65 : q_60.1 a1 5 = v_1 := (h2_q_60.I ha1 (show ¬ (a1 = a_53 ∧ h.1 a1 = 2) from by omega) 5).trans ((h2_q_18.I ha1 (show ¬ (a1 = a_16 ∧ h.1 a1 = 1) from by omega) 5).trans (p0_q_7))
            refine WA.sub [0, 2, 1, 4, 5] rfl ?_
            exact ih_12 v_62 (q_18.1 a_16 0) v_56 q_60 hV_q_60 hF_q_60 z_65 (show 0 ≤ v_62.toInt from by first | assumption | omega | decide) (show (-1) ≤ (q_18.1 a_16 0).toInt from by first | assumption | omega | decide) (show (q_18.1 a_16 0).toInt ≤ 11 from by first | assumption | omega | decide) (show ((q_60.1 a1 3).toInt - v_62.toInt : Int).toNat < _ from by omega)
          · refine wa_aload_n B dX4_noteReading_99 rfl 5 rfl ?_
            have z_66 : q_18.2.2.1 a1 1 = a_15 := (h2_q_18.R ha1 (show ¬ ((a1 = a_16 ∧ h.1 a1 = 1) ∧ (h.1 a1 = 8 ∨ h.1 a1 = 11)) from by omega) 1).trans (ea_15)
            refine wa_getR B (C := RX5) (T := TX5) (N := 7) iq_X4_noteReading_X5 ha1 ka1 (by decide) rfl 1 (by decide) (by decide) (by decide +kernel) rfl (fun _ _ _ => rfl) (v := a_15) z_66 dX4_noteReading_100 ?_
            refine wa_iload B dX4_noteReading_103 3 rfl ?_
            refine wa_iconst B 1 dX4_noteReading_105 (by decide) ?_
            refine wa_iadd B dX4_noteReading_106 (fun v_67 ev_67 => ?_)
            have tv_67 : v_67.toInt = v_4.toInt + 1 := by have b0 := zx_bd v_4; rw [ev_67]; exact zx_add (show (-2147483648 : Int) ≤ v_4.toInt + 1 by omega) (show v_4.toInt + 1 < (2147483648 : Int) by omega)
            obtain ⟨a_68, ea_68, ha_68, ka_68⟩ := hV_q_18.elem (t := 1) ha_15 ka_15 (by decide) rfl (zx_ix (i := v_67) (show 0 ≤ v_67.toInt by omega) (show v_67.toInt < (h.2.1 a_15 : Int) by omega))
            refine wa_aaload B (t0 := 5) ha_15 ka_15 (by decide) rfl (show 0 ≤ v_67.toInt by omega) (show v_67.toInt < (h.2.1 a_15 : Int) by omega) (v := a_68) ea_68 dX4_noteReading_107 ?_
            refine wa_getI B (C := RX1) (T := TX1) (N := 7) iq_X4_noteReading_X1 ha_68 ka_68 (by decide) rfl 0 (by decide) (by decide) (by decide +kernel) rfl (by decide) (v := (q_18.1 a_68 0)) rfl dX4_noteReading_108 ?_
            have g_69 : (0 : Int) ≤ (q_18.1 a_68 0).toInt ∧ (q_18.1 a_68 0).toInt ≤ 11 := hV_q_18.int ha_68 ka_68 0
            refine wa_iload_n B dX4_noteReading_111 rfl 1 rfl ?_
            refine wa_icmp_eq B 125 dX4_noteReading_112 (by decide) (fun (t_70 : (q_18.1 a_68 0).toInt = (q_18.1 a_16 0).toInt) => ?_) (fun (t_70 : ¬ (q_18.1 a_68 0).toInt = (q_18.1 a_16 0).toInt) => ?_)
            · obtain ⟨v_71, ev_71⟩ : ∃ z : Int32, z = v_4 + 1 := ⟨_, rfl⟩
              refine wa_iinc B [(4, .int v_71), (2, .int v_56), (3, .int (q_18.1 a_16 0)), (5, .ref a_16), (0, .ref a0), (1, .ref a1)] v_71 dX4_noteReading_125 3 rfl (by rw [ev_71]; rfl) (by decide) rfl ?_
              refine wa_goto B 17 dX4_noteReading_128 (by decide) ?_
              have tv_71 : v_71.toInt = v_4.toInt + 1 := by have b0 := zx_bd v_4; rw [ev_71]; exact zx_add (show (-2147483648 : Int) ≤ v_4.toInt + 1 by omega) (show v_4.toInt + 1 < (2147483648 : Int) by omega)
              have y_72 : (q_18.1 a1 3).toInt = (q_7.1 a1 3).toInt := by rw [z_58]
              have z_73 : q_18.1 a1 5 = v_1 := (h2_q_18.I ha1 (show ¬ (a1 = a_16 ∧ h.1 a1 = 1) from by omega) 5).trans (p0_q_7)
              refine WA.sub [0, 2, 1, 4, 5] rfl ?_
              exact ih_12 v_71 (q_18.1 a_16 0) v_56 q_18 hV_q_18 hF_q_18 z_73 (show 0 ≤ v_71.toInt from by first | assumption | omega | decide) (show (-1) ≤ (q_18.1 a_16 0).toInt from by first | assumption | omega | decide) (show (q_18.1 a_16 0).toInt ≤ 11 from by first | assumption | omega | decide) (show ((q_18.1 a1 3).toInt - v_71.toInt : Int).toNat < _ from by omega)
            · refine wa_aload_n B dX4_noteReading_115 rfl 5 rfl ?_
              refine wa_getR B (C := RX5) (T := TX5) (N := 7) iq_X4_noteReading_X5 ha1 ka1 (by decide) rfl 0 (by decide) (by decide) (by decide +kernel) rfl (fun _ _ _ => rfl) (v := a_52) ea_52 dX4_noteReading_116 ?_
              refine wa_iload_n B dX4_noteReading_119 rfl 1 rfl ?_
              refine wa_aaload B (t0 := 4) ha_52 ka_52 (by decide) rfl (show 0 ≤ (q_18.1 a_16 0).toInt by omega) (show (q_18.1 a_16 0).toInt < (h.2.1 a_52 : Int) by omega) (v := a_53) ea_53 dX4_noteReading_120 ?_
              refine wa_iload_n B dX4_noteReading_121 rfl 0 rfl ?_
              refine wa_callVv B (x := (RX2, TX2, 6)) (As := [.int v_56]) (rest := []) (k_X2_noteValue l dC dI h L hN q_18 hV_q_18 (a0 := a_53) ha_53 ka_53 v_56  ) (cwV 1 B.1.2.2.2.2 gX4_noteReading_X2_noteValue rfl rfl rfl (by decide +kernel) ⟨Nat.le_of_ble_eq_true rfl, Nat.le_of_ble_eq_true rfl⟩) ha_53 ka_53 (by decide) rfl rfl rfl (Nat.le_of_ble_eq_true rfl) dX4_noteReading_122 (fun q_74 w_75 => ?_)
              obtain ⟨hV_q_74, h2_q_74⟩ := w_75
              have hF_q_74 : sx_fr h L (fun a => a = a1 ∧ h.1 a = 5 ∨ h.1 a = 1 ∨ h.1 a = 2) q q_74 := hF_q_18.tr (h2_q_74.mono (fun a (z : a = a_53 ∧ h.1 a = 2) => (show a = a1 ∧ h.1 a = 5 ∨ h.1 a = 1 ∨ h.1 a = 2 from by omega)))
              obtain ⟨v_76, ev_76⟩ : ∃ z : Int32, z = v_4 + 1 := ⟨_, rfl⟩
              refine wa_iinc B [(4, .int v_76), (2, .int v_56), (3, .int (q_18.1 a_16 0)), (5, .ref a_16), (0, .ref a0), (1, .ref a1)] v_76 dX4_noteReading_125 3 rfl (by rw [ev_76]; rfl) (by decide) rfl ?_
              refine wa_goto B 17 dX4_noteReading_128 (by decide) ?_
              have tv_76 : v_76.toInt = v_4.toInt + 1 := by have b0 := zx_bd v_4; rw [ev_76]; exact zx_add (show (-2147483648 : Int) ≤ v_4.toInt + 1 by omega) (show v_4.toInt + 1 < (2147483648 : Int) by omega)
              have z_77 : q_74.1 a1 3 = (q_7.1 a1 3) := (h2_q_74.I ha1 (show ¬ (a1 = a_53 ∧ h.1 a1 = 2) from by omega) 3).trans (z_58)
              have y_78 : (q_74.1 a1 3).toInt = (q_7.1 a1 3).toInt := by rw [z_77]
              have z_79 : q_74.1 a1 5 = v_1 := (h2_q_74.I ha1 (show ¬ (a1 = a_53 ∧ h.1 a1 = 2) from by omega) 5).trans ((h2_q_18.I ha1 (show ¬ (a1 = a_16 ∧ h.1 a1 = 1) from by omega) 5).trans (p0_q_7))
              refine WA.sub [0, 2, 1, 4, 5] rfl ?_
              exact ih_12 v_76 (q_18.1 a_16 0) v_56 q_74 hV_q_74 hF_q_74 z_79 (show 0 ≤ v_76.toInt from by first | assumption | omega | decide) (show (-1) ≤ (q_18.1 a_16 0).toInt from by first | assumption | omega | decide) (show (q_18.1 a_16 0).toInt ≤ 11 from by first | assumption | omega | decide) (show ((q_74.1 a1 3).toInt - v_76.toInt : Int).toNat < _ from by omega)
  exact Lp_17_11 _ 0 (-1) 0 q_2 hV_q_2 hF_q_2 z_3 (show 0 ≤ 0 from by first | assumption | omega | decide) (show (-1) ≤ (-1) from by first | assumption | omega | decide) (show (-1) ≤ 11 from by first | assumption | omega | decide) (Nat.lt_succ_self _)
theorem iq_X4_fill_X5 : ∀ w ∈ wsX50, w ∈ wsX4_fill := fun _ h => List.mem_cons_of_mem _ (List.mem_append_left _ (List.mem_append_left _ (List.mem_append_left _ (List.mem_append_right _ h))))
set_option maxHeartbeats 4000000 in
set_option maxRecDepth 100000 in
theorem k_X4_fill_4 (l : Launch) (dC : Nat → ClassId) (dI : Nat → Nat → Nat) (h : Sh) (L : List Nat) (hN : sx_nd L) (q : Sg) (hV : sx_V h L q) {a0 : Nat} (ha0 : a0 ∈ L) (ka0 : h.1 a0 = 4) {a1 : Nat} (ha1 : a1 ∈ L) (ka1 : h.1 a1 = 5) (n1 : Int32) (n2 : Int32)  (hy0 : n1.toInt = 4) : CMv l dC dI h L yX4_fill wsX4_fill ({ frames := 3, cells := 0, slots := 0, locals := 63 } : Room) q [.ref a0, .ref a1, .int n1, .int n2] (fun q' => sx_V h L q' ∧ sx_fr h L (fun a => a = a1 ∧ h.1 a = 5 ∨ h.1 a = 1 ∨ h.1 a = 2) q q') := by
  refine cm_v (cc := cX4_fill) (mL := 8) (own := RX4) hN (by decide) rfl rfl (Nat.le_of_ble_eq_true rfl) (fun Z B hret => ?_)
  have hF : sx_fr h L (fun a => a = a1 ∧ h.1 a = 5 ∨ h.1 a = 1 ∨ h.1 a = 2) q q := sx_fr.rf
  show WA l dC dI h L ({ frames := 3, cells := 0, slots := 0, locals := 63 } : Room) 8 Z q 0 [(0, .ref a0), (1, .ref a1), (2, .int n1), (3, .int n2)] []
  refine wa_iload_n B dX4_fill_0 rfl 2 rfl ?_
  refine wa_aload_n B dX4_fill_1 rfl 1 rfl ?_
  refine wa_getI B (C := RX5) (T := TX5) (N := 7) iq_X4_fill_X5 ha1 ka1 (by decide) rfl 3 (by decide) (by decide) (by decide +kernel) rfl (by decide) (v := (q.1 a1 3)) rfl dX4_fill_2 ?_
  have g_1 : (0 : Int) ≤ (q.1 a1 3).toInt ∧ (q.1 a1 3).toInt ≤ 4 := hV.int ha1 ka1 3
  refine wa_icmp_ge B 13 dX4_fill_5 (by decide) (fun (t_2 : (q.1 a1 3).toInt ≤ n1.toInt) => ?_) (fun (t_2 : ¬ (q.1 a1 3).toInt ≤ n1.toInt) => ?_)
  · refine wa_aload_n B dX4_fill_13 rfl 1 rfl ?_
    refine wa_aload_n B dX4_fill_14 rfl 1 rfl ?_
    refine wa_getI B (C := RX5) (T := TX5) (N := 7) iq_X4_fill_X5 ha1 ka1 (by decide) rfl 6 (by decide) (by decide) (by decide +kernel) rfl (by decide) (v := (q.1 a1 6)) rfl dX4_fill_15 ?_
    refine wa_iload_n B dX4_fill_18 rfl 3 rfl ?_
    refine wa_mmin B (by decide +kernel) (by decide +kernel) (by decide +kernel) (by decide +kernel) (Nat.le_of_ble_eq_true rfl) (Nat.le_of_ble_eq_true rfl) dX4_fill_19 (fun v_3 ev_3 => ?_)
    have gv_3 : (v_3.toInt = (q.1 a1 6).toInt ∨ v_3.toInt = n2.toInt) ∧ (q.1 a1 6).toInt ≥ v_3.toInt ∧ n2.toInt ≥ v_3.toInt := by rw [ev_3]; exact zx_min
    refine wa_putI B (C := RX5) (T := TX5) (N := 7) iq_X4_fill_X5 ha1 ka1 (by decide) rfl 6 (by decide) (by decide) (by decide +kernel) rfl (by decide) (v := v_3) (ty := .int) tyX5 tyX5_ok nmX5 rfl (by decide +kernel) rfl rfl dX4_fill_22 (fun q_4 eq_4 => ?_)
    have hV_q_4 : sx_V h L q_4 := by rw [eq_4]; exact hV.pI ka1 trivial
    have hF_q_4 : sx_fr h L (fun a => a = a1 ∧ h.1 a = 5 ∨ h.1 a = 1 ∨ h.1 a = 2) q q_4 := hF.tr (by rw [eq_4]; exact sx_fr.pI (show a1 = a1 ∧ h.1 a1 = 5 ∨ h.1 a1 = 1 ∨ h.1 a1 = 2 from by omega))
    have z_5 : q_4.1 a1 6 = v_3 := by rw [eq_4]; exact sg_pI_e
    refine wa_iload_n B dX4_fill_25 rfl 3 rfl ?_
    refine wa_if_ne B 34 dX4_fill_26 (by decide) (fun (t_6 : ¬ n2.toInt = 0) => ?_) (fun (t_6 : n2.toInt = 0) => ?_)
    · exact hret _ _ _ dX4_fill_34 ⟨hV_q_4, hF_q_4⟩
    · refine wa_aload_n B dX4_fill_29 rfl 0 rfl ?_
      refine wa_aload_n B dX4_fill_30 rfl 1 rfl ?_
      refine wa_callVv B (x := (RX4, TX4, 7)) (As := [.ref a1]) (rest := []) (k_X4_noteReading l dC dI h L hN q_4 hV_q_4 (a0 := a0) ha0 ka0 (a1 := a1) ha1 ka1  ) (cwV 1 B.1.2.2.2.2 gX4_fill_X4_noteReading rfl rfl rfl (by decide +kernel) ⟨Nat.le_of_ble_eq_true rfl, Nat.le_of_ble_eq_true rfl⟩) ha0 ka0 (by decide) rfl rfl rfl (Nat.le_of_ble_eq_true rfl) dX4_fill_31 (fun q_7 w_8 => ?_)
      obtain ⟨hV_q_7, h2_q_7⟩ := w_8
      have hF_q_7 : sx_fr h L (fun a => a = a1 ∧ h.1 a = 5 ∨ h.1 a = 1 ∨ h.1 a = 2) q q_7 := hF_q_4.tr (h2_q_7.mono (fun a (z : a = a1 ∧ h.1 a = 5 ∨ h.1 a = 1 ∨ h.1 a = 2) => (show a = a1 ∧ h.1 a = 5 ∨ h.1 a = 1 ∨ h.1 a = 2 from by omega)))
      exact hret _ _ _ dX4_fill_34 ⟨hV_q_7, hF_q_7⟩
  · refine wa_iload_n B dX4_fill_8 rfl 2 rfl ?_
    refine wa_iconst B 4 dX4_fill_9 (by decide) ?_
    refine wa_icmp_lt B 35 dX4_fill_10 (by decide) (fun (t_9 : n1.toInt < 4) => ?_) (fun (t_9 : ¬ n1.toInt < 4) => ?_)
    · exfalso
      omega
    · refine wa_aload_n B dX4_fill_13 rfl 1 rfl ?_
      refine wa_aload_n B dX4_fill_14 rfl 1 rfl ?_
      refine wa_getI B (C := RX5) (T := TX5) (N := 7) iq_X4_fill_X5 ha1 ka1 (by decide) rfl 6 (by decide) (by decide) (by decide +kernel) rfl (by decide) (v := (q.1 a1 6)) rfl dX4_fill_15 ?_
      refine wa_iload_n B dX4_fill_18 rfl 3 rfl ?_
      refine wa_mmin B (by decide +kernel) (by decide +kernel) (by decide +kernel) (by decide +kernel) (Nat.le_of_ble_eq_true rfl) (Nat.le_of_ble_eq_true rfl) dX4_fill_19 (fun v_10 ev_10 => ?_)
      have gv_10 : (v_10.toInt = (q.1 a1 6).toInt ∨ v_10.toInt = n2.toInt) ∧ (q.1 a1 6).toInt ≥ v_10.toInt ∧ n2.toInt ≥ v_10.toInt := by rw [ev_10]; exact zx_min
      refine wa_putI B (C := RX5) (T := TX5) (N := 7) iq_X4_fill_X5 ha1 ka1 (by decide) rfl 6 (by decide) (by decide) (by decide +kernel) rfl (by decide) (v := v_10) (ty := .int) tyX5 tyX5_ok nmX5 rfl (by decide +kernel) rfl rfl dX4_fill_22 (fun q_11 eq_11 => ?_)
      have hV_q_11 : sx_V h L q_11 := by rw [eq_11]; exact hV.pI ka1 trivial
      have hF_q_11 : sx_fr h L (fun a => a = a1 ∧ h.1 a = 5 ∨ h.1 a = 1 ∨ h.1 a = 2) q q_11 := hF.tr (by rw [eq_11]; exact sx_fr.pI (show a1 = a1 ∧ h.1 a1 = 5 ∨ h.1 a1 = 1 ∨ h.1 a1 = 2 from by omega))
      have z_12 : q_11.1 a1 6 = v_10 := by rw [eq_11]; exact sg_pI_e
      refine wa_iload_n B dX4_fill_25 rfl 3 rfl ?_
      refine wa_if_ne B 34 dX4_fill_26 (by decide) (fun (t_13 : ¬ n2.toInt = 0) => ?_) (fun (t_13 : n2.toInt = 0) => ?_)
      · exact hret _ _ _ dX4_fill_34 ⟨hV_q_11, hF_q_11⟩
      · refine wa_aload_n B dX4_fill_29 rfl 0 rfl ?_
        refine wa_aload_n B dX4_fill_30 rfl 1 rfl ?_
        refine wa_callVv B (x := (RX4, TX4, 7)) (As := [.ref a1]) (rest := []) (k_X4_noteReading l dC dI h L hN q_11 hV_q_11 (a0 := a0) ha0 ka0 (a1 := a1) ha1 ka1  ) (cwV 1 B.1.2.2.2.2 gX4_fill_X4_noteReading rfl rfl rfl (by decide +kernel) ⟨Nat.le_of_ble_eq_true rfl, Nat.le_of_ble_eq_true rfl⟩) ha0 ka0 (by decide) rfl rfl rfl (Nat.le_of_ble_eq_true rfl) dX4_fill_31 (fun q_14 w_15 => ?_)
        obtain ⟨hV_q_14, h2_q_14⟩ := w_15
        have hF_q_14 : sx_fr h L (fun a => a = a1 ∧ h.1 a = 5 ∨ h.1 a = 1 ∨ h.1 a = 2) q q_14 := hF_q_11.tr (h2_q_14.mono (fun a (z : a = a1 ∧ h.1 a = 5 ∨ h.1 a = 1 ∨ h.1 a = 2) => (show a = a1 ∧ h.1 a = 5 ∨ h.1 a = 1 ∨ h.1 a = 2 from by omega)))
        exact hret _ _ _ dX4_fill_34 ⟨hV_q_14, hF_q_14⟩
theorem iq_X4_fill_X1 : ∀ w ∈ wsX10, w ∈ wsX4_fill := fun _ h => List.mem_cons_of_mem _ (List.mem_append_left _ (List.mem_append_left _ (List.mem_append_right _ h)))
theorem iq_X4_fill_X4 : ∀ w ∈ wsX40, w ∈ wsX4_fill := fun _ h => List.mem_cons_of_mem _ (List.mem_append_left _ (List.mem_append_right _ h))
set_option maxHeartbeats 4000000 in
set_option maxRecDepth 100000 in
theorem k_X4_fill_3 (l : Launch) (dC : Nat → ClassId) (dI : Nat → Nat → Nat) (h : Sh) (L : List Nat) (hN : sx_nd L) (q : Sg) (hV : sx_V h L q) {a0 : Nat} (ha0 : a0 ∈ L) (ka0 : h.1 a0 = 4) {a1 : Nat} (ha1 : a1 ∈ L) (ka1 : h.1 a1 = 5) (n1 : Int32) (n2 : Int32)  (hy0 : n1.toInt = 3) : CMv l dC dI h L yX4_fill wsX4_fill ({ frames := 4, cells := 0, slots := 0, locals := 90 } : Room) q [.ref a0, .ref a1, .int n1, .int n2] (fun q' => sx_V h L q' ∧ sx_fr h L (fun a => a = a1 ∧ h.1 a = 5 ∨ h.1 a = 1 ∨ h.1 a = 2) q q') := by
  refine cm_v (cc := cX4_fill) (mL := 8) (own := RX4) hN (by decide) rfl rfl (Nat.le_of_ble_eq_true rfl) (fun Z B hret => ?_)
  have hF : sx_fr h L (fun a => a = a1 ∧ h.1 a = 5 ∨ h.1 a = 1 ∨ h.1 a = 2) q q := sx_fr.rf
  show WA l dC dI h L ({ frames := 4, cells := 0, slots := 0, locals := 90 } : Room) 8 Z q 0 [(0, .ref a0), (1, .ref a1), (2, .int n1), (3, .int n2)] []
  refine wa_iload_n B dX4_fill_0 rfl 2 rfl ?_
  refine wa_aload_n B dX4_fill_1 rfl 1 rfl ?_
  refine wa_getI B (C := RX5) (T := TX5) (N := 7) iq_X4_fill_X5 ha1 ka1 (by decide) rfl 3 (by decide) (by decide) (by decide +kernel) rfl (by decide) (v := (q.1 a1 3)) rfl dX4_fill_2 ?_
  have g_1 : (0 : Int) ≤ (q.1 a1 3).toInt ∧ (q.1 a1 3).toInt ≤ 4 := hV.int ha1 ka1 3
  refine wa_icmp_ge B 13 dX4_fill_5 (by decide) (fun (t_2 : (q.1 a1 3).toInt ≤ n1.toInt) => ?_) (fun (t_2 : ¬ (q.1 a1 3).toInt ≤ n1.toInt) => ?_)
  · refine wa_aload_n B dX4_fill_13 rfl 1 rfl ?_
    refine wa_aload_n B dX4_fill_14 rfl 1 rfl ?_
    refine wa_getI B (C := RX5) (T := TX5) (N := 7) iq_X4_fill_X5 ha1 ka1 (by decide) rfl 6 (by decide) (by decide) (by decide +kernel) rfl (by decide) (v := (q.1 a1 6)) rfl dX4_fill_15 ?_
    refine wa_iload_n B dX4_fill_18 rfl 3 rfl ?_
    refine wa_mmin B (by decide +kernel) (by decide +kernel) (by decide +kernel) (by decide +kernel) (Nat.le_of_ble_eq_true rfl) (Nat.le_of_ble_eq_true rfl) dX4_fill_19 (fun v_3 ev_3 => ?_)
    have gv_3 : (v_3.toInt = (q.1 a1 6).toInt ∨ v_3.toInt = n2.toInt) ∧ (q.1 a1 6).toInt ≥ v_3.toInt ∧ n2.toInt ≥ v_3.toInt := by rw [ev_3]; exact zx_min
    refine wa_putI B (C := RX5) (T := TX5) (N := 7) iq_X4_fill_X5 ha1 ka1 (by decide) rfl 6 (by decide) (by decide) (by decide +kernel) rfl (by decide) (v := v_3) (ty := .int) tyX5 tyX5_ok nmX5 rfl (by decide +kernel) rfl rfl dX4_fill_22 (fun q_4 eq_4 => ?_)
    have hV_q_4 : sx_V h L q_4 := by rw [eq_4]; exact hV.pI ka1 trivial
    have hF_q_4 : sx_fr h L (fun a => a = a1 ∧ h.1 a = 5 ∨ h.1 a = 1 ∨ h.1 a = 2) q q_4 := hF.tr (by rw [eq_4]; exact sx_fr.pI (show a1 = a1 ∧ h.1 a1 = 5 ∨ h.1 a1 = 1 ∨ h.1 a1 = 2 from by omega))
    have z_5 : q_4.1 a1 6 = v_3 := by rw [eq_4]; exact sg_pI_e
    refine wa_iload_n B dX4_fill_25 rfl 3 rfl ?_
    refine wa_if_ne B 34 dX4_fill_26 (by decide) (fun (t_6 : ¬ n2.toInt = 0) => ?_) (fun (t_6 : n2.toInt = 0) => ?_)
    · exact hret _ _ _ dX4_fill_34 ⟨hV_q_4, hF_q_4⟩
    · refine wa_aload_n B dX4_fill_29 rfl 0 rfl ?_
      refine wa_aload_n B dX4_fill_30 rfl 1 rfl ?_
      refine wa_callVv B (x := (RX4, TX4, 7)) (As := [.ref a1]) (rest := []) (k_X4_noteReading l dC dI h L hN q_4 hV_q_4 (a0 := a0) ha0 ka0 (a1 := a1) ha1 ka1  ) (cwV 1 B.1.2.2.2.2 gX4_fill_X4_noteReading rfl rfl rfl (by decide +kernel) ⟨Nat.le_of_ble_eq_true rfl, Nat.le_of_ble_eq_true rfl⟩) ha0 ka0 (by decide) rfl rfl rfl (Nat.le_of_ble_eq_true rfl) dX4_fill_31 (fun q_7 w_8 => ?_)
      obtain ⟨hV_q_7, h2_q_7⟩ := w_8
      have hF_q_7 : sx_fr h L (fun a => a = a1 ∧ h.1 a = 5 ∨ h.1 a = 1 ∨ h.1 a = 2) q q_7 := hF_q_4.tr (h2_q_7.mono (fun a (z : a = a1 ∧ h.1 a = 5 ∨ h.1 a = 1 ∨ h.1 a = 2) => (show a = a1 ∧ h.1 a = 5 ∨ h.1 a = 1 ∨ h.1 a = 2 from by omega)))
      exact hret _ _ _ dX4_fill_34 ⟨hV_q_7, hF_q_7⟩
  · refine wa_iload_n B dX4_fill_8 rfl 2 rfl ?_
    refine wa_iconst B 4 dX4_fill_9 (by decide) ?_
    refine wa_icmp_lt B 35 dX4_fill_10 (by decide) (fun (t_9 : n1.toInt < 4) => ?_) (fun (t_9 : ¬ n1.toInt < 4) => ?_)
    · refine wa_aload_n B dX4_fill_35 rfl 1 rfl ?_
      obtain ⟨a_10, ea_10, ha_10, ka_10, la_10⟩ := hV.refn (n := 4) (t := 402) ha1 ka1 1 rfl (by decide) rfl (by decide)
      refine wa_getR B (C := RX5) (T := TX5) (N := 7) iq_X4_fill_X5 ha1 ka1 (by decide) rfl 1 (by decide) (by decide) (by decide +kernel) rfl (fun _ _ _ => rfl) (v := a_10) ea_10 dX4_fill_36 ?_
      refine wa_iload_n B dX4_fill_39 rfl 2 rfl ?_
      obtain ⟨a_11, ea_11, ha_11, ka_11⟩ := hV.elem (t := 1) ha_10 ka_10 (by decide) rfl (zx_ix (i := n1) (show 0 ≤ n1.toInt by omega) (show n1.toInt < (h.2.1 a_10 : Int) by omega))
      refine wa_aaload B (t0 := 5) ha_10 ka_10 (by decide) rfl (show 0 ≤ n1.toInt by omega) (show n1.toInt < (h.2.1 a_10 : Int) by omega) (v := a_11) ea_11 dX4_fill_40 ?_
      refine wa_astore B [(4, .ref a_11), (0, .ref a0), (1, .ref a1), (2, .int n1), (3, .int n2)] dX4_fill_41 (by decide) rfl ?_
      refine wa_aload B dX4_fill_43 0 rfl ?_
      refine wa_getI B (C := RX1) (T := TX1) (N := 7) iq_X4_fill_X1 ha_11 ka_11 (by decide) rfl 5 (by decide) (by decide) (by decide +kernel) rfl (by decide) (v := (q.1 a_11 5)) rfl dX4_fill_45 ?_
      have Jn_80_13 : ∀  (v_12 : Int32), WA l dC dI h L ({ frames := 4, cells := 0, slots := 0, locals := 90 } : Room) 8 Z q 80 [(4, .ref a_11), (0, .ref a0), (1, .ref a1), (2, .int n1), (3, .int n2)] [.int v_12] := by
        intro v_12
        refine wa_istore B [(5, .int v_12), (4, .ref a_11), (0, .ref a0), (1, .ref a1), (2, .int n1), (3, .int n2)] dX4_fill_80 (by decide) rfl ?_
        refine wa_aload B dX4_fill_82 1 rfl ?_
        refine wa_getI B (C := RX1) (T := TX1) (N := 7) iq_X4_fill_X1 ha_11 ka_11 (by decide) rfl 3 (by decide) (by decide) (by decide +kernel) rfl (by decide) (v := (q.1 a_11 3)) rfl dX4_fill_84 ?_
        refine wa_istore B [(6, .int (q.1 a_11 3)), (5, .int v_12), (4, .ref a_11), (0, .ref a0), (1, .ref a1), (2, .int n1), (3, .int n2)] dX4_fill_87 (by decide) rfl ?_
        have Lp_89_16 : ∀ (n : Nat) (v_14 : Int32) (q_15 : Sg), sx_V h L q_15 → sx_fr h L (fun a => a = a1 ∧ h.1 a = 5 ∨ h.1 a = 1 ∨ h.1 a = 2) q q_15 → q_15.2.2.1 a1 1 = a_10 → (10 - v_14.toInt : Int).toNat < n → WA l dC dI h L ({ frames := 4, cells := 0, slots := 0, locals := 90 } : Room) 8 Z q_15 89 [(6, .int v_14), (5, .int v_12), (4, .ref a_11), (0, .ref a0), (1, .ref a1), (2, .int n1), (3, .int n2)] [] := by
          intro n
          induction n with
          | zero =>
            intro v_14 q_15 hV_q_15 hF_q_15 p0_q_15 hn
            exact absurd hn (Nat.not_lt_zero _)
          | succ n ih_17 =>
            intro v_14 q_15 hV_q_15 hF_q_15 p0_q_15 hn
            refine wa_iload B dX4_fill_89 0 rfl ?_
            refine wa_bipush B 9 dX4_fill_91 (by decide) ?_
            refine wa_icmp_gt B 204 dX4_fill_93 (by decide) (fun (t_18 : 9 < v_14.toInt) => ?_) (fun (t_18 : ¬ 9 < v_14.toInt) => ?_)
            · exact hret _ _ _ dX4_fill_204 ⟨hV_q_15, hF_q_15⟩
            · refine wa_iload B dX4_fill_96 0 rfl ?_
              refine wa_aload B dX4_fill_98 2 rfl ?_
              refine wa_getI B (C := RX1) (T := TX1) (N := 7) iq_X4_fill_X1 ha_11 ka_11 (by decide) rfl 1 (by decide) (by decide) (by decide +kernel) rfl (by decide) (v := (q_15.1 a_11 1)) rfl dX4_fill_100 ?_
              refine wa_imul B dX4_fill_103 (fun v_19 ev_19 => ?_)
              refine wa_iload B dX4_fill_104 1 rfl ?_
              refine wa_icmp_gt B 204 dX4_fill_106 (by decide) (fun (t_20 : v_12.toInt < v_19.toInt) => ?_) (fun (t_20 : ¬ v_12.toInt < v_19.toInt) => ?_)
              · exact hret _ _ _ dX4_fill_204 ⟨hV_q_15, hF_q_15⟩
              · refine wa_aload_n B dX4_fill_109 rfl 3 rfl ?_
                obtain ⟨a_21, ea_21, ha_21, ka_21, la_21⟩ := hV_q_15.refn (n := 4) (t := 100) ha0 ka0 5 rfl (by decide) rfl (by decide)
                refine wa_getR B (C := RX4) (T := TX4) (N := 7) iq_X4_fill_X4 ha0 ka0 (by decide) rfl 5 (by decide) (by decide) (by decide +kernel) rfl (fun _ _ _ => rfl) (v := a_21) ea_21 dX4_fill_110 ?_
                refine wa_iload_n B dX4_fill_113 rfl 5 rfl ?_
                refine wa_iload B dX4_fill_114 0 rfl ?_
                refine wa_iastore B ha_21 ka_21 (by decide) (by decide) (show 0 ≤ n1.toInt by omega) (show n1.toInt < (h.2.1 a_21 : Int) by omega) dX4_fill_116 (fun q_22 eq_22 => ?_)
                have hV_q_22 : sx_V h L q_22 := by rw [eq_22]; exact hV_q_15.up1 ha_21 ka_21 trivial
                have hF_q_22 : sx_fr h L (fun a => a = a1 ∧ h.1 a = 5 ∨ h.1 a = 1 ∨ h.1 a = 2) q q_22 := hF_q_15.tr (by rw [eq_22]; exact sx_fr.pG (show h.1 a_21 = 100 ∨ (a_21 = a1 ∧ h.1 a_21 = 5 ∨ h.1 a_21 = 1 ∨ h.1 a_21 = 2) from by omega))
                have z_23 : q_22.2.2.2.1 a_21 (n1 : Int32).toNatClampNeg = v_14 := by rw [eq_22, sg_pG_e]; exact if_pos rfl
                refine wa_iconst B 0 dX4_fill_117 (by decide) ?_
                refine wa_istore B [(7, .int 0), (6, .int v_14), (5, .int v_12), (4, .ref a_11), (0, .ref a0), (1, .ref a1), (2, .int n1), (3, .int n2)] dX4_fill_118 (by decide) rfl ?_
                have z_26 : q_22.1 a_11 1 = q_15.1 a_11 1 := (show q_22.1 a_11 1 = q_15.1 a_11 1 from by rw [eq_22]; rfl)
                have z_27 : q_22.2.2.1 a1 1 = a_10 := ((show q_22.2.2.1 a1 1 = q_15.2.2.1 a1 1 from by rw [eq_22]; rfl)).trans (p0_q_15)
                have z_28 : q_22.2.2.1 a0 5 = a_21 := ((show q_22.2.2.1 a0 5 = q_15.2.2.1 a0 5 from by rw [eq_22]; rfl)).trans (ea_21)
                have Lp_120_30 : ∀ (n : Nat) (v_24 : Int32) (q_25 : Sg), sx_V h L q_25 → sx_fr h L (fun a => a = a1 ∧ h.1 a = 5 ∨ h.1 a = 1 ∨ h.1 a = 2) q q_25 → q_25.1 a_11 1 = (q_15.1 a_11 1) → q_25.2.2.1 a1 1 = a_10 → q_25.2.2.1 a0 5 = a_21 → 0 ≤ v_24.toInt → ((q_25.1 a0 0).toInt - v_24.toInt : Int).toNat < n → WA l dC dI h L ({ frames := 4, cells := 0, slots := 0, locals := 90 } : Room) 8 Z q_25 120 [(7, .int v_24), (6, .int v_14), (5, .int v_12), (4, .ref a_11), (0, .ref a0), (1, .ref a1), (2, .int n1), (3, .int n2)] [] := by
                  intro n
                  induction n with
                  | zero =>
                    intro v_24 q_25 hV_q_25 hF_q_25 p0_q_25 p1_q_25 p2_q_25 x_29 hn
                    exact absurd hn (Nat.not_lt_zero _)
                  | succ n ih_31 =>
                    intro v_24 q_25 hV_q_25 hF_q_25 p0_q_25 p1_q_25 p2_q_25 x_29 hn
                    refine wa_iload B dX4_fill_120 0 rfl ?_
                    refine wa_aload_n B dX4_fill_122 rfl 4 rfl ?_
                    refine wa_getI B (C := RX4) (T := TX4) (N := 7) iq_X4_fill_X4 ha0 ka0 (by decide) rfl 0 (by decide) (by decide) (by decide +kernel) rfl (by decide) (v := (q_25.1 a0 0)) rfl dX4_fill_123 ?_
                    have g_32 : (0 : Int) ≤ (q_25.1 a0 0).toInt ∧ (q_25.1 a0 0).toInt ≤ 12 := hV_q_25.int ha0 ka0 0
                    refine wa_icmp_ge B 169 dX4_fill_126 (by decide) (fun (t_33 : (q_25.1 a0 0).toInt ≤ v_24.toInt) => ?_) (fun (t_33 : ¬ (q_25.1 a0 0).toInt ≤ v_24.toInt) => ?_)
                    · refine wa_aload_n B dX4_fill_169 rfl 4 rfl ?_
                      refine wa_iload_n B dX4_fill_170 rfl 6 rfl ?_
                      refine wa_iconst B 1 dX4_fill_171 (by decide) ?_
                      refine wa_iadd B dX4_fill_172 (fun v_34 ev_34 => ?_)
                      have tv_34 : v_34.toInt = n1.toInt + 1 := by have b0 := zx_bd n1; rw [ev_34]; exact zx_add (show (-2147483648 : Int) ≤ n1.toInt + 1 by omega) (show n1.toInt + 1 < (2147483648 : Int) by omega)
                      refine wa_callVi B (x := (RX4, TX4, 7)) (As := [.int v_34]) (rest := []) (k_X4_missedWith l dC dI h L hN q_25 hV_q_25 (a0 := a0) ha0 ka0 v_34  (by first | assumption | omega | decide) (by first | assumption | omega | decide)) (cwV 1 B.1.2.2.2.2 gX4_fill_X4_missedWith rfl rfl rfl (by decide +kernel) ⟨Nat.le_of_ble_eq_true rfl, Nat.le_of_ble_eq_true rfl⟩) ha0 ka0 (by decide) rfl rfl rfl (Nat.le_of_ble_eq_true rfl) dX4_fill_173 (fun r_36 q_35 w_37 => ?_)
                      subst w_37
                      refine wa_istore B [(7, .int r_36), (6, .int v_14), (5, .int v_12), (4, .ref a_11), (0, .ref a0), (1, .ref a1), (2, .int n1), (3, .int n2)] dX4_fill_176 (by decide) rfl ?_
                      refine wa_aload_n B dX4_fill_178 rfl 4 rfl ?_
                      refine wa_aload_n B dX4_fill_179 rfl 5 rfl ?_
                      refine wa_iload B dX4_fill_180 0 rfl ?_
                      refine wa_callVi B (x := (RX4, TX4, 7)) (As := [.ref a1, .int r_36]) (rest := []) (k_X4_isWorthwhile l dC dI h L hN q_25 hV_q_25 (a0 := a0) ha0 ka0 (a1 := a1) ha1 ka1 r_36  ) (cwV 2 B.1.2.2.2.2 gX4_fill_X4_isWorthwhile rfl rfl rfl (by decide +kernel) ⟨Nat.le_of_ble_eq_true rfl, Nat.le_of_ble_eq_true rfl⟩) ha0 ka0 (by decide) rfl rfl rfl (Nat.le_of_ble_eq_true rfl) dX4_fill_182 (fun r_39 q_38 w_40 => ?_)
                      obtain ⟨ew_40, hw_40⟩ := w_40
                      subst ew_40
                      refine wa_if_eq B 198 dX4_fill_185 (by decide) (fun (t_41 : r_39.toInt = 0) => ?_) (fun (t_41 : ¬ r_39.toInt = 0) => ?_)
                      · obtain ⟨v_42, ev_42⟩ : ∃ z : Int32, z = v_14 + 1 := ⟨_, rfl⟩
                        refine wa_iinc B [(6, .int v_42), (7, .int r_36), (5, .int v_12), (4, .ref a_11), (0, .ref a0), (1, .ref a1), (2, .int n1), (3, .int n2)] v_42 dX4_fill_198 1 rfl (by rw [ev_42]; rfl) (by decide) rfl ?_
                        refine wa_goto B 89 dX4_fill_201 (by decide) ?_
                        have tv_42 : v_42.toInt = v_14.toInt + 1 := by have b0 := zx_bd v_14; rw [ev_42]; exact zx_add (show (-2147483648 : Int) ≤ v_14.toInt + 1 by omega) (show v_14.toInt + 1 < (2147483648 : Int) by omega)
                        refine WA.sub [0, 2, 3, 4, 5, 6, 7] rfl ?_
                        exact ih_17 v_42 q_25 hV_q_25 hF_q_25 p1_q_25 (show (10 - v_42.toInt : Int).toNat < _ from by omega)
                      · refine wa_aload_n B dX4_fill_188 rfl 4 rfl ?_
                        refine wa_aload_n B dX4_fill_189 rfl 5 rfl ?_
                        refine wa_iload_n B dX4_fill_190 rfl 6 rfl ?_
                        refine wa_iconst B 1 dX4_fill_191 (by decide) ?_
                        refine wa_iadd B dX4_fill_192 (fun v_43 ev_43 => ?_)
                        refine wa_iload B dX4_fill_193 0 rfl ?_
                        have tv_43 : v_43.toInt = n1.toInt + 1 := by have b0 := zx_bd n1; rw [ev_43]; exact zx_add (show (-2147483648 : Int) ≤ n1.toInt + 1 by omega) (show n1.toInt + 1 < (2147483648 : Int) by omega)
                        refine wa_callVv B (x := (RX4, TX4, 7)) (As := [.ref a1, .int v_43, .int r_36]) (rest := []) (k_X4_fill_4 l dC dI h L hN q_25 hV_q_25 (a0 := a0) ha0 ka0 (a1 := a1) ha1 ka1 v_43 r_36  (by first | assumption | omega | decide)) (cwV 3 B.1.2.2.2.2 gX4_fill_X4_fill rfl rfl rfl (by decide +kernel) ⟨Nat.le_of_ble_eq_true rfl, Nat.le_of_ble_eq_true rfl⟩) ha0 ka0 (by decide) rfl rfl rfl (Nat.le_of_ble_eq_true rfl) dX4_fill_195 (fun q_44 w_45 => ?_)
                        obtain ⟨hV_q_44, h2_q_44⟩ := w_45
                        have hF_q_44 : sx_fr h L (fun a => a = a1 ∧ h.1 a = 5 ∨ h.1 a = 1 ∨ h.1 a = 2) q q_44 := hF_q_25.tr (h2_q_44.mono (fun a (z : a = a1 ∧ h.1 a = 5 ∨ h.1 a = 1 ∨ h.1 a = 2) => (show a = a1 ∧ h.1 a = 5 ∨ h.1 a = 1 ∨ h.1 a = 2 from by omega)))
                        obtain ⟨v_46, ev_46⟩ : ∃ z : Int32, z = v_14 + 1 := ⟨_, rfl⟩
                        refine wa_iinc B [(6, .int v_46), (7, .int r_36), (5, .int v_12), (4, .ref a_11), (0, .ref a0), (1, .ref a1), (2, .int n1), (3, .int n2)] v_46 dX4_fill_198 1 rfl (by rw [ev_46]; rfl) (by decide) rfl ?_
                        refine wa_goto B 89 dX4_fill_201 (by decide) ?_
                        have tv_46 : v_46.toInt = v_14.toInt + 1 := by have b0 := zx_bd v_14; rw [ev_46]; exact zx_add (show (-2147483648 : Int) ≤ v_14.toInt + 1 by omega) (show v_14.toInt + 1 < (2147483648 : Int) by omega)
                        have z_47 : q_44.2.2.1 a1 1 = a_10 := (h2_q_44.R ha1 (show ¬ ((a1 = a1 ∧ h.1 a1 = 5 ∨ h.1 a1 = 1 ∨ h.1 a1 = 2) ∧ (h.1 a1 = 8 ∨ h.1 a1 = 11)) from by omega) 1).trans (p1_q_25)
                        refine WA.sub [0, 2, 3, 4, 5, 6, 7] rfl ?_
                        exact ih_17 v_46 q_44 hV_q_44 hF_q_44 z_47 (show (10 - v_46.toInt : Int).toNat < _ from by omega)
                    · refine wa_aload_n B dX4_fill_129 rfl 4 rfl ?_
                      obtain ⟨a_48, ea_48, ha_48, ka_48, la_48⟩ := hV_q_25.refn (n := 5) (t := 404) ha0 ka0 1 rfl (by decide) rfl (by decide)
                      refine wa_getR B (C := RX4) (T := TX4) (N := 7) iq_X4_fill_X4 ha0 ka0 (by decide) rfl 1 (by decide) (by decide) (by decide +kernel) rfl (fun _ _ _ => rfl) (v := a_48) ea_48 dX4_fill_130 ?_
                      refine wa_iload_n B dX4_fill_133 rfl 6 rfl ?_
                      refine wa_iconst B 1 dX4_fill_134 (by decide) ?_
                      refine wa_iadd B dX4_fill_135 (fun v_49 ev_49 => ?_)
                      have tv_49 : v_49.toInt = n1.toInt + 1 := by have b0 := zx_bd n1; rw [ev_49]; exact zx_add (show (-2147483648 : Int) ≤ n1.toInt + 1 by omega) (show n1.toInt + 1 < (2147483648 : Int) by omega)
                      obtain ⟨a_50, ea_50, ha_50, ka_50, la_50⟩ := hV_q_25.row ha_48 ka_48 (zx_ix (i := v_49) (show 0 ≤ v_49.toInt by omega) (show v_49.toInt < (h.2.1 a_48 : Int) by omega))
                      refine wa_aaloadA B (t0 := 7) ha_48 ka_48 (by decide) rfl (show 0 ≤ v_49.toInt by omega) (show v_49.toInt < (h.2.1 a_48 : Int) by omega) (v := a_50) ea_50 dX4_fill_136 ?_
                      refine wa_iload B dX4_fill_137 0 rfl ?_
                      refine wa_aload_n B dX4_fill_139 rfl 4 rfl ?_
                      refine wa_getR B (C := RX4) (T := TX4) (N := 7) iq_X4_fill_X4 ha0 ka0 (by decide) rfl 1 (by decide) (by decide) (by decide +kernel) rfl (fun _ _ _ => rfl) (v := a_48) ea_48 dX4_fill_140 ?_
                      refine wa_iload_n B dX4_fill_143 rfl 6 rfl ?_
                      obtain ⟨a_51, ea_51, ha_51, ka_51, la_51⟩ := hV_q_25.row ha_48 ka_48 (zx_ix (i := n1) (show 0 ≤ n1.toInt by omega) (show n1.toInt < (h.2.1 a_48 : Int) by omega))
                      refine wa_aaloadA B (t0 := 7) ha_48 ka_48 (by decide) rfl (show 0 ≤ n1.toInt by omega) (show n1.toInt < (h.2.1 a_48 : Int) by omega) (v := a_51) ea_51 dX4_fill_144 ?_
                      refine wa_iload B dX4_fill_145 0 rfl ?_
                      refine wa_laload B ha_51 ka_51 (by decide) (by decide) (show 0 ≤ v_24.toInt by omega) (show v_24.toInt < (h.2.1 a_51 : Int) by omega) (v := (q_25.2.2.2.2 a_51 (v_24 : Int32).toNatClampNeg)) rfl dX4_fill_147 ?_
                      refine wa_iload B dX4_fill_148 1 rfl ?_
                      refine wa_i2l B dX4_fill_150 (fun v_52 ev_52 => ?_)
                      refine wa_aload_n B dX4_fill_151 rfl 4 rfl ?_
                      obtain ⟨a_53, ea_53, ha_53, ka_53, la_53⟩ := hV_q_25.refn (n := 4) (t := 404) ha0 ka0 2 rfl (by decide) rfl (by decide)
                      refine wa_getR B (C := RX4) (T := TX4) (N := 7) iq_X4_fill_X4 ha0 ka0 (by decide) rfl 2 (by decide) (by decide) (by decide +kernel) rfl (fun _ _ _ => rfl) (v := a_53) ea_53 dX4_fill_152 ?_
                      refine wa_iload_n B dX4_fill_155 rfl 6 rfl ?_
                      obtain ⟨a_54, ea_54, ha_54, ka_54, la_54⟩ := hV_q_25.row ha_53 ka_53 (zx_ix (i := n1) (show 0 ≤ n1.toInt by omega) (show n1.toInt < (h.2.1 a_53 : Int) by omega))
                      refine wa_aaloadA B (t0 := 7) ha_53 ka_53 (by decide) rfl (show 0 ≤ n1.toInt by omega) (show n1.toInt < (h.2.1 a_53 : Int) by omega) (v := a_54) ea_54 dX4_fill_156 ?_
                      refine wa_iload B dX4_fill_157 0 rfl ?_
                      refine wa_laload B ha_54 ka_54 (by decide) (by decide) (show 0 ≤ v_24.toInt by omega) (show v_24.toInt < (h.2.1 a_54 : Int) by omega) (v := (q_25.2.2.2.2 a_54 (v_24 : Int32).toNatClampNeg)) rfl dX4_fill_159 ?_
                      refine wa_lmul B dX4_fill_160 (fun v_55 ev_55 => ?_)
                      refine wa_ladd B dX4_fill_161 (fun v_56 ev_56 => ?_)
                      refine wa_lastore B ha_50 ka_50 (by decide) (by decide) (show 0 ≤ v_24.toInt by omega) (show v_24.toInt < (h.2.1 a_50 : Int) by omega) dX4_fill_162 (fun q_57 eq_57 => ?_)
                      have hV_q_57 : sx_V h L q_57 := by rw [eq_57]; exact hV_q_25.pL
                      have hF_q_57 : sx_fr h L (fun a => a = a1 ∧ h.1 a = 5 ∨ h.1 a = 1 ∨ h.1 a = 2) q q_57 := hF_q_25.tr (by rw [eq_57]; exact sx_fr.pL (show h.1 a_50 = 200 ∨ (a_50 = a1 ∧ h.1 a_50 = 5 ∨ h.1 a_50 = 1 ∨ h.1 a_50 = 2) from by omega))
                      have z_58 : q_57.2.2.2.2 a_50 (v_24 : Int32).toNatClampNeg = v_56 := by rw [eq_57, sg_pL_e]; exact if_pos rfl
                      obtain ⟨v_59, ev_59⟩ : ∃ z : Int32, z = v_24 + 1 := ⟨_, rfl⟩
                      refine wa_iinc B [(7, .int v_59), (6, .int v_14), (5, .int v_12), (4, .ref a_11), (0, .ref a0), (1, .ref a1), (2, .int n1), (3, .int n2)] v_59 dX4_fill_163 0 rfl (by rw [ev_59]; rfl) (by decide) rfl ?_
                      refine wa_goto B 120 dX4_fill_166 (by decide) ?_
                      have tv_59 : v_59.toInt = v_24.toInt + 1 := by have b0 := zx_bd v_24; rw [ev_59]; exact zx_add (show (-2147483648 : Int) ≤ v_24.toInt + 1 by omega) (show v_24.toInt + 1 < (2147483648 : Int) by omega)
                      have z_60 : q_57.1 a0 0 = q_25.1 a0 0 := (show q_57.1 a0 0 = q_25.1 a0 0 from by rw [eq_57]; rfl)
                      have y_61 : (q_57.1 a0 0).toInt = (q_25.1 a0 0).toInt := by rw [z_60]
                      have z_62 : q_57.1 a_11 1 = (q_15.1 a_11 1) := ((show q_57.1 a_11 1 = q_25.1 a_11 1 from by rw [eq_57]; rfl)).trans (p0_q_25)
                      have z_63 : q_57.2.2.1 a1 1 = a_10 := ((show q_57.2.2.1 a1 1 = q_25.2.2.1 a1 1 from by rw [eq_57]; rfl)).trans (p1_q_25)
                      have z_64 : q_57.2.2.1 a0 5 = a_21 := ((show q_57.2.2.1 a0 5 = q_25.2.2.1 a0 5 from by rw [eq_57]; rfl)).trans (p2_q_25)
                      exact ih_31 v_59 q_57 hV_q_57 hF_q_57 z_62 z_63 z_64 (show 0 ≤ v_59.toInt from by first | assumption | omega | decide) (show ((q_57.1 a0 0).toInt - v_59.toInt : Int).toNat < _ from by omega)
                exact Lp_120_30 _ 0 q_22 hV_q_22 hF_q_22 z_26 z_27 z_28 (show 0 ≤ 0 from by first | assumption | omega | decide) (Nat.lt_succ_self _)
        exact Lp_89_16 _ (q.1 a_11 3) q hV hF ea_10 (Nat.lt_succ_self _)
      refine wa_if_eq B 75 dX4_fill_48 (by decide) (fun (t_65 : (q.1 a_11 5).toInt = 0) => ?_) (fun (t_65 : ¬ (q.1 a_11 5).toInt = 0) => ?_)
      · refine wa_aload B dX4_fill_75 0 rfl ?_
        refine wa_getI B (C := RX1) (T := TX1) (N := 7) iq_X4_fill_X1 ha_11 ka_11 (by decide) rfl 4 (by decide) (by decide) (by decide +kernel) rfl (by decide) (v := (q.1 a_11 4)) rfl dX4_fill_77 ?_
        exact Jn_80_13 (q.1 a_11 4)
      · refine wa_iload_n B dX4_fill_51 rfl 3 rfl ?_
        refine wa_if_le B 75 dX4_fill_52 (by decide) (fun (t_66 : n1.toInt ≤ 0) => ?_) (fun (t_66 : ¬ n1.toInt ≤ 0) => ?_)
        · refine wa_aload B dX4_fill_75 0 rfl ?_
          refine wa_getI B (C := RX1) (T := TX1) (N := 7) iq_X4_fill_X1 ha_11 ka_11 (by decide) rfl 4 (by decide) (by decide) (by decide +kernel) rfl (by decide) (v := (q.1 a_11 4)) rfl dX4_fill_77 ?_
          exact Jn_80_13 (q.1 a_11 4)
        · refine wa_aload B dX4_fill_55 0 rfl ?_
          refine wa_getI B (C := RX1) (T := TX1) (N := 7) iq_X4_fill_X1 ha_11 ka_11 (by decide) rfl 4 (by decide) (by decide) (by decide +kernel) rfl (by decide) (v := (q.1 a_11 4)) rfl dX4_fill_57 ?_
          refine wa_bipush B 10 dX4_fill_60 (by decide) ?_
          refine wa_aload_n B dX4_fill_62 rfl 1 rfl ?_
          obtain ⟨a_67, ea_67, ha_67, ka_67, la_67⟩ := hV.refn (n := 4) (t := 100) ha0 ka0 5 rfl (by decide) rfl (by decide)
          refine wa_getR B (C := RX4) (T := TX4) (N := 7) iq_X4_fill_X4 ha0 ka0 (by decide) rfl 5 (by decide) (by decide) (by decide +kernel) rfl (fun _ _ _ => rfl) (v := a_67) ea_67 dX4_fill_63 ?_
          refine wa_iload_n B dX4_fill_66 rfl 3 rfl ?_
          refine wa_iconst B 1 dX4_fill_67 (by decide) ?_
          refine wa_isub B dX4_fill_68 (fun v_68 ev_68 => ?_)
          have tv_68 : v_68.toInt = n1.toInt - 1 := by have b0 := zx_bd n1; rw [ev_68]; exact zx_sub (show (-2147483648 : Int) ≤ n1.toInt - 1 by omega) (show n1.toInt - 1 < (2147483648 : Int) by omega)
          refine wa_iaload B ha_67 ka_67 (by decide) (by decide) (show 0 ≤ v_68.toInt by omega) (show v_68.toInt < (h.2.1 a_67 : Int) by omega) (v := (q.2.2.2.1 a_67 (v_68 : Int32).toNatClampNeg)) rfl dX4_fill_69 ?_
          refine wa_imul B dX4_fill_70 (fun v_69 ev_69 => ?_)
          refine wa_isub B dX4_fill_71 (fun v_70 ev_70 => ?_)
          refine wa_goto B 80 dX4_fill_72 (by decide) ?_
          exact Jn_80_13 v_70
    · refine wa_aload_n B dX4_fill_13 rfl 1 rfl ?_
      refine wa_aload_n B dX4_fill_14 rfl 1 rfl ?_
      refine wa_getI B (C := RX5) (T := TX5) (N := 7) iq_X4_fill_X5 ha1 ka1 (by decide) rfl 6 (by decide) (by decide) (by decide +kernel) rfl (by decide) (v := (q.1 a1 6)) rfl dX4_fill_15 ?_
      refine wa_iload_n B dX4_fill_18 rfl 3 rfl ?_
      refine wa_mmin B (by decide +kernel) (by decide +kernel) (by decide +kernel) (by decide +kernel) (Nat.le_of_ble_eq_true rfl) (Nat.le_of_ble_eq_true rfl) dX4_fill_19 (fun v_71 ev_71 => ?_)
      have gv_71 : (v_71.toInt = (q.1 a1 6).toInt ∨ v_71.toInt = n2.toInt) ∧ (q.1 a1 6).toInt ≥ v_71.toInt ∧ n2.toInt ≥ v_71.toInt := by rw [ev_71]; exact zx_min
      refine wa_putI B (C := RX5) (T := TX5) (N := 7) iq_X4_fill_X5 ha1 ka1 (by decide) rfl 6 (by decide) (by decide) (by decide +kernel) rfl (by decide) (v := v_71) (ty := .int) tyX5 tyX5_ok nmX5 rfl (by decide +kernel) rfl rfl dX4_fill_22 (fun q_72 eq_72 => ?_)
      have hV_q_72 : sx_V h L q_72 := by rw [eq_72]; exact hV.pI ka1 trivial
      have hF_q_72 : sx_fr h L (fun a => a = a1 ∧ h.1 a = 5 ∨ h.1 a = 1 ∨ h.1 a = 2) q q_72 := hF.tr (by rw [eq_72]; exact sx_fr.pI (show a1 = a1 ∧ h.1 a1 = 5 ∨ h.1 a1 = 1 ∨ h.1 a1 = 2 from by omega))
      have z_73 : q_72.1 a1 6 = v_71 := by rw [eq_72]; exact sg_pI_e
      refine wa_iload_n B dX4_fill_25 rfl 3 rfl ?_
      refine wa_if_ne B 34 dX4_fill_26 (by decide) (fun (t_74 : ¬ n2.toInt = 0) => ?_) (fun (t_74 : n2.toInt = 0) => ?_)
      · exact hret _ _ _ dX4_fill_34 ⟨hV_q_72, hF_q_72⟩
      · refine wa_aload_n B dX4_fill_29 rfl 0 rfl ?_
        refine wa_aload_n B dX4_fill_30 rfl 1 rfl ?_
        refine wa_callVv B (x := (RX4, TX4, 7)) (As := [.ref a1]) (rest := []) (k_X4_noteReading l dC dI h L hN q_72 hV_q_72 (a0 := a0) ha0 ka0 (a1 := a1) ha1 ka1  ) (cwV 1 B.1.2.2.2.2 gX4_fill_X4_noteReading rfl rfl rfl (by decide +kernel) ⟨Nat.le_of_ble_eq_true rfl, Nat.le_of_ble_eq_true rfl⟩) ha0 ka0 (by decide) rfl rfl rfl (Nat.le_of_ble_eq_true rfl) dX4_fill_31 (fun q_75 w_76 => ?_)
        obtain ⟨hV_q_75, h2_q_75⟩ := w_76
        have hF_q_75 : sx_fr h L (fun a => a = a1 ∧ h.1 a = 5 ∨ h.1 a = 1 ∨ h.1 a = 2) q q_75 := hF_q_72.tr (h2_q_75.mono (fun a (z : a = a1 ∧ h.1 a = 5 ∨ h.1 a = 1 ∨ h.1 a = 2) => (show a = a1 ∧ h.1 a = 5 ∨ h.1 a = 1 ∨ h.1 a = 2 from by omega)))
        exact hret _ _ _ dX4_fill_34 ⟨hV_q_75, hF_q_75⟩
set_option maxHeartbeats 4000000 in
set_option maxRecDepth 100000 in
theorem k_X4_fill_2 (l : Launch) (dC : Nat → ClassId) (dI : Nat → Nat → Nat) (h : Sh) (L : List Nat) (hN : sx_nd L) (q : Sg) (hV : sx_V h L q) {a0 : Nat} (ha0 : a0 ∈ L) (ka0 : h.1 a0 = 4) {a1 : Nat} (ha1 : a1 ∈ L) (ka1 : h.1 a1 = 5) (n1 : Int32) (n2 : Int32)  (hy0 : n1.toInt = 2) : CMv l dC dI h L yX4_fill wsX4_fill ({ frames := 5, cells := 0, slots := 0, locals := 117 } : Room) q [.ref a0, .ref a1, .int n1, .int n2] (fun q' => sx_V h L q' ∧ sx_fr h L (fun a => a = a1 ∧ h.1 a = 5 ∨ h.1 a = 1 ∨ h.1 a = 2) q q') := by
  refine cm_v (cc := cX4_fill) (mL := 8) (own := RX4) hN (by decide) rfl rfl (Nat.le_of_ble_eq_true rfl) (fun Z B hret => ?_)
  have hF : sx_fr h L (fun a => a = a1 ∧ h.1 a = 5 ∨ h.1 a = 1 ∨ h.1 a = 2) q q := sx_fr.rf
  show WA l dC dI h L ({ frames := 5, cells := 0, slots := 0, locals := 117 } : Room) 8 Z q 0 [(0, .ref a0), (1, .ref a1), (2, .int n1), (3, .int n2)] []
  refine wa_iload_n B dX4_fill_0 rfl 2 rfl ?_
  refine wa_aload_n B dX4_fill_1 rfl 1 rfl ?_
  refine wa_getI B (C := RX5) (T := TX5) (N := 7) iq_X4_fill_X5 ha1 ka1 (by decide) rfl 3 (by decide) (by decide) (by decide +kernel) rfl (by decide) (v := (q.1 a1 3)) rfl dX4_fill_2 ?_
  have g_1 : (0 : Int) ≤ (q.1 a1 3).toInt ∧ (q.1 a1 3).toInt ≤ 4 := hV.int ha1 ka1 3
  refine wa_icmp_ge B 13 dX4_fill_5 (by decide) (fun (t_2 : (q.1 a1 3).toInt ≤ n1.toInt) => ?_) (fun (t_2 : ¬ (q.1 a1 3).toInt ≤ n1.toInt) => ?_)
  · refine wa_aload_n B dX4_fill_13 rfl 1 rfl ?_
    refine wa_aload_n B dX4_fill_14 rfl 1 rfl ?_
    refine wa_getI B (C := RX5) (T := TX5) (N := 7) iq_X4_fill_X5 ha1 ka1 (by decide) rfl 6 (by decide) (by decide) (by decide +kernel) rfl (by decide) (v := (q.1 a1 6)) rfl dX4_fill_15 ?_
    refine wa_iload_n B dX4_fill_18 rfl 3 rfl ?_
    refine wa_mmin B (by decide +kernel) (by decide +kernel) (by decide +kernel) (by decide +kernel) (Nat.le_of_ble_eq_true rfl) (Nat.le_of_ble_eq_true rfl) dX4_fill_19 (fun v_3 ev_3 => ?_)
    have gv_3 : (v_3.toInt = (q.1 a1 6).toInt ∨ v_3.toInt = n2.toInt) ∧ (q.1 a1 6).toInt ≥ v_3.toInt ∧ n2.toInt ≥ v_3.toInt := by rw [ev_3]; exact zx_min
    refine wa_putI B (C := RX5) (T := TX5) (N := 7) iq_X4_fill_X5 ha1 ka1 (by decide) rfl 6 (by decide) (by decide) (by decide +kernel) rfl (by decide) (v := v_3) (ty := .int) tyX5 tyX5_ok nmX5 rfl (by decide +kernel) rfl rfl dX4_fill_22 (fun q_4 eq_4 => ?_)
    have hV_q_4 : sx_V h L q_4 := by rw [eq_4]; exact hV.pI ka1 trivial
    have hF_q_4 : sx_fr h L (fun a => a = a1 ∧ h.1 a = 5 ∨ h.1 a = 1 ∨ h.1 a = 2) q q_4 := hF.tr (by rw [eq_4]; exact sx_fr.pI (show a1 = a1 ∧ h.1 a1 = 5 ∨ h.1 a1 = 1 ∨ h.1 a1 = 2 from by omega))
    have z_5 : q_4.1 a1 6 = v_3 := by rw [eq_4]; exact sg_pI_e
    refine wa_iload_n B dX4_fill_25 rfl 3 rfl ?_
    refine wa_if_ne B 34 dX4_fill_26 (by decide) (fun (t_6 : ¬ n2.toInt = 0) => ?_) (fun (t_6 : n2.toInt = 0) => ?_)
    · exact hret _ _ _ dX4_fill_34 ⟨hV_q_4, hF_q_4⟩
    · refine wa_aload_n B dX4_fill_29 rfl 0 rfl ?_
      refine wa_aload_n B dX4_fill_30 rfl 1 rfl ?_
      refine wa_callVv B (x := (RX4, TX4, 7)) (As := [.ref a1]) (rest := []) (k_X4_noteReading l dC dI h L hN q_4 hV_q_4 (a0 := a0) ha0 ka0 (a1 := a1) ha1 ka1  ) (cwV 1 B.1.2.2.2.2 gX4_fill_X4_noteReading rfl rfl rfl (by decide +kernel) ⟨Nat.le_of_ble_eq_true rfl, Nat.le_of_ble_eq_true rfl⟩) ha0 ka0 (by decide) rfl rfl rfl (Nat.le_of_ble_eq_true rfl) dX4_fill_31 (fun q_7 w_8 => ?_)
      obtain ⟨hV_q_7, h2_q_7⟩ := w_8
      have hF_q_7 : sx_fr h L (fun a => a = a1 ∧ h.1 a = 5 ∨ h.1 a = 1 ∨ h.1 a = 2) q q_7 := hF_q_4.tr (h2_q_7.mono (fun a (z : a = a1 ∧ h.1 a = 5 ∨ h.1 a = 1 ∨ h.1 a = 2) => (show a = a1 ∧ h.1 a = 5 ∨ h.1 a = 1 ∨ h.1 a = 2 from by omega)))
      exact hret _ _ _ dX4_fill_34 ⟨hV_q_7, hF_q_7⟩
  · refine wa_iload_n B dX4_fill_8 rfl 2 rfl ?_
    refine wa_iconst B 4 dX4_fill_9 (by decide) ?_
    refine wa_icmp_lt B 35 dX4_fill_10 (by decide) (fun (t_9 : n1.toInt < 4) => ?_) (fun (t_9 : ¬ n1.toInt < 4) => ?_)
    · refine wa_aload_n B dX4_fill_35 rfl 1 rfl ?_
      obtain ⟨a_10, ea_10, ha_10, ka_10, la_10⟩ := hV.refn (n := 4) (t := 402) ha1 ka1 1 rfl (by decide) rfl (by decide)
      refine wa_getR B (C := RX5) (T := TX5) (N := 7) iq_X4_fill_X5 ha1 ka1 (by decide) rfl 1 (by decide) (by decide) (by decide +kernel) rfl (fun _ _ _ => rfl) (v := a_10) ea_10 dX4_fill_36 ?_
      refine wa_iload_n B dX4_fill_39 rfl 2 rfl ?_
      obtain ⟨a_11, ea_11, ha_11, ka_11⟩ := hV.elem (t := 1) ha_10 ka_10 (by decide) rfl (zx_ix (i := n1) (show 0 ≤ n1.toInt by omega) (show n1.toInt < (h.2.1 a_10 : Int) by omega))
      refine wa_aaload B (t0 := 5) ha_10 ka_10 (by decide) rfl (show 0 ≤ n1.toInt by omega) (show n1.toInt < (h.2.1 a_10 : Int) by omega) (v := a_11) ea_11 dX4_fill_40 ?_
      refine wa_astore B [(4, .ref a_11), (0, .ref a0), (1, .ref a1), (2, .int n1), (3, .int n2)] dX4_fill_41 (by decide) rfl ?_
      refine wa_aload B dX4_fill_43 0 rfl ?_
      refine wa_getI B (C := RX1) (T := TX1) (N := 7) iq_X4_fill_X1 ha_11 ka_11 (by decide) rfl 5 (by decide) (by decide) (by decide +kernel) rfl (by decide) (v := (q.1 a_11 5)) rfl dX4_fill_45 ?_
      have Jn_80_13 : ∀  (v_12 : Int32), WA l dC dI h L ({ frames := 5, cells := 0, slots := 0, locals := 117 } : Room) 8 Z q 80 [(4, .ref a_11), (0, .ref a0), (1, .ref a1), (2, .int n1), (3, .int n2)] [.int v_12] := by
        intro v_12
        refine wa_istore B [(5, .int v_12), (4, .ref a_11), (0, .ref a0), (1, .ref a1), (2, .int n1), (3, .int n2)] dX4_fill_80 (by decide) rfl ?_
        refine wa_aload B dX4_fill_82 1 rfl ?_
        refine wa_getI B (C := RX1) (T := TX1) (N := 7) iq_X4_fill_X1 ha_11 ka_11 (by decide) rfl 3 (by decide) (by decide) (by decide +kernel) rfl (by decide) (v := (q.1 a_11 3)) rfl dX4_fill_84 ?_
        refine wa_istore B [(6, .int (q.1 a_11 3)), (5, .int v_12), (4, .ref a_11), (0, .ref a0), (1, .ref a1), (2, .int n1), (3, .int n2)] dX4_fill_87 (by decide) rfl ?_
        have Lp_89_16 : ∀ (n : Nat) (v_14 : Int32) (q_15 : Sg), sx_V h L q_15 → sx_fr h L (fun a => a = a1 ∧ h.1 a = 5 ∨ h.1 a = 1 ∨ h.1 a = 2) q q_15 → q_15.2.2.1 a1 1 = a_10 → (10 - v_14.toInt : Int).toNat < n → WA l dC dI h L ({ frames := 5, cells := 0, slots := 0, locals := 117 } : Room) 8 Z q_15 89 [(6, .int v_14), (5, .int v_12), (4, .ref a_11), (0, .ref a0), (1, .ref a1), (2, .int n1), (3, .int n2)] [] := by
          intro n
          induction n with
          | zero =>
            intro v_14 q_15 hV_q_15 hF_q_15 p0_q_15 hn
            exact absurd hn (Nat.not_lt_zero _)
          | succ n ih_17 =>
            intro v_14 q_15 hV_q_15 hF_q_15 p0_q_15 hn
            refine wa_iload B dX4_fill_89 0 rfl ?_
            refine wa_bipush B 9 dX4_fill_91 (by decide) ?_
            refine wa_icmp_gt B 204 dX4_fill_93 (by decide) (fun (t_18 : 9 < v_14.toInt) => ?_) (fun (t_18 : ¬ 9 < v_14.toInt) => ?_)
            · exact hret _ _ _ dX4_fill_204 ⟨hV_q_15, hF_q_15⟩
            · refine wa_iload B dX4_fill_96 0 rfl ?_
              refine wa_aload B dX4_fill_98 2 rfl ?_
              refine wa_getI B (C := RX1) (T := TX1) (N := 7) iq_X4_fill_X1 ha_11 ka_11 (by decide) rfl 1 (by decide) (by decide) (by decide +kernel) rfl (by decide) (v := (q_15.1 a_11 1)) rfl dX4_fill_100 ?_
              refine wa_imul B dX4_fill_103 (fun v_19 ev_19 => ?_)
              refine wa_iload B dX4_fill_104 1 rfl ?_
              refine wa_icmp_gt B 204 dX4_fill_106 (by decide) (fun (t_20 : v_12.toInt < v_19.toInt) => ?_) (fun (t_20 : ¬ v_12.toInt < v_19.toInt) => ?_)
              · exact hret _ _ _ dX4_fill_204 ⟨hV_q_15, hF_q_15⟩
              · refine wa_aload_n B dX4_fill_109 rfl 3 rfl ?_
                obtain ⟨a_21, ea_21, ha_21, ka_21, la_21⟩ := hV_q_15.refn (n := 4) (t := 100) ha0 ka0 5 rfl (by decide) rfl (by decide)
                refine wa_getR B (C := RX4) (T := TX4) (N := 7) iq_X4_fill_X4 ha0 ka0 (by decide) rfl 5 (by decide) (by decide) (by decide +kernel) rfl (fun _ _ _ => rfl) (v := a_21) ea_21 dX4_fill_110 ?_
                refine wa_iload_n B dX4_fill_113 rfl 5 rfl ?_
                refine wa_iload B dX4_fill_114 0 rfl ?_
                refine wa_iastore B ha_21 ka_21 (by decide) (by decide) (show 0 ≤ n1.toInt by omega) (show n1.toInt < (h.2.1 a_21 : Int) by omega) dX4_fill_116 (fun q_22 eq_22 => ?_)
                have hV_q_22 : sx_V h L q_22 := by rw [eq_22]; exact hV_q_15.up1 ha_21 ka_21 trivial
                have hF_q_22 : sx_fr h L (fun a => a = a1 ∧ h.1 a = 5 ∨ h.1 a = 1 ∨ h.1 a = 2) q q_22 := hF_q_15.tr (by rw [eq_22]; exact sx_fr.pG (show h.1 a_21 = 100 ∨ (a_21 = a1 ∧ h.1 a_21 = 5 ∨ h.1 a_21 = 1 ∨ h.1 a_21 = 2) from by omega))
                have z_23 : q_22.2.2.2.1 a_21 (n1 : Int32).toNatClampNeg = v_14 := by rw [eq_22, sg_pG_e]; exact if_pos rfl
                refine wa_iconst B 0 dX4_fill_117 (by decide) ?_
                refine wa_istore B [(7, .int 0), (6, .int v_14), (5, .int v_12), (4, .ref a_11), (0, .ref a0), (1, .ref a1), (2, .int n1), (3, .int n2)] dX4_fill_118 (by decide) rfl ?_
                have z_26 : q_22.1 a_11 1 = q_15.1 a_11 1 := (show q_22.1 a_11 1 = q_15.1 a_11 1 from by rw [eq_22]; rfl)
                have z_27 : q_22.2.2.1 a1 1 = a_10 := ((show q_22.2.2.1 a1 1 = q_15.2.2.1 a1 1 from by rw [eq_22]; rfl)).trans (p0_q_15)
                have z_28 : q_22.2.2.1 a0 5 = a_21 := ((show q_22.2.2.1 a0 5 = q_15.2.2.1 a0 5 from by rw [eq_22]; rfl)).trans (ea_21)
                have Lp_120_30 : ∀ (n : Nat) (v_24 : Int32) (q_25 : Sg), sx_V h L q_25 → sx_fr h L (fun a => a = a1 ∧ h.1 a = 5 ∨ h.1 a = 1 ∨ h.1 a = 2) q q_25 → q_25.1 a_11 1 = (q_15.1 a_11 1) → q_25.2.2.1 a1 1 = a_10 → q_25.2.2.1 a0 5 = a_21 → 0 ≤ v_24.toInt → ((q_25.1 a0 0).toInt - v_24.toInt : Int).toNat < n → WA l dC dI h L ({ frames := 5, cells := 0, slots := 0, locals := 117 } : Room) 8 Z q_25 120 [(7, .int v_24), (6, .int v_14), (5, .int v_12), (4, .ref a_11), (0, .ref a0), (1, .ref a1), (2, .int n1), (3, .int n2)] [] := by
                  intro n
                  induction n with
                  | zero =>
                    intro v_24 q_25 hV_q_25 hF_q_25 p0_q_25 p1_q_25 p2_q_25 x_29 hn
                    exact absurd hn (Nat.not_lt_zero _)
                  | succ n ih_31 =>
                    intro v_24 q_25 hV_q_25 hF_q_25 p0_q_25 p1_q_25 p2_q_25 x_29 hn
                    refine wa_iload B dX4_fill_120 0 rfl ?_
                    refine wa_aload_n B dX4_fill_122 rfl 4 rfl ?_
                    refine wa_getI B (C := RX4) (T := TX4) (N := 7) iq_X4_fill_X4 ha0 ka0 (by decide) rfl 0 (by decide) (by decide) (by decide +kernel) rfl (by decide) (v := (q_25.1 a0 0)) rfl dX4_fill_123 ?_
                    have g_32 : (0 : Int) ≤ (q_25.1 a0 0).toInt ∧ (q_25.1 a0 0).toInt ≤ 12 := hV_q_25.int ha0 ka0 0
                    refine wa_icmp_ge B 169 dX4_fill_126 (by decide) (fun (t_33 : (q_25.1 a0 0).toInt ≤ v_24.toInt) => ?_) (fun (t_33 : ¬ (q_25.1 a0 0).toInt ≤ v_24.toInt) => ?_)
                    · refine wa_aload_n B dX4_fill_169 rfl 4 rfl ?_
                      refine wa_iload_n B dX4_fill_170 rfl 6 rfl ?_
                      refine wa_iconst B 1 dX4_fill_171 (by decide) ?_
                      refine wa_iadd B dX4_fill_172 (fun v_34 ev_34 => ?_)
                      have tv_34 : v_34.toInt = n1.toInt + 1 := by have b0 := zx_bd n1; rw [ev_34]; exact zx_add (show (-2147483648 : Int) ≤ n1.toInt + 1 by omega) (show n1.toInt + 1 < (2147483648 : Int) by omega)
                      refine wa_callVi B (x := (RX4, TX4, 7)) (As := [.int v_34]) (rest := []) (k_X4_missedWith l dC dI h L hN q_25 hV_q_25 (a0 := a0) ha0 ka0 v_34  (by first | assumption | omega | decide) (by first | assumption | omega | decide)) (cwV 1 B.1.2.2.2.2 gX4_fill_X4_missedWith rfl rfl rfl (by decide +kernel) ⟨Nat.le_of_ble_eq_true rfl, Nat.le_of_ble_eq_true rfl⟩) ha0 ka0 (by decide) rfl rfl rfl (Nat.le_of_ble_eq_true rfl) dX4_fill_173 (fun r_36 q_35 w_37 => ?_)
                      subst w_37
                      refine wa_istore B [(7, .int r_36), (6, .int v_14), (5, .int v_12), (4, .ref a_11), (0, .ref a0), (1, .ref a1), (2, .int n1), (3, .int n2)] dX4_fill_176 (by decide) rfl ?_
                      refine wa_aload_n B dX4_fill_178 rfl 4 rfl ?_
                      refine wa_aload_n B dX4_fill_179 rfl 5 rfl ?_
                      refine wa_iload B dX4_fill_180 0 rfl ?_
                      refine wa_callVi B (x := (RX4, TX4, 7)) (As := [.ref a1, .int r_36]) (rest := []) (k_X4_isWorthwhile l dC dI h L hN q_25 hV_q_25 (a0 := a0) ha0 ka0 (a1 := a1) ha1 ka1 r_36  ) (cwV 2 B.1.2.2.2.2 gX4_fill_X4_isWorthwhile rfl rfl rfl (by decide +kernel) ⟨Nat.le_of_ble_eq_true rfl, Nat.le_of_ble_eq_true rfl⟩) ha0 ka0 (by decide) rfl rfl rfl (Nat.le_of_ble_eq_true rfl) dX4_fill_182 (fun r_39 q_38 w_40 => ?_)
                      obtain ⟨ew_40, hw_40⟩ := w_40
                      subst ew_40
                      refine wa_if_eq B 198 dX4_fill_185 (by decide) (fun (t_41 : r_39.toInt = 0) => ?_) (fun (t_41 : ¬ r_39.toInt = 0) => ?_)
                      · obtain ⟨v_42, ev_42⟩ : ∃ z : Int32, z = v_14 + 1 := ⟨_, rfl⟩
                        refine wa_iinc B [(6, .int v_42), (7, .int r_36), (5, .int v_12), (4, .ref a_11), (0, .ref a0), (1, .ref a1), (2, .int n1), (3, .int n2)] v_42 dX4_fill_198 1 rfl (by rw [ev_42]; rfl) (by decide) rfl ?_
                        refine wa_goto B 89 dX4_fill_201 (by decide) ?_
                        have tv_42 : v_42.toInt = v_14.toInt + 1 := by have b0 := zx_bd v_14; rw [ev_42]; exact zx_add (show (-2147483648 : Int) ≤ v_14.toInt + 1 by omega) (show v_14.toInt + 1 < (2147483648 : Int) by omega)
                        refine WA.sub [0, 2, 3, 4, 5, 6, 7] rfl ?_
                        exact ih_17 v_42 q_25 hV_q_25 hF_q_25 p1_q_25 (show (10 - v_42.toInt : Int).toNat < _ from by omega)
                      · refine wa_aload_n B dX4_fill_188 rfl 4 rfl ?_
                        refine wa_aload_n B dX4_fill_189 rfl 5 rfl ?_
                        refine wa_iload_n B dX4_fill_190 rfl 6 rfl ?_
                        refine wa_iconst B 1 dX4_fill_191 (by decide) ?_
                        refine wa_iadd B dX4_fill_192 (fun v_43 ev_43 => ?_)
                        refine wa_iload B dX4_fill_193 0 rfl ?_
                        have tv_43 : v_43.toInt = n1.toInt + 1 := by have b0 := zx_bd n1; rw [ev_43]; exact zx_add (show (-2147483648 : Int) ≤ n1.toInt + 1 by omega) (show n1.toInt + 1 < (2147483648 : Int) by omega)
                        refine wa_callVv B (x := (RX4, TX4, 7)) (As := [.ref a1, .int v_43, .int r_36]) (rest := []) (k_X4_fill_3 l dC dI h L hN q_25 hV_q_25 (a0 := a0) ha0 ka0 (a1 := a1) ha1 ka1 v_43 r_36  (by first | assumption | omega | decide)) (cwV 3 B.1.2.2.2.2 gX4_fill_X4_fill rfl rfl rfl (by decide +kernel) ⟨Nat.le_of_ble_eq_true rfl, Nat.le_of_ble_eq_true rfl⟩) ha0 ka0 (by decide) rfl rfl rfl (Nat.le_of_ble_eq_true rfl) dX4_fill_195 (fun q_44 w_45 => ?_)
                        obtain ⟨hV_q_44, h2_q_44⟩ := w_45
                        have hF_q_44 : sx_fr h L (fun a => a = a1 ∧ h.1 a = 5 ∨ h.1 a = 1 ∨ h.1 a = 2) q q_44 := hF_q_25.tr (h2_q_44.mono (fun a (z : a = a1 ∧ h.1 a = 5 ∨ h.1 a = 1 ∨ h.1 a = 2) => (show a = a1 ∧ h.1 a = 5 ∨ h.1 a = 1 ∨ h.1 a = 2 from by omega)))
                        obtain ⟨v_46, ev_46⟩ : ∃ z : Int32, z = v_14 + 1 := ⟨_, rfl⟩
                        refine wa_iinc B [(6, .int v_46), (7, .int r_36), (5, .int v_12), (4, .ref a_11), (0, .ref a0), (1, .ref a1), (2, .int n1), (3, .int n2)] v_46 dX4_fill_198 1 rfl (by rw [ev_46]; rfl) (by decide) rfl ?_
                        refine wa_goto B 89 dX4_fill_201 (by decide) ?_
                        have tv_46 : v_46.toInt = v_14.toInt + 1 := by have b0 := zx_bd v_14; rw [ev_46]; exact zx_add (show (-2147483648 : Int) ≤ v_14.toInt + 1 by omega) (show v_14.toInt + 1 < (2147483648 : Int) by omega)
                        have z_47 : q_44.2.2.1 a1 1 = a_10 := (h2_q_44.R ha1 (show ¬ ((a1 = a1 ∧ h.1 a1 = 5 ∨ h.1 a1 = 1 ∨ h.1 a1 = 2) ∧ (h.1 a1 = 8 ∨ h.1 a1 = 11)) from by omega) 1).trans (p1_q_25)
                        refine WA.sub [0, 2, 3, 4, 5, 6, 7] rfl ?_
                        exact ih_17 v_46 q_44 hV_q_44 hF_q_44 z_47 (show (10 - v_46.toInt : Int).toNat < _ from by omega)
                    · refine wa_aload_n B dX4_fill_129 rfl 4 rfl ?_
                      obtain ⟨a_48, ea_48, ha_48, ka_48, la_48⟩ := hV_q_25.refn (n := 5) (t := 404) ha0 ka0 1 rfl (by decide) rfl (by decide)
                      refine wa_getR B (C := RX4) (T := TX4) (N := 7) iq_X4_fill_X4 ha0 ka0 (by decide) rfl 1 (by decide) (by decide) (by decide +kernel) rfl (fun _ _ _ => rfl) (v := a_48) ea_48 dX4_fill_130 ?_
                      refine wa_iload_n B dX4_fill_133 rfl 6 rfl ?_
                      refine wa_iconst B 1 dX4_fill_134 (by decide) ?_
                      refine wa_iadd B dX4_fill_135 (fun v_49 ev_49 => ?_)
                      have tv_49 : v_49.toInt = n1.toInt + 1 := by have b0 := zx_bd n1; rw [ev_49]; exact zx_add (show (-2147483648 : Int) ≤ n1.toInt + 1 by omega) (show n1.toInt + 1 < (2147483648 : Int) by omega)
                      obtain ⟨a_50, ea_50, ha_50, ka_50, la_50⟩ := hV_q_25.row ha_48 ka_48 (zx_ix (i := v_49) (show 0 ≤ v_49.toInt by omega) (show v_49.toInt < (h.2.1 a_48 : Int) by omega))
                      refine wa_aaloadA B (t0 := 7) ha_48 ka_48 (by decide) rfl (show 0 ≤ v_49.toInt by omega) (show v_49.toInt < (h.2.1 a_48 : Int) by omega) (v := a_50) ea_50 dX4_fill_136 ?_
                      refine wa_iload B dX4_fill_137 0 rfl ?_
                      refine wa_aload_n B dX4_fill_139 rfl 4 rfl ?_
                      refine wa_getR B (C := RX4) (T := TX4) (N := 7) iq_X4_fill_X4 ha0 ka0 (by decide) rfl 1 (by decide) (by decide) (by decide +kernel) rfl (fun _ _ _ => rfl) (v := a_48) ea_48 dX4_fill_140 ?_
                      refine wa_iload_n B dX4_fill_143 rfl 6 rfl ?_
                      obtain ⟨a_51, ea_51, ha_51, ka_51, la_51⟩ := hV_q_25.row ha_48 ka_48 (zx_ix (i := n1) (show 0 ≤ n1.toInt by omega) (show n1.toInt < (h.2.1 a_48 : Int) by omega))
                      refine wa_aaloadA B (t0 := 7) ha_48 ka_48 (by decide) rfl (show 0 ≤ n1.toInt by omega) (show n1.toInt < (h.2.1 a_48 : Int) by omega) (v := a_51) ea_51 dX4_fill_144 ?_
                      refine wa_iload B dX4_fill_145 0 rfl ?_
                      refine wa_laload B ha_51 ka_51 (by decide) (by decide) (show 0 ≤ v_24.toInt by omega) (show v_24.toInt < (h.2.1 a_51 : Int) by omega) (v := (q_25.2.2.2.2 a_51 (v_24 : Int32).toNatClampNeg)) rfl dX4_fill_147 ?_
                      refine wa_iload B dX4_fill_148 1 rfl ?_
                      refine wa_i2l B dX4_fill_150 (fun v_52 ev_52 => ?_)
                      refine wa_aload_n B dX4_fill_151 rfl 4 rfl ?_
                      obtain ⟨a_53, ea_53, ha_53, ka_53, la_53⟩ := hV_q_25.refn (n := 4) (t := 404) ha0 ka0 2 rfl (by decide) rfl (by decide)
                      refine wa_getR B (C := RX4) (T := TX4) (N := 7) iq_X4_fill_X4 ha0 ka0 (by decide) rfl 2 (by decide) (by decide) (by decide +kernel) rfl (fun _ _ _ => rfl) (v := a_53) ea_53 dX4_fill_152 ?_
                      refine wa_iload_n B dX4_fill_155 rfl 6 rfl ?_
                      obtain ⟨a_54, ea_54, ha_54, ka_54, la_54⟩ := hV_q_25.row ha_53 ka_53 (zx_ix (i := n1) (show 0 ≤ n1.toInt by omega) (show n1.toInt < (h.2.1 a_53 : Int) by omega))
                      refine wa_aaloadA B (t0 := 7) ha_53 ka_53 (by decide) rfl (show 0 ≤ n1.toInt by omega) (show n1.toInt < (h.2.1 a_53 : Int) by omega) (v := a_54) ea_54 dX4_fill_156 ?_
                      refine wa_iload B dX4_fill_157 0 rfl ?_
                      refine wa_laload B ha_54 ka_54 (by decide) (by decide) (show 0 ≤ v_24.toInt by omega) (show v_24.toInt < (h.2.1 a_54 : Int) by omega) (v := (q_25.2.2.2.2 a_54 (v_24 : Int32).toNatClampNeg)) rfl dX4_fill_159 ?_
                      refine wa_lmul B dX4_fill_160 (fun v_55 ev_55 => ?_)
                      refine wa_ladd B dX4_fill_161 (fun v_56 ev_56 => ?_)
                      refine wa_lastore B ha_50 ka_50 (by decide) (by decide) (show 0 ≤ v_24.toInt by omega) (show v_24.toInt < (h.2.1 a_50 : Int) by omega) dX4_fill_162 (fun q_57 eq_57 => ?_)
                      have hV_q_57 : sx_V h L q_57 := by rw [eq_57]; exact hV_q_25.pL
                      have hF_q_57 : sx_fr h L (fun a => a = a1 ∧ h.1 a = 5 ∨ h.1 a = 1 ∨ h.1 a = 2) q q_57 := hF_q_25.tr (by rw [eq_57]; exact sx_fr.pL (show h.1 a_50 = 200 ∨ (a_50 = a1 ∧ h.1 a_50 = 5 ∨ h.1 a_50 = 1 ∨ h.1 a_50 = 2) from by omega))
                      have z_58 : q_57.2.2.2.2 a_50 (v_24 : Int32).toNatClampNeg = v_56 := by rw [eq_57, sg_pL_e]; exact if_pos rfl
                      obtain ⟨v_59, ev_59⟩ : ∃ z : Int32, z = v_24 + 1 := ⟨_, rfl⟩
                      refine wa_iinc B [(7, .int v_59), (6, .int v_14), (5, .int v_12), (4, .ref a_11), (0, .ref a0), (1, .ref a1), (2, .int n1), (3, .int n2)] v_59 dX4_fill_163 0 rfl (by rw [ev_59]; rfl) (by decide) rfl ?_
                      refine wa_goto B 120 dX4_fill_166 (by decide) ?_
                      have tv_59 : v_59.toInt = v_24.toInt + 1 := by have b0 := zx_bd v_24; rw [ev_59]; exact zx_add (show (-2147483648 : Int) ≤ v_24.toInt + 1 by omega) (show v_24.toInt + 1 < (2147483648 : Int) by omega)
                      have z_60 : q_57.1 a0 0 = q_25.1 a0 0 := (show q_57.1 a0 0 = q_25.1 a0 0 from by rw [eq_57]; rfl)
                      have y_61 : (q_57.1 a0 0).toInt = (q_25.1 a0 0).toInt := by rw [z_60]
                      have z_62 : q_57.1 a_11 1 = (q_15.1 a_11 1) := ((show q_57.1 a_11 1 = q_25.1 a_11 1 from by rw [eq_57]; rfl)).trans (p0_q_25)
                      have z_63 : q_57.2.2.1 a1 1 = a_10 := ((show q_57.2.2.1 a1 1 = q_25.2.2.1 a1 1 from by rw [eq_57]; rfl)).trans (p1_q_25)
                      have z_64 : q_57.2.2.1 a0 5 = a_21 := ((show q_57.2.2.1 a0 5 = q_25.2.2.1 a0 5 from by rw [eq_57]; rfl)).trans (p2_q_25)
                      exact ih_31 v_59 q_57 hV_q_57 hF_q_57 z_62 z_63 z_64 (show 0 ≤ v_59.toInt from by first | assumption | omega | decide) (show ((q_57.1 a0 0).toInt - v_59.toInt : Int).toNat < _ from by omega)
                exact Lp_120_30 _ 0 q_22 hV_q_22 hF_q_22 z_26 z_27 z_28 (show 0 ≤ 0 from by first | assumption | omega | decide) (Nat.lt_succ_self _)
        exact Lp_89_16 _ (q.1 a_11 3) q hV hF ea_10 (Nat.lt_succ_self _)
      refine wa_if_eq B 75 dX4_fill_48 (by decide) (fun (t_65 : (q.1 a_11 5).toInt = 0) => ?_) (fun (t_65 : ¬ (q.1 a_11 5).toInt = 0) => ?_)
      · refine wa_aload B dX4_fill_75 0 rfl ?_
        refine wa_getI B (C := RX1) (T := TX1) (N := 7) iq_X4_fill_X1 ha_11 ka_11 (by decide) rfl 4 (by decide) (by decide) (by decide +kernel) rfl (by decide) (v := (q.1 a_11 4)) rfl dX4_fill_77 ?_
        exact Jn_80_13 (q.1 a_11 4)
      · refine wa_iload_n B dX4_fill_51 rfl 3 rfl ?_
        refine wa_if_le B 75 dX4_fill_52 (by decide) (fun (t_66 : n1.toInt ≤ 0) => ?_) (fun (t_66 : ¬ n1.toInt ≤ 0) => ?_)
        · refine wa_aload B dX4_fill_75 0 rfl ?_
          refine wa_getI B (C := RX1) (T := TX1) (N := 7) iq_X4_fill_X1 ha_11 ka_11 (by decide) rfl 4 (by decide) (by decide) (by decide +kernel) rfl (by decide) (v := (q.1 a_11 4)) rfl dX4_fill_77 ?_
          exact Jn_80_13 (q.1 a_11 4)
        · refine wa_aload B dX4_fill_55 0 rfl ?_
          refine wa_getI B (C := RX1) (T := TX1) (N := 7) iq_X4_fill_X1 ha_11 ka_11 (by decide) rfl 4 (by decide) (by decide) (by decide +kernel) rfl (by decide) (v := (q.1 a_11 4)) rfl dX4_fill_57 ?_
          refine wa_bipush B 10 dX4_fill_60 (by decide) ?_
          refine wa_aload_n B dX4_fill_62 rfl 1 rfl ?_
          obtain ⟨a_67, ea_67, ha_67, ka_67, la_67⟩ := hV.refn (n := 4) (t := 100) ha0 ka0 5 rfl (by decide) rfl (by decide)
          refine wa_getR B (C := RX4) (T := TX4) (N := 7) iq_X4_fill_X4 ha0 ka0 (by decide) rfl 5 (by decide) (by decide) (by decide +kernel) rfl (fun _ _ _ => rfl) (v := a_67) ea_67 dX4_fill_63 ?_
          refine wa_iload_n B dX4_fill_66 rfl 3 rfl ?_
          refine wa_iconst B 1 dX4_fill_67 (by decide) ?_
          refine wa_isub B dX4_fill_68 (fun v_68 ev_68 => ?_)
          have tv_68 : v_68.toInt = n1.toInt - 1 := by have b0 := zx_bd n1; rw [ev_68]; exact zx_sub (show (-2147483648 : Int) ≤ n1.toInt - 1 by omega) (show n1.toInt - 1 < (2147483648 : Int) by omega)
          refine wa_iaload B ha_67 ka_67 (by decide) (by decide) (show 0 ≤ v_68.toInt by omega) (show v_68.toInt < (h.2.1 a_67 : Int) by omega) (v := (q.2.2.2.1 a_67 (v_68 : Int32).toNatClampNeg)) rfl dX4_fill_69 ?_
          refine wa_imul B dX4_fill_70 (fun v_69 ev_69 => ?_)
          refine wa_isub B dX4_fill_71 (fun v_70 ev_70 => ?_)
          refine wa_goto B 80 dX4_fill_72 (by decide) ?_
          exact Jn_80_13 v_70
    · refine wa_aload_n B dX4_fill_13 rfl 1 rfl ?_
      refine wa_aload_n B dX4_fill_14 rfl 1 rfl ?_
      refine wa_getI B (C := RX5) (T := TX5) (N := 7) iq_X4_fill_X5 ha1 ka1 (by decide) rfl 6 (by decide) (by decide) (by decide +kernel) rfl (by decide) (v := (q.1 a1 6)) rfl dX4_fill_15 ?_
      refine wa_iload_n B dX4_fill_18 rfl 3 rfl ?_
      refine wa_mmin B (by decide +kernel) (by decide +kernel) (by decide +kernel) (by decide +kernel) (Nat.le_of_ble_eq_true rfl) (Nat.le_of_ble_eq_true rfl) dX4_fill_19 (fun v_71 ev_71 => ?_)
      have gv_71 : (v_71.toInt = (q.1 a1 6).toInt ∨ v_71.toInt = n2.toInt) ∧ (q.1 a1 6).toInt ≥ v_71.toInt ∧ n2.toInt ≥ v_71.toInt := by rw [ev_71]; exact zx_min
      refine wa_putI B (C := RX5) (T := TX5) (N := 7) iq_X4_fill_X5 ha1 ka1 (by decide) rfl 6 (by decide) (by decide) (by decide +kernel) rfl (by decide) (v := v_71) (ty := .int) tyX5 tyX5_ok nmX5 rfl (by decide +kernel) rfl rfl dX4_fill_22 (fun q_72 eq_72 => ?_)
      have hV_q_72 : sx_V h L q_72 := by rw [eq_72]; exact hV.pI ka1 trivial
      have hF_q_72 : sx_fr h L (fun a => a = a1 ∧ h.1 a = 5 ∨ h.1 a = 1 ∨ h.1 a = 2) q q_72 := hF.tr (by rw [eq_72]; exact sx_fr.pI (show a1 = a1 ∧ h.1 a1 = 5 ∨ h.1 a1 = 1 ∨ h.1 a1 = 2 from by omega))
      have z_73 : q_72.1 a1 6 = v_71 := by rw [eq_72]; exact sg_pI_e
      refine wa_iload_n B dX4_fill_25 rfl 3 rfl ?_
      refine wa_if_ne B 34 dX4_fill_26 (by decide) (fun (t_74 : ¬ n2.toInt = 0) => ?_) (fun (t_74 : n2.toInt = 0) => ?_)
      · exact hret _ _ _ dX4_fill_34 ⟨hV_q_72, hF_q_72⟩
      · refine wa_aload_n B dX4_fill_29 rfl 0 rfl ?_
        refine wa_aload_n B dX4_fill_30 rfl 1 rfl ?_
        refine wa_callVv B (x := (RX4, TX4, 7)) (As := [.ref a1]) (rest := []) (k_X4_noteReading l dC dI h L hN q_72 hV_q_72 (a0 := a0) ha0 ka0 (a1 := a1) ha1 ka1  ) (cwV 1 B.1.2.2.2.2 gX4_fill_X4_noteReading rfl rfl rfl (by decide +kernel) ⟨Nat.le_of_ble_eq_true rfl, Nat.le_of_ble_eq_true rfl⟩) ha0 ka0 (by decide) rfl rfl rfl (Nat.le_of_ble_eq_true rfl) dX4_fill_31 (fun q_75 w_76 => ?_)
        obtain ⟨hV_q_75, h2_q_75⟩ := w_76
        have hF_q_75 : sx_fr h L (fun a => a = a1 ∧ h.1 a = 5 ∨ h.1 a = 1 ∨ h.1 a = 2) q q_75 := hF_q_72.tr (h2_q_75.mono (fun a (z : a = a1 ∧ h.1 a = 5 ∨ h.1 a = 1 ∨ h.1 a = 2) => (show a = a1 ∧ h.1 a = 5 ∨ h.1 a = 1 ∨ h.1 a = 2 from by omega)))
        exact hret _ _ _ dX4_fill_34 ⟨hV_q_75, hF_q_75⟩
set_option maxHeartbeats 4000000 in
set_option maxRecDepth 100000 in
theorem k_X4_fill_1 (l : Launch) (dC : Nat → ClassId) (dI : Nat → Nat → Nat) (h : Sh) (L : List Nat) (hN : sx_nd L) (q : Sg) (hV : sx_V h L q) {a0 : Nat} (ha0 : a0 ∈ L) (ka0 : h.1 a0 = 4) {a1 : Nat} (ha1 : a1 ∈ L) (ka1 : h.1 a1 = 5) (n1 : Int32) (n2 : Int32)  (hy0 : n1.toInt = 1) : CMv l dC dI h L yX4_fill wsX4_fill ({ frames := 6, cells := 0, slots := 0, locals := 144 } : Room) q [.ref a0, .ref a1, .int n1, .int n2] (fun q' => sx_V h L q' ∧ sx_fr h L (fun a => a = a1 ∧ h.1 a = 5 ∨ h.1 a = 1 ∨ h.1 a = 2) q q') := by
  refine cm_v (cc := cX4_fill) (mL := 8) (own := RX4) hN (by decide) rfl rfl (Nat.le_of_ble_eq_true rfl) (fun Z B hret => ?_)
  have hF : sx_fr h L (fun a => a = a1 ∧ h.1 a = 5 ∨ h.1 a = 1 ∨ h.1 a = 2) q q := sx_fr.rf
  show WA l dC dI h L ({ frames := 6, cells := 0, slots := 0, locals := 144 } : Room) 8 Z q 0 [(0, .ref a0), (1, .ref a1), (2, .int n1), (3, .int n2)] []
  refine wa_iload_n B dX4_fill_0 rfl 2 rfl ?_
  refine wa_aload_n B dX4_fill_1 rfl 1 rfl ?_
  refine wa_getI B (C := RX5) (T := TX5) (N := 7) iq_X4_fill_X5 ha1 ka1 (by decide) rfl 3 (by decide) (by decide) (by decide +kernel) rfl (by decide) (v := (q.1 a1 3)) rfl dX4_fill_2 ?_
  have g_1 : (0 : Int) ≤ (q.1 a1 3).toInt ∧ (q.1 a1 3).toInt ≤ 4 := hV.int ha1 ka1 3
  refine wa_icmp_ge B 13 dX4_fill_5 (by decide) (fun (t_2 : (q.1 a1 3).toInt ≤ n1.toInt) => ?_) (fun (t_2 : ¬ (q.1 a1 3).toInt ≤ n1.toInt) => ?_)
  · refine wa_aload_n B dX4_fill_13 rfl 1 rfl ?_
    refine wa_aload_n B dX4_fill_14 rfl 1 rfl ?_
    refine wa_getI B (C := RX5) (T := TX5) (N := 7) iq_X4_fill_X5 ha1 ka1 (by decide) rfl 6 (by decide) (by decide) (by decide +kernel) rfl (by decide) (v := (q.1 a1 6)) rfl dX4_fill_15 ?_
    refine wa_iload_n B dX4_fill_18 rfl 3 rfl ?_
    refine wa_mmin B (by decide +kernel) (by decide +kernel) (by decide +kernel) (by decide +kernel) (Nat.le_of_ble_eq_true rfl) (Nat.le_of_ble_eq_true rfl) dX4_fill_19 (fun v_3 ev_3 => ?_)
    have gv_3 : (v_3.toInt = (q.1 a1 6).toInt ∨ v_3.toInt = n2.toInt) ∧ (q.1 a1 6).toInt ≥ v_3.toInt ∧ n2.toInt ≥ v_3.toInt := by rw [ev_3]; exact zx_min
    refine wa_putI B (C := RX5) (T := TX5) (N := 7) iq_X4_fill_X5 ha1 ka1 (by decide) rfl 6 (by decide) (by decide) (by decide +kernel) rfl (by decide) (v := v_3) (ty := .int) tyX5 tyX5_ok nmX5 rfl (by decide +kernel) rfl rfl dX4_fill_22 (fun q_4 eq_4 => ?_)
    have hV_q_4 : sx_V h L q_4 := by rw [eq_4]; exact hV.pI ka1 trivial
    have hF_q_4 : sx_fr h L (fun a => a = a1 ∧ h.1 a = 5 ∨ h.1 a = 1 ∨ h.1 a = 2) q q_4 := hF.tr (by rw [eq_4]; exact sx_fr.pI (show a1 = a1 ∧ h.1 a1 = 5 ∨ h.1 a1 = 1 ∨ h.1 a1 = 2 from by omega))
    have z_5 : q_4.1 a1 6 = v_3 := by rw [eq_4]; exact sg_pI_e
    refine wa_iload_n B dX4_fill_25 rfl 3 rfl ?_
    refine wa_if_ne B 34 dX4_fill_26 (by decide) (fun (t_6 : ¬ n2.toInt = 0) => ?_) (fun (t_6 : n2.toInt = 0) => ?_)
    · exact hret _ _ _ dX4_fill_34 ⟨hV_q_4, hF_q_4⟩
    · refine wa_aload_n B dX4_fill_29 rfl 0 rfl ?_
      refine wa_aload_n B dX4_fill_30 rfl 1 rfl ?_
      refine wa_callVv B (x := (RX4, TX4, 7)) (As := [.ref a1]) (rest := []) (k_X4_noteReading l dC dI h L hN q_4 hV_q_4 (a0 := a0) ha0 ka0 (a1 := a1) ha1 ka1  ) (cwV 1 B.1.2.2.2.2 gX4_fill_X4_noteReading rfl rfl rfl (by decide +kernel) ⟨Nat.le_of_ble_eq_true rfl, Nat.le_of_ble_eq_true rfl⟩) ha0 ka0 (by decide) rfl rfl rfl (Nat.le_of_ble_eq_true rfl) dX4_fill_31 (fun q_7 w_8 => ?_)
      obtain ⟨hV_q_7, h2_q_7⟩ := w_8
      have hF_q_7 : sx_fr h L (fun a => a = a1 ∧ h.1 a = 5 ∨ h.1 a = 1 ∨ h.1 a = 2) q q_7 := hF_q_4.tr (h2_q_7.mono (fun a (z : a = a1 ∧ h.1 a = 5 ∨ h.1 a = 1 ∨ h.1 a = 2) => (show a = a1 ∧ h.1 a = 5 ∨ h.1 a = 1 ∨ h.1 a = 2 from by omega)))
      exact hret _ _ _ dX4_fill_34 ⟨hV_q_7, hF_q_7⟩
  · refine wa_iload_n B dX4_fill_8 rfl 2 rfl ?_
    refine wa_iconst B 4 dX4_fill_9 (by decide) ?_
    refine wa_icmp_lt B 35 dX4_fill_10 (by decide) (fun (t_9 : n1.toInt < 4) => ?_) (fun (t_9 : ¬ n1.toInt < 4) => ?_)
    · refine wa_aload_n B dX4_fill_35 rfl 1 rfl ?_
      obtain ⟨a_10, ea_10, ha_10, ka_10, la_10⟩ := hV.refn (n := 4) (t := 402) ha1 ka1 1 rfl (by decide) rfl (by decide)
      refine wa_getR B (C := RX5) (T := TX5) (N := 7) iq_X4_fill_X5 ha1 ka1 (by decide) rfl 1 (by decide) (by decide) (by decide +kernel) rfl (fun _ _ _ => rfl) (v := a_10) ea_10 dX4_fill_36 ?_
      refine wa_iload_n B dX4_fill_39 rfl 2 rfl ?_
      obtain ⟨a_11, ea_11, ha_11, ka_11⟩ := hV.elem (t := 1) ha_10 ka_10 (by decide) rfl (zx_ix (i := n1) (show 0 ≤ n1.toInt by omega) (show n1.toInt < (h.2.1 a_10 : Int) by omega))
      refine wa_aaload B (t0 := 5) ha_10 ka_10 (by decide) rfl (show 0 ≤ n1.toInt by omega) (show n1.toInt < (h.2.1 a_10 : Int) by omega) (v := a_11) ea_11 dX4_fill_40 ?_
      refine wa_astore B [(4, .ref a_11), (0, .ref a0), (1, .ref a1), (2, .int n1), (3, .int n2)] dX4_fill_41 (by decide) rfl ?_
      refine wa_aload B dX4_fill_43 0 rfl ?_
      refine wa_getI B (C := RX1) (T := TX1) (N := 7) iq_X4_fill_X1 ha_11 ka_11 (by decide) rfl 5 (by decide) (by decide) (by decide +kernel) rfl (by decide) (v := (q.1 a_11 5)) rfl dX4_fill_45 ?_
      have Jn_80_13 : ∀  (v_12 : Int32), WA l dC dI h L ({ frames := 6, cells := 0, slots := 0, locals := 144 } : Room) 8 Z q 80 [(4, .ref a_11), (0, .ref a0), (1, .ref a1), (2, .int n1), (3, .int n2)] [.int v_12] := by
        intro v_12
        refine wa_istore B [(5, .int v_12), (4, .ref a_11), (0, .ref a0), (1, .ref a1), (2, .int n1), (3, .int n2)] dX4_fill_80 (by decide) rfl ?_
        refine wa_aload B dX4_fill_82 1 rfl ?_
        refine wa_getI B (C := RX1) (T := TX1) (N := 7) iq_X4_fill_X1 ha_11 ka_11 (by decide) rfl 3 (by decide) (by decide) (by decide +kernel) rfl (by decide) (v := (q.1 a_11 3)) rfl dX4_fill_84 ?_
        refine wa_istore B [(6, .int (q.1 a_11 3)), (5, .int v_12), (4, .ref a_11), (0, .ref a0), (1, .ref a1), (2, .int n1), (3, .int n2)] dX4_fill_87 (by decide) rfl ?_
        have Lp_89_16 : ∀ (n : Nat) (v_14 : Int32) (q_15 : Sg), sx_V h L q_15 → sx_fr h L (fun a => a = a1 ∧ h.1 a = 5 ∨ h.1 a = 1 ∨ h.1 a = 2) q q_15 → q_15.2.2.1 a1 1 = a_10 → (10 - v_14.toInt : Int).toNat < n → WA l dC dI h L ({ frames := 6, cells := 0, slots := 0, locals := 144 } : Room) 8 Z q_15 89 [(6, .int v_14), (5, .int v_12), (4, .ref a_11), (0, .ref a0), (1, .ref a1), (2, .int n1), (3, .int n2)] [] := by
          intro n
          induction n with
          | zero =>
            intro v_14 q_15 hV_q_15 hF_q_15 p0_q_15 hn
            exact absurd hn (Nat.not_lt_zero _)
          | succ n ih_17 =>
            intro v_14 q_15 hV_q_15 hF_q_15 p0_q_15 hn
            refine wa_iload B dX4_fill_89 0 rfl ?_
            refine wa_bipush B 9 dX4_fill_91 (by decide) ?_
            refine wa_icmp_gt B 204 dX4_fill_93 (by decide) (fun (t_18 : 9 < v_14.toInt) => ?_) (fun (t_18 : ¬ 9 < v_14.toInt) => ?_)
            · exact hret _ _ _ dX4_fill_204 ⟨hV_q_15, hF_q_15⟩
            · refine wa_iload B dX4_fill_96 0 rfl ?_
              refine wa_aload B dX4_fill_98 2 rfl ?_
              refine wa_getI B (C := RX1) (T := TX1) (N := 7) iq_X4_fill_X1 ha_11 ka_11 (by decide) rfl 1 (by decide) (by decide) (by decide +kernel) rfl (by decide) (v := (q_15.1 a_11 1)) rfl dX4_fill_100 ?_
              refine wa_imul B dX4_fill_103 (fun v_19 ev_19 => ?_)
              refine wa_iload B dX4_fill_104 1 rfl ?_
              refine wa_icmp_gt B 204 dX4_fill_106 (by decide) (fun (t_20 : v_12.toInt < v_19.toInt) => ?_) (fun (t_20 : ¬ v_12.toInt < v_19.toInt) => ?_)
              · exact hret _ _ _ dX4_fill_204 ⟨hV_q_15, hF_q_15⟩
              · refine wa_aload_n B dX4_fill_109 rfl 3 rfl ?_
                obtain ⟨a_21, ea_21, ha_21, ka_21, la_21⟩ := hV_q_15.refn (n := 4) (t := 100) ha0 ka0 5 rfl (by decide) rfl (by decide)
                refine wa_getR B (C := RX4) (T := TX4) (N := 7) iq_X4_fill_X4 ha0 ka0 (by decide) rfl 5 (by decide) (by decide) (by decide +kernel) rfl (fun _ _ _ => rfl) (v := a_21) ea_21 dX4_fill_110 ?_
                refine wa_iload_n B dX4_fill_113 rfl 5 rfl ?_
                refine wa_iload B dX4_fill_114 0 rfl ?_
                refine wa_iastore B ha_21 ka_21 (by decide) (by decide) (show 0 ≤ n1.toInt by omega) (show n1.toInt < (h.2.1 a_21 : Int) by omega) dX4_fill_116 (fun q_22 eq_22 => ?_)
                have hV_q_22 : sx_V h L q_22 := by rw [eq_22]; exact hV_q_15.up1 ha_21 ka_21 trivial
                have hF_q_22 : sx_fr h L (fun a => a = a1 ∧ h.1 a = 5 ∨ h.1 a = 1 ∨ h.1 a = 2) q q_22 := hF_q_15.tr (by rw [eq_22]; exact sx_fr.pG (show h.1 a_21 = 100 ∨ (a_21 = a1 ∧ h.1 a_21 = 5 ∨ h.1 a_21 = 1 ∨ h.1 a_21 = 2) from by omega))
                have z_23 : q_22.2.2.2.1 a_21 (n1 : Int32).toNatClampNeg = v_14 := by rw [eq_22, sg_pG_e]; exact if_pos rfl
                refine wa_iconst B 0 dX4_fill_117 (by decide) ?_
                refine wa_istore B [(7, .int 0), (6, .int v_14), (5, .int v_12), (4, .ref a_11), (0, .ref a0), (1, .ref a1), (2, .int n1), (3, .int n2)] dX4_fill_118 (by decide) rfl ?_
                have z_26 : q_22.1 a_11 1 = q_15.1 a_11 1 := (show q_22.1 a_11 1 = q_15.1 a_11 1 from by rw [eq_22]; rfl)
                have z_27 : q_22.2.2.1 a1 1 = a_10 := ((show q_22.2.2.1 a1 1 = q_15.2.2.1 a1 1 from by rw [eq_22]; rfl)).trans (p0_q_15)
                have z_28 : q_22.2.2.1 a0 5 = a_21 := ((show q_22.2.2.1 a0 5 = q_15.2.2.1 a0 5 from by rw [eq_22]; rfl)).trans (ea_21)
                have Lp_120_30 : ∀ (n : Nat) (v_24 : Int32) (q_25 : Sg), sx_V h L q_25 → sx_fr h L (fun a => a = a1 ∧ h.1 a = 5 ∨ h.1 a = 1 ∨ h.1 a = 2) q q_25 → q_25.1 a_11 1 = (q_15.1 a_11 1) → q_25.2.2.1 a1 1 = a_10 → q_25.2.2.1 a0 5 = a_21 → 0 ≤ v_24.toInt → ((q_25.1 a0 0).toInt - v_24.toInt : Int).toNat < n → WA l dC dI h L ({ frames := 6, cells := 0, slots := 0, locals := 144 } : Room) 8 Z q_25 120 [(7, .int v_24), (6, .int v_14), (5, .int v_12), (4, .ref a_11), (0, .ref a0), (1, .ref a1), (2, .int n1), (3, .int n2)] [] := by
                  intro n
                  induction n with
                  | zero =>
                    intro v_24 q_25 hV_q_25 hF_q_25 p0_q_25 p1_q_25 p2_q_25 x_29 hn
                    exact absurd hn (Nat.not_lt_zero _)
                  | succ n ih_31 =>
                    intro v_24 q_25 hV_q_25 hF_q_25 p0_q_25 p1_q_25 p2_q_25 x_29 hn
                    refine wa_iload B dX4_fill_120 0 rfl ?_
                    refine wa_aload_n B dX4_fill_122 rfl 4 rfl ?_
                    refine wa_getI B (C := RX4) (T := TX4) (N := 7) iq_X4_fill_X4 ha0 ka0 (by decide) rfl 0 (by decide) (by decide) (by decide +kernel) rfl (by decide) (v := (q_25.1 a0 0)) rfl dX4_fill_123 ?_
                    have g_32 : (0 : Int) ≤ (q_25.1 a0 0).toInt ∧ (q_25.1 a0 0).toInt ≤ 12 := hV_q_25.int ha0 ka0 0
                    refine wa_icmp_ge B 169 dX4_fill_126 (by decide) (fun (t_33 : (q_25.1 a0 0).toInt ≤ v_24.toInt) => ?_) (fun (t_33 : ¬ (q_25.1 a0 0).toInt ≤ v_24.toInt) => ?_)
                    · refine wa_aload_n B dX4_fill_169 rfl 4 rfl ?_
                      refine wa_iload_n B dX4_fill_170 rfl 6 rfl ?_
                      refine wa_iconst B 1 dX4_fill_171 (by decide) ?_
                      refine wa_iadd B dX4_fill_172 (fun v_34 ev_34 => ?_)
                      have tv_34 : v_34.toInt = n1.toInt + 1 := by have b0 := zx_bd n1; rw [ev_34]; exact zx_add (show (-2147483648 : Int) ≤ n1.toInt + 1 by omega) (show n1.toInt + 1 < (2147483648 : Int) by omega)
                      refine wa_callVi B (x := (RX4, TX4, 7)) (As := [.int v_34]) (rest := []) (k_X4_missedWith l dC dI h L hN q_25 hV_q_25 (a0 := a0) ha0 ka0 v_34  (by first | assumption | omega | decide) (by first | assumption | omega | decide)) (cwV 1 B.1.2.2.2.2 gX4_fill_X4_missedWith rfl rfl rfl (by decide +kernel) ⟨Nat.le_of_ble_eq_true rfl, Nat.le_of_ble_eq_true rfl⟩) ha0 ka0 (by decide) rfl rfl rfl (Nat.le_of_ble_eq_true rfl) dX4_fill_173 (fun r_36 q_35 w_37 => ?_)
                      subst w_37
                      refine wa_istore B [(7, .int r_36), (6, .int v_14), (5, .int v_12), (4, .ref a_11), (0, .ref a0), (1, .ref a1), (2, .int n1), (3, .int n2)] dX4_fill_176 (by decide) rfl ?_
                      refine wa_aload_n B dX4_fill_178 rfl 4 rfl ?_
                      refine wa_aload_n B dX4_fill_179 rfl 5 rfl ?_
                      refine wa_iload B dX4_fill_180 0 rfl ?_
                      refine wa_callVi B (x := (RX4, TX4, 7)) (As := [.ref a1, .int r_36]) (rest := []) (k_X4_isWorthwhile l dC dI h L hN q_25 hV_q_25 (a0 := a0) ha0 ka0 (a1 := a1) ha1 ka1 r_36  ) (cwV 2 B.1.2.2.2.2 gX4_fill_X4_isWorthwhile rfl rfl rfl (by decide +kernel) ⟨Nat.le_of_ble_eq_true rfl, Nat.le_of_ble_eq_true rfl⟩) ha0 ka0 (by decide) rfl rfl rfl (Nat.le_of_ble_eq_true rfl) dX4_fill_182 (fun r_39 q_38 w_40 => ?_)
                      obtain ⟨ew_40, hw_40⟩ := w_40
                      subst ew_40
                      refine wa_if_eq B 198 dX4_fill_185 (by decide) (fun (t_41 : r_39.toInt = 0) => ?_) (fun (t_41 : ¬ r_39.toInt = 0) => ?_)
                      · obtain ⟨v_42, ev_42⟩ : ∃ z : Int32, z = v_14 + 1 := ⟨_, rfl⟩
                        refine wa_iinc B [(6, .int v_42), (7, .int r_36), (5, .int v_12), (4, .ref a_11), (0, .ref a0), (1, .ref a1), (2, .int n1), (3, .int n2)] v_42 dX4_fill_198 1 rfl (by rw [ev_42]; rfl) (by decide) rfl ?_
                        refine wa_goto B 89 dX4_fill_201 (by decide) ?_
                        have tv_42 : v_42.toInt = v_14.toInt + 1 := by have b0 := zx_bd v_14; rw [ev_42]; exact zx_add (show (-2147483648 : Int) ≤ v_14.toInt + 1 by omega) (show v_14.toInt + 1 < (2147483648 : Int) by omega)
                        refine WA.sub [0, 2, 3, 4, 5, 6, 7] rfl ?_
                        exact ih_17 v_42 q_25 hV_q_25 hF_q_25 p1_q_25 (show (10 - v_42.toInt : Int).toNat < _ from by omega)
                      · refine wa_aload_n B dX4_fill_188 rfl 4 rfl ?_
                        refine wa_aload_n B dX4_fill_189 rfl 5 rfl ?_
                        refine wa_iload_n B dX4_fill_190 rfl 6 rfl ?_
                        refine wa_iconst B 1 dX4_fill_191 (by decide) ?_
                        refine wa_iadd B dX4_fill_192 (fun v_43 ev_43 => ?_)
                        refine wa_iload B dX4_fill_193 0 rfl ?_
                        have tv_43 : v_43.toInt = n1.toInt + 1 := by have b0 := zx_bd n1; rw [ev_43]; exact zx_add (show (-2147483648 : Int) ≤ n1.toInt + 1 by omega) (show n1.toInt + 1 < (2147483648 : Int) by omega)
                        refine wa_callVv B (x := (RX4, TX4, 7)) (As := [.ref a1, .int v_43, .int r_36]) (rest := []) (k_X4_fill_2 l dC dI h L hN q_25 hV_q_25 (a0 := a0) ha0 ka0 (a1 := a1) ha1 ka1 v_43 r_36  (by first | assumption | omega | decide)) (cwV 3 B.1.2.2.2.2 gX4_fill_X4_fill rfl rfl rfl (by decide +kernel) ⟨Nat.le_of_ble_eq_true rfl, Nat.le_of_ble_eq_true rfl⟩) ha0 ka0 (by decide) rfl rfl rfl (Nat.le_of_ble_eq_true rfl) dX4_fill_195 (fun q_44 w_45 => ?_)
                        obtain ⟨hV_q_44, h2_q_44⟩ := w_45
                        have hF_q_44 : sx_fr h L (fun a => a = a1 ∧ h.1 a = 5 ∨ h.1 a = 1 ∨ h.1 a = 2) q q_44 := hF_q_25.tr (h2_q_44.mono (fun a (z : a = a1 ∧ h.1 a = 5 ∨ h.1 a = 1 ∨ h.1 a = 2) => (show a = a1 ∧ h.1 a = 5 ∨ h.1 a = 1 ∨ h.1 a = 2 from by omega)))
                        obtain ⟨v_46, ev_46⟩ : ∃ z : Int32, z = v_14 + 1 := ⟨_, rfl⟩
                        refine wa_iinc B [(6, .int v_46), (7, .int r_36), (5, .int v_12), (4, .ref a_11), (0, .ref a0), (1, .ref a1), (2, .int n1), (3, .int n2)] v_46 dX4_fill_198 1 rfl (by rw [ev_46]; rfl) (by decide) rfl ?_
                        refine wa_goto B 89 dX4_fill_201 (by decide) ?_
                        have tv_46 : v_46.toInt = v_14.toInt + 1 := by have b0 := zx_bd v_14; rw [ev_46]; exact zx_add (show (-2147483648 : Int) ≤ v_14.toInt + 1 by omega) (show v_14.toInt + 1 < (2147483648 : Int) by omega)
                        have z_47 : q_44.2.2.1 a1 1 = a_10 := (h2_q_44.R ha1 (show ¬ ((a1 = a1 ∧ h.1 a1 = 5 ∨ h.1 a1 = 1 ∨ h.1 a1 = 2) ∧ (h.1 a1 = 8 ∨ h.1 a1 = 11)) from by omega) 1).trans (p1_q_25)
                        refine WA.sub [0, 2, 3, 4, 5, 6, 7] rfl ?_
                        exact ih_17 v_46 q_44 hV_q_44 hF_q_44 z_47 (show (10 - v_46.toInt : Int).toNat < _ from by omega)
                    · refine wa_aload_n B dX4_fill_129 rfl 4 rfl ?_
                      obtain ⟨a_48, ea_48, ha_48, ka_48, la_48⟩ := hV_q_25.refn (n := 5) (t := 404) ha0 ka0 1 rfl (by decide) rfl (by decide)
                      refine wa_getR B (C := RX4) (T := TX4) (N := 7) iq_X4_fill_X4 ha0 ka0 (by decide) rfl 1 (by decide) (by decide) (by decide +kernel) rfl (fun _ _ _ => rfl) (v := a_48) ea_48 dX4_fill_130 ?_
                      refine wa_iload_n B dX4_fill_133 rfl 6 rfl ?_
                      refine wa_iconst B 1 dX4_fill_134 (by decide) ?_
                      refine wa_iadd B dX4_fill_135 (fun v_49 ev_49 => ?_)
                      have tv_49 : v_49.toInt = n1.toInt + 1 := by have b0 := zx_bd n1; rw [ev_49]; exact zx_add (show (-2147483648 : Int) ≤ n1.toInt + 1 by omega) (show n1.toInt + 1 < (2147483648 : Int) by omega)
                      obtain ⟨a_50, ea_50, ha_50, ka_50, la_50⟩ := hV_q_25.row ha_48 ka_48 (zx_ix (i := v_49) (show 0 ≤ v_49.toInt by omega) (show v_49.toInt < (h.2.1 a_48 : Int) by omega))
                      refine wa_aaloadA B (t0 := 7) ha_48 ka_48 (by decide) rfl (show 0 ≤ v_49.toInt by omega) (show v_49.toInt < (h.2.1 a_48 : Int) by omega) (v := a_50) ea_50 dX4_fill_136 ?_
                      refine wa_iload B dX4_fill_137 0 rfl ?_
                      refine wa_aload_n B dX4_fill_139 rfl 4 rfl ?_
                      refine wa_getR B (C := RX4) (T := TX4) (N := 7) iq_X4_fill_X4 ha0 ka0 (by decide) rfl 1 (by decide) (by decide) (by decide +kernel) rfl (fun _ _ _ => rfl) (v := a_48) ea_48 dX4_fill_140 ?_
                      refine wa_iload_n B dX4_fill_143 rfl 6 rfl ?_
                      obtain ⟨a_51, ea_51, ha_51, ka_51, la_51⟩ := hV_q_25.row ha_48 ka_48 (zx_ix (i := n1) (show 0 ≤ n1.toInt by omega) (show n1.toInt < (h.2.1 a_48 : Int) by omega))
                      refine wa_aaloadA B (t0 := 7) ha_48 ka_48 (by decide) rfl (show 0 ≤ n1.toInt by omega) (show n1.toInt < (h.2.1 a_48 : Int) by omega) (v := a_51) ea_51 dX4_fill_144 ?_
                      refine wa_iload B dX4_fill_145 0 rfl ?_
                      refine wa_laload B ha_51 ka_51 (by decide) (by decide) (show 0 ≤ v_24.toInt by omega) (show v_24.toInt < (h.2.1 a_51 : Int) by omega) (v := (q_25.2.2.2.2 a_51 (v_24 : Int32).toNatClampNeg)) rfl dX4_fill_147 ?_
                      refine wa_iload B dX4_fill_148 1 rfl ?_
                      refine wa_i2l B dX4_fill_150 (fun v_52 ev_52 => ?_)
                      refine wa_aload_n B dX4_fill_151 rfl 4 rfl ?_
                      obtain ⟨a_53, ea_53, ha_53, ka_53, la_53⟩ := hV_q_25.refn (n := 4) (t := 404) ha0 ka0 2 rfl (by decide) rfl (by decide)
                      refine wa_getR B (C := RX4) (T := TX4) (N := 7) iq_X4_fill_X4 ha0 ka0 (by decide) rfl 2 (by decide) (by decide) (by decide +kernel) rfl (fun _ _ _ => rfl) (v := a_53) ea_53 dX4_fill_152 ?_
                      refine wa_iload_n B dX4_fill_155 rfl 6 rfl ?_
                      obtain ⟨a_54, ea_54, ha_54, ka_54, la_54⟩ := hV_q_25.row ha_53 ka_53 (zx_ix (i := n1) (show 0 ≤ n1.toInt by omega) (show n1.toInt < (h.2.1 a_53 : Int) by omega))
                      refine wa_aaloadA B (t0 := 7) ha_53 ka_53 (by decide) rfl (show 0 ≤ n1.toInt by omega) (show n1.toInt < (h.2.1 a_53 : Int) by omega) (v := a_54) ea_54 dX4_fill_156 ?_
                      refine wa_iload B dX4_fill_157 0 rfl ?_
                      refine wa_laload B ha_54 ka_54 (by decide) (by decide) (show 0 ≤ v_24.toInt by omega) (show v_24.toInt < (h.2.1 a_54 : Int) by omega) (v := (q_25.2.2.2.2 a_54 (v_24 : Int32).toNatClampNeg)) rfl dX4_fill_159 ?_
                      refine wa_lmul B dX4_fill_160 (fun v_55 ev_55 => ?_)
                      refine wa_ladd B dX4_fill_161 (fun v_56 ev_56 => ?_)
                      refine wa_lastore B ha_50 ka_50 (by decide) (by decide) (show 0 ≤ v_24.toInt by omega) (show v_24.toInt < (h.2.1 a_50 : Int) by omega) dX4_fill_162 (fun q_57 eq_57 => ?_)
                      have hV_q_57 : sx_V h L q_57 := by rw [eq_57]; exact hV_q_25.pL
                      have hF_q_57 : sx_fr h L (fun a => a = a1 ∧ h.1 a = 5 ∨ h.1 a = 1 ∨ h.1 a = 2) q q_57 := hF_q_25.tr (by rw [eq_57]; exact sx_fr.pL (show h.1 a_50 = 200 ∨ (a_50 = a1 ∧ h.1 a_50 = 5 ∨ h.1 a_50 = 1 ∨ h.1 a_50 = 2) from by omega))
                      have z_58 : q_57.2.2.2.2 a_50 (v_24 : Int32).toNatClampNeg = v_56 := by rw [eq_57, sg_pL_e]; exact if_pos rfl
                      obtain ⟨v_59, ev_59⟩ : ∃ z : Int32, z = v_24 + 1 := ⟨_, rfl⟩
                      refine wa_iinc B [(7, .int v_59), (6, .int v_14), (5, .int v_12), (4, .ref a_11), (0, .ref a0), (1, .ref a1), (2, .int n1), (3, .int n2)] v_59 dX4_fill_163 0 rfl (by rw [ev_59]; rfl) (by decide) rfl ?_
                      refine wa_goto B 120 dX4_fill_166 (by decide) ?_
                      have tv_59 : v_59.toInt = v_24.toInt + 1 := by have b0 := zx_bd v_24; rw [ev_59]; exact zx_add (show (-2147483648 : Int) ≤ v_24.toInt + 1 by omega) (show v_24.toInt + 1 < (2147483648 : Int) by omega)
                      have z_60 : q_57.1 a0 0 = q_25.1 a0 0 := (show q_57.1 a0 0 = q_25.1 a0 0 from by rw [eq_57]; rfl)
                      have y_61 : (q_57.1 a0 0).toInt = (q_25.1 a0 0).toInt := by rw [z_60]
                      have z_62 : q_57.1 a_11 1 = (q_15.1 a_11 1) := ((show q_57.1 a_11 1 = q_25.1 a_11 1 from by rw [eq_57]; rfl)).trans (p0_q_25)
                      have z_63 : q_57.2.2.1 a1 1 = a_10 := ((show q_57.2.2.1 a1 1 = q_25.2.2.1 a1 1 from by rw [eq_57]; rfl)).trans (p1_q_25)
                      have z_64 : q_57.2.2.1 a0 5 = a_21 := ((show q_57.2.2.1 a0 5 = q_25.2.2.1 a0 5 from by rw [eq_57]; rfl)).trans (p2_q_25)
                      exact ih_31 v_59 q_57 hV_q_57 hF_q_57 z_62 z_63 z_64 (show 0 ≤ v_59.toInt from by first | assumption | omega | decide) (show ((q_57.1 a0 0).toInt - v_59.toInt : Int).toNat < _ from by omega)
                exact Lp_120_30 _ 0 q_22 hV_q_22 hF_q_22 z_26 z_27 z_28 (show 0 ≤ 0 from by first | assumption | omega | decide) (Nat.lt_succ_self _)
        exact Lp_89_16 _ (q.1 a_11 3) q hV hF ea_10 (Nat.lt_succ_self _)
      refine wa_if_eq B 75 dX4_fill_48 (by decide) (fun (t_65 : (q.1 a_11 5).toInt = 0) => ?_) (fun (t_65 : ¬ (q.1 a_11 5).toInt = 0) => ?_)
      · refine wa_aload B dX4_fill_75 0 rfl ?_
        refine wa_getI B (C := RX1) (T := TX1) (N := 7) iq_X4_fill_X1 ha_11 ka_11 (by decide) rfl 4 (by decide) (by decide) (by decide +kernel) rfl (by decide) (v := (q.1 a_11 4)) rfl dX4_fill_77 ?_
        exact Jn_80_13 (q.1 a_11 4)
      · refine wa_iload_n B dX4_fill_51 rfl 3 rfl ?_
        refine wa_if_le B 75 dX4_fill_52 (by decide) (fun (t_66 : n1.toInt ≤ 0) => ?_) (fun (t_66 : ¬ n1.toInt ≤ 0) => ?_)
        · refine wa_aload B dX4_fill_75 0 rfl ?_
          refine wa_getI B (C := RX1) (T := TX1) (N := 7) iq_X4_fill_X1 ha_11 ka_11 (by decide) rfl 4 (by decide) (by decide) (by decide +kernel) rfl (by decide) (v := (q.1 a_11 4)) rfl dX4_fill_77 ?_
          exact Jn_80_13 (q.1 a_11 4)
        · refine wa_aload B dX4_fill_55 0 rfl ?_
          refine wa_getI B (C := RX1) (T := TX1) (N := 7) iq_X4_fill_X1 ha_11 ka_11 (by decide) rfl 4 (by decide) (by decide) (by decide +kernel) rfl (by decide) (v := (q.1 a_11 4)) rfl dX4_fill_57 ?_
          refine wa_bipush B 10 dX4_fill_60 (by decide) ?_
          refine wa_aload_n B dX4_fill_62 rfl 1 rfl ?_
          obtain ⟨a_67, ea_67, ha_67, ka_67, la_67⟩ := hV.refn (n := 4) (t := 100) ha0 ka0 5 rfl (by decide) rfl (by decide)
          refine wa_getR B (C := RX4) (T := TX4) (N := 7) iq_X4_fill_X4 ha0 ka0 (by decide) rfl 5 (by decide) (by decide) (by decide +kernel) rfl (fun _ _ _ => rfl) (v := a_67) ea_67 dX4_fill_63 ?_
          refine wa_iload_n B dX4_fill_66 rfl 3 rfl ?_
          refine wa_iconst B 1 dX4_fill_67 (by decide) ?_
          refine wa_isub B dX4_fill_68 (fun v_68 ev_68 => ?_)
          have tv_68 : v_68.toInt = n1.toInt - 1 := by have b0 := zx_bd n1; rw [ev_68]; exact zx_sub (show (-2147483648 : Int) ≤ n1.toInt - 1 by omega) (show n1.toInt - 1 < (2147483648 : Int) by omega)
          refine wa_iaload B ha_67 ka_67 (by decide) (by decide) (show 0 ≤ v_68.toInt by omega) (show v_68.toInt < (h.2.1 a_67 : Int) by omega) (v := (q.2.2.2.1 a_67 (v_68 : Int32).toNatClampNeg)) rfl dX4_fill_69 ?_
          refine wa_imul B dX4_fill_70 (fun v_69 ev_69 => ?_)
          refine wa_isub B dX4_fill_71 (fun v_70 ev_70 => ?_)
          refine wa_goto B 80 dX4_fill_72 (by decide) ?_
          exact Jn_80_13 v_70
    · refine wa_aload_n B dX4_fill_13 rfl 1 rfl ?_
      refine wa_aload_n B dX4_fill_14 rfl 1 rfl ?_
      refine wa_getI B (C := RX5) (T := TX5) (N := 7) iq_X4_fill_X5 ha1 ka1 (by decide) rfl 6 (by decide) (by decide) (by decide +kernel) rfl (by decide) (v := (q.1 a1 6)) rfl dX4_fill_15 ?_
      refine wa_iload_n B dX4_fill_18 rfl 3 rfl ?_
      refine wa_mmin B (by decide +kernel) (by decide +kernel) (by decide +kernel) (by decide +kernel) (Nat.le_of_ble_eq_true rfl) (Nat.le_of_ble_eq_true rfl) dX4_fill_19 (fun v_71 ev_71 => ?_)
      have gv_71 : (v_71.toInt = (q.1 a1 6).toInt ∨ v_71.toInt = n2.toInt) ∧ (q.1 a1 6).toInt ≥ v_71.toInt ∧ n2.toInt ≥ v_71.toInt := by rw [ev_71]; exact zx_min
      refine wa_putI B (C := RX5) (T := TX5) (N := 7) iq_X4_fill_X5 ha1 ka1 (by decide) rfl 6 (by decide) (by decide) (by decide +kernel) rfl (by decide) (v := v_71) (ty := .int) tyX5 tyX5_ok nmX5 rfl (by decide +kernel) rfl rfl dX4_fill_22 (fun q_72 eq_72 => ?_)
      have hV_q_72 : sx_V h L q_72 := by rw [eq_72]; exact hV.pI ka1 trivial
      have hF_q_72 : sx_fr h L (fun a => a = a1 ∧ h.1 a = 5 ∨ h.1 a = 1 ∨ h.1 a = 2) q q_72 := hF.tr (by rw [eq_72]; exact sx_fr.pI (show a1 = a1 ∧ h.1 a1 = 5 ∨ h.1 a1 = 1 ∨ h.1 a1 = 2 from by omega))
      have z_73 : q_72.1 a1 6 = v_71 := by rw [eq_72]; exact sg_pI_e
      refine wa_iload_n B dX4_fill_25 rfl 3 rfl ?_
      refine wa_if_ne B 34 dX4_fill_26 (by decide) (fun (t_74 : ¬ n2.toInt = 0) => ?_) (fun (t_74 : n2.toInt = 0) => ?_)
      · exact hret _ _ _ dX4_fill_34 ⟨hV_q_72, hF_q_72⟩
      · refine wa_aload_n B dX4_fill_29 rfl 0 rfl ?_
        refine wa_aload_n B dX4_fill_30 rfl 1 rfl ?_
        refine wa_callVv B (x := (RX4, TX4, 7)) (As := [.ref a1]) (rest := []) (k_X4_noteReading l dC dI h L hN q_72 hV_q_72 (a0 := a0) ha0 ka0 (a1 := a1) ha1 ka1  ) (cwV 1 B.1.2.2.2.2 gX4_fill_X4_noteReading rfl rfl rfl (by decide +kernel) ⟨Nat.le_of_ble_eq_true rfl, Nat.le_of_ble_eq_true rfl⟩) ha0 ka0 (by decide) rfl rfl rfl (Nat.le_of_ble_eq_true rfl) dX4_fill_31 (fun q_75 w_76 => ?_)
        obtain ⟨hV_q_75, h2_q_75⟩ := w_76
        have hF_q_75 : sx_fr h L (fun a => a = a1 ∧ h.1 a = 5 ∨ h.1 a = 1 ∨ h.1 a = 2) q q_75 := hF_q_72.tr (h2_q_75.mono (fun a (z : a = a1 ∧ h.1 a = 5 ∨ h.1 a = 1 ∨ h.1 a = 2) => (show a = a1 ∧ h.1 a = 5 ∨ h.1 a = 1 ∨ h.1 a = 2 from by omega)))
        exact hret _ _ _ dX4_fill_34 ⟨hV_q_75, hF_q_75⟩
set_option maxHeartbeats 4000000 in
set_option maxRecDepth 100000 in
theorem k_X4_fill_0 (l : Launch) (dC : Nat → ClassId) (dI : Nat → Nat → Nat) (h : Sh) (L : List Nat) (hN : sx_nd L) (q : Sg) (hV : sx_V h L q) {a0 : Nat} (ha0 : a0 ∈ L) (ka0 : h.1 a0 = 4) {a1 : Nat} (ha1 : a1 ∈ L) (ka1 : h.1 a1 = 5) (n1 : Int32) (n2 : Int32)  (hy0 : n1.toInt = 0) : CMv l dC dI h L yX4_fill wsX4_fill ({ frames := 7, cells := 0, slots := 0, locals := 171 } : Room) q [.ref a0, .ref a1, .int n1, .int n2] (fun q' => sx_V h L q' ∧ sx_fr h L (fun a => a = a1 ∧ h.1 a = 5 ∨ h.1 a = 1 ∨ h.1 a = 2) q q') := by
  refine cm_v (cc := cX4_fill) (mL := 8) (own := RX4) hN (by decide) rfl rfl (Nat.le_of_ble_eq_true rfl) (fun Z B hret => ?_)
  have hF : sx_fr h L (fun a => a = a1 ∧ h.1 a = 5 ∨ h.1 a = 1 ∨ h.1 a = 2) q q := sx_fr.rf
  show WA l dC dI h L ({ frames := 7, cells := 0, slots := 0, locals := 171 } : Room) 8 Z q 0 [(0, .ref a0), (1, .ref a1), (2, .int n1), (3, .int n2)] []
  refine wa_iload_n B dX4_fill_0 rfl 2 rfl ?_
  refine wa_aload_n B dX4_fill_1 rfl 1 rfl ?_
  refine wa_getI B (C := RX5) (T := TX5) (N := 7) iq_X4_fill_X5 ha1 ka1 (by decide) rfl 3 (by decide) (by decide) (by decide +kernel) rfl (by decide) (v := (q.1 a1 3)) rfl dX4_fill_2 ?_
  have g_1 : (0 : Int) ≤ (q.1 a1 3).toInt ∧ (q.1 a1 3).toInt ≤ 4 := hV.int ha1 ka1 3
  refine wa_icmp_ge B 13 dX4_fill_5 (by decide) (fun (t_2 : (q.1 a1 3).toInt ≤ n1.toInt) => ?_) (fun (t_2 : ¬ (q.1 a1 3).toInt ≤ n1.toInt) => ?_)
  · refine wa_aload_n B dX4_fill_13 rfl 1 rfl ?_
    refine wa_aload_n B dX4_fill_14 rfl 1 rfl ?_
    refine wa_getI B (C := RX5) (T := TX5) (N := 7) iq_X4_fill_X5 ha1 ka1 (by decide) rfl 6 (by decide) (by decide) (by decide +kernel) rfl (by decide) (v := (q.1 a1 6)) rfl dX4_fill_15 ?_
    refine wa_iload_n B dX4_fill_18 rfl 3 rfl ?_
    refine wa_mmin B (by decide +kernel) (by decide +kernel) (by decide +kernel) (by decide +kernel) (Nat.le_of_ble_eq_true rfl) (Nat.le_of_ble_eq_true rfl) dX4_fill_19 (fun v_3 ev_3 => ?_)
    have gv_3 : (v_3.toInt = (q.1 a1 6).toInt ∨ v_3.toInt = n2.toInt) ∧ (q.1 a1 6).toInt ≥ v_3.toInt ∧ n2.toInt ≥ v_3.toInt := by rw [ev_3]; exact zx_min
    refine wa_putI B (C := RX5) (T := TX5) (N := 7) iq_X4_fill_X5 ha1 ka1 (by decide) rfl 6 (by decide) (by decide) (by decide +kernel) rfl (by decide) (v := v_3) (ty := .int) tyX5 tyX5_ok nmX5 rfl (by decide +kernel) rfl rfl dX4_fill_22 (fun q_4 eq_4 => ?_)
    have hV_q_4 : sx_V h L q_4 := by rw [eq_4]; exact hV.pI ka1 trivial
    have hF_q_4 : sx_fr h L (fun a => a = a1 ∧ h.1 a = 5 ∨ h.1 a = 1 ∨ h.1 a = 2) q q_4 := hF.tr (by rw [eq_4]; exact sx_fr.pI (show a1 = a1 ∧ h.1 a1 = 5 ∨ h.1 a1 = 1 ∨ h.1 a1 = 2 from by omega))
    have z_5 : q_4.1 a1 6 = v_3 := by rw [eq_4]; exact sg_pI_e
    refine wa_iload_n B dX4_fill_25 rfl 3 rfl ?_
    refine wa_if_ne B 34 dX4_fill_26 (by decide) (fun (t_6 : ¬ n2.toInt = 0) => ?_) (fun (t_6 : n2.toInt = 0) => ?_)
    · exact hret _ _ _ dX4_fill_34 ⟨hV_q_4, hF_q_4⟩
    · refine wa_aload_n B dX4_fill_29 rfl 0 rfl ?_
      refine wa_aload_n B dX4_fill_30 rfl 1 rfl ?_
      refine wa_callVv B (x := (RX4, TX4, 7)) (As := [.ref a1]) (rest := []) (k_X4_noteReading l dC dI h L hN q_4 hV_q_4 (a0 := a0) ha0 ka0 (a1 := a1) ha1 ka1  ) (cwV 1 B.1.2.2.2.2 gX4_fill_X4_noteReading rfl rfl rfl (by decide +kernel) ⟨Nat.le_of_ble_eq_true rfl, Nat.le_of_ble_eq_true rfl⟩) ha0 ka0 (by decide) rfl rfl rfl (Nat.le_of_ble_eq_true rfl) dX4_fill_31 (fun q_7 w_8 => ?_)
      obtain ⟨hV_q_7, h2_q_7⟩ := w_8
      have hF_q_7 : sx_fr h L (fun a => a = a1 ∧ h.1 a = 5 ∨ h.1 a = 1 ∨ h.1 a = 2) q q_7 := hF_q_4.tr (h2_q_7.mono (fun a (z : a = a1 ∧ h.1 a = 5 ∨ h.1 a = 1 ∨ h.1 a = 2) => (show a = a1 ∧ h.1 a = 5 ∨ h.1 a = 1 ∨ h.1 a = 2 from by omega)))
      exact hret _ _ _ dX4_fill_34 ⟨hV_q_7, hF_q_7⟩
  · refine wa_iload_n B dX4_fill_8 rfl 2 rfl ?_
    refine wa_iconst B 4 dX4_fill_9 (by decide) ?_
    refine wa_icmp_lt B 35 dX4_fill_10 (by decide) (fun (t_9 : n1.toInt < 4) => ?_) (fun (t_9 : ¬ n1.toInt < 4) => ?_)
    · refine wa_aload_n B dX4_fill_35 rfl 1 rfl ?_
      obtain ⟨a_10, ea_10, ha_10, ka_10, la_10⟩ := hV.refn (n := 4) (t := 402) ha1 ka1 1 rfl (by decide) rfl (by decide)
      refine wa_getR B (C := RX5) (T := TX5) (N := 7) iq_X4_fill_X5 ha1 ka1 (by decide) rfl 1 (by decide) (by decide) (by decide +kernel) rfl (fun _ _ _ => rfl) (v := a_10) ea_10 dX4_fill_36 ?_
      refine wa_iload_n B dX4_fill_39 rfl 2 rfl ?_
      obtain ⟨a_11, ea_11, ha_11, ka_11⟩ := hV.elem (t := 1) ha_10 ka_10 (by decide) rfl (zx_ix (i := n1) (show 0 ≤ n1.toInt by omega) (show n1.toInt < (h.2.1 a_10 : Int) by omega))
      refine wa_aaload B (t0 := 5) ha_10 ka_10 (by decide) rfl (show 0 ≤ n1.toInt by omega) (show n1.toInt < (h.2.1 a_10 : Int) by omega) (v := a_11) ea_11 dX4_fill_40 ?_
      refine wa_astore B [(4, .ref a_11), (0, .ref a0), (1, .ref a1), (2, .int n1), (3, .int n2)] dX4_fill_41 (by decide) rfl ?_
      refine wa_aload B dX4_fill_43 0 rfl ?_
      refine wa_getI B (C := RX1) (T := TX1) (N := 7) iq_X4_fill_X1 ha_11 ka_11 (by decide) rfl 5 (by decide) (by decide) (by decide +kernel) rfl (by decide) (v := (q.1 a_11 5)) rfl dX4_fill_45 ?_
      have Jn_80_13 : ∀  (v_12 : Int32), WA l dC dI h L ({ frames := 7, cells := 0, slots := 0, locals := 171 } : Room) 8 Z q 80 [(4, .ref a_11), (0, .ref a0), (1, .ref a1), (2, .int n1), (3, .int n2)] [.int v_12] := by
        intro v_12
        refine wa_istore B [(5, .int v_12), (4, .ref a_11), (0, .ref a0), (1, .ref a1), (2, .int n1), (3, .int n2)] dX4_fill_80 (by decide) rfl ?_
        refine wa_aload B dX4_fill_82 1 rfl ?_
        refine wa_getI B (C := RX1) (T := TX1) (N := 7) iq_X4_fill_X1 ha_11 ka_11 (by decide) rfl 3 (by decide) (by decide) (by decide +kernel) rfl (by decide) (v := (q.1 a_11 3)) rfl dX4_fill_84 ?_
        refine wa_istore B [(6, .int (q.1 a_11 3)), (5, .int v_12), (4, .ref a_11), (0, .ref a0), (1, .ref a1), (2, .int n1), (3, .int n2)] dX4_fill_87 (by decide) rfl ?_
        have Lp_89_16 : ∀ (n : Nat) (v_14 : Int32) (q_15 : Sg), sx_V h L q_15 → sx_fr h L (fun a => a = a1 ∧ h.1 a = 5 ∨ h.1 a = 1 ∨ h.1 a = 2) q q_15 → q_15.2.2.1 a1 1 = a_10 → (10 - v_14.toInt : Int).toNat < n → WA l dC dI h L ({ frames := 7, cells := 0, slots := 0, locals := 171 } : Room) 8 Z q_15 89 [(6, .int v_14), (5, .int v_12), (4, .ref a_11), (0, .ref a0), (1, .ref a1), (2, .int n1), (3, .int n2)] [] := by
          intro n
          induction n with
          | zero =>
            intro v_14 q_15 hV_q_15 hF_q_15 p0_q_15 hn
            exact absurd hn (Nat.not_lt_zero _)
          | succ n ih_17 =>
            intro v_14 q_15 hV_q_15 hF_q_15 p0_q_15 hn
            refine wa_iload B dX4_fill_89 0 rfl ?_
            refine wa_bipush B 9 dX4_fill_91 (by decide) ?_
            refine wa_icmp_gt B 204 dX4_fill_93 (by decide) (fun (t_18 : 9 < v_14.toInt) => ?_) (fun (t_18 : ¬ 9 < v_14.toInt) => ?_)
            · exact hret _ _ _ dX4_fill_204 ⟨hV_q_15, hF_q_15⟩
            · refine wa_iload B dX4_fill_96 0 rfl ?_
              refine wa_aload B dX4_fill_98 2 rfl ?_
              refine wa_getI B (C := RX1) (T := TX1) (N := 7) iq_X4_fill_X1 ha_11 ka_11 (by decide) rfl 1 (by decide) (by decide) (by decide +kernel) rfl (by decide) (v := (q_15.1 a_11 1)) rfl dX4_fill_100 ?_
              refine wa_imul B dX4_fill_103 (fun v_19 ev_19 => ?_)
              refine wa_iload B dX4_fill_104 1 rfl ?_
              refine wa_icmp_gt B 204 dX4_fill_106 (by decide) (fun (t_20 : v_12.toInt < v_19.toInt) => ?_) (fun (t_20 : ¬ v_12.toInt < v_19.toInt) => ?_)
              · exact hret _ _ _ dX4_fill_204 ⟨hV_q_15, hF_q_15⟩
              · refine wa_aload_n B dX4_fill_109 rfl 3 rfl ?_
                obtain ⟨a_21, ea_21, ha_21, ka_21, la_21⟩ := hV_q_15.refn (n := 4) (t := 100) ha0 ka0 5 rfl (by decide) rfl (by decide)
                refine wa_getR B (C := RX4) (T := TX4) (N := 7) iq_X4_fill_X4 ha0 ka0 (by decide) rfl 5 (by decide) (by decide) (by decide +kernel) rfl (fun _ _ _ => rfl) (v := a_21) ea_21 dX4_fill_110 ?_
                refine wa_iload_n B dX4_fill_113 rfl 5 rfl ?_
                refine wa_iload B dX4_fill_114 0 rfl ?_
                refine wa_iastore B ha_21 ka_21 (by decide) (by decide) (show 0 ≤ n1.toInt by omega) (show n1.toInt < (h.2.1 a_21 : Int) by omega) dX4_fill_116 (fun q_22 eq_22 => ?_)
                have hV_q_22 : sx_V h L q_22 := by rw [eq_22]; exact hV_q_15.up1 ha_21 ka_21 trivial
                have hF_q_22 : sx_fr h L (fun a => a = a1 ∧ h.1 a = 5 ∨ h.1 a = 1 ∨ h.1 a = 2) q q_22 := hF_q_15.tr (by rw [eq_22]; exact sx_fr.pG (show h.1 a_21 = 100 ∨ (a_21 = a1 ∧ h.1 a_21 = 5 ∨ h.1 a_21 = 1 ∨ h.1 a_21 = 2) from by omega))
                have z_23 : q_22.2.2.2.1 a_21 (n1 : Int32).toNatClampNeg = v_14 := by rw [eq_22, sg_pG_e]; exact if_pos rfl
                refine wa_iconst B 0 dX4_fill_117 (by decide) ?_
                refine wa_istore B [(7, .int 0), (6, .int v_14), (5, .int v_12), (4, .ref a_11), (0, .ref a0), (1, .ref a1), (2, .int n1), (3, .int n2)] dX4_fill_118 (by decide) rfl ?_
                have z_26 : q_22.1 a_11 1 = q_15.1 a_11 1 := (show q_22.1 a_11 1 = q_15.1 a_11 1 from by rw [eq_22]; rfl)
                have z_27 : q_22.2.2.1 a1 1 = a_10 := ((show q_22.2.2.1 a1 1 = q_15.2.2.1 a1 1 from by rw [eq_22]; rfl)).trans (p0_q_15)
                have z_28 : q_22.2.2.1 a0 5 = a_21 := ((show q_22.2.2.1 a0 5 = q_15.2.2.1 a0 5 from by rw [eq_22]; rfl)).trans (ea_21)
                have Lp_120_30 : ∀ (n : Nat) (v_24 : Int32) (q_25 : Sg), sx_V h L q_25 → sx_fr h L (fun a => a = a1 ∧ h.1 a = 5 ∨ h.1 a = 1 ∨ h.1 a = 2) q q_25 → q_25.1 a_11 1 = (q_15.1 a_11 1) → q_25.2.2.1 a1 1 = a_10 → q_25.2.2.1 a0 5 = a_21 → 0 ≤ v_24.toInt → ((q_25.1 a0 0).toInt - v_24.toInt : Int).toNat < n → WA l dC dI h L ({ frames := 7, cells := 0, slots := 0, locals := 171 } : Room) 8 Z q_25 120 [(7, .int v_24), (6, .int v_14), (5, .int v_12), (4, .ref a_11), (0, .ref a0), (1, .ref a1), (2, .int n1), (3, .int n2)] [] := by
                  intro n
                  induction n with
                  | zero =>
                    intro v_24 q_25 hV_q_25 hF_q_25 p0_q_25 p1_q_25 p2_q_25 x_29 hn
                    exact absurd hn (Nat.not_lt_zero _)
                  | succ n ih_31 =>
                    intro v_24 q_25 hV_q_25 hF_q_25 p0_q_25 p1_q_25 p2_q_25 x_29 hn
                    refine wa_iload B dX4_fill_120 0 rfl ?_
                    refine wa_aload_n B dX4_fill_122 rfl 4 rfl ?_
                    refine wa_getI B (C := RX4) (T := TX4) (N := 7) iq_X4_fill_X4 ha0 ka0 (by decide) rfl 0 (by decide) (by decide) (by decide +kernel) rfl (by decide) (v := (q_25.1 a0 0)) rfl dX4_fill_123 ?_
                    have g_32 : (0 : Int) ≤ (q_25.1 a0 0).toInt ∧ (q_25.1 a0 0).toInt ≤ 12 := hV_q_25.int ha0 ka0 0
                    refine wa_icmp_ge B 169 dX4_fill_126 (by decide) (fun (t_33 : (q_25.1 a0 0).toInt ≤ v_24.toInt) => ?_) (fun (t_33 : ¬ (q_25.1 a0 0).toInt ≤ v_24.toInt) => ?_)
                    · refine wa_aload_n B dX4_fill_169 rfl 4 rfl ?_
                      refine wa_iload_n B dX4_fill_170 rfl 6 rfl ?_
                      refine wa_iconst B 1 dX4_fill_171 (by decide) ?_
                      refine wa_iadd B dX4_fill_172 (fun v_34 ev_34 => ?_)
                      have tv_34 : v_34.toInt = n1.toInt + 1 := by have b0 := zx_bd n1; rw [ev_34]; exact zx_add (show (-2147483648 : Int) ≤ n1.toInt + 1 by omega) (show n1.toInt + 1 < (2147483648 : Int) by omega)
                      refine wa_callVi B (x := (RX4, TX4, 7)) (As := [.int v_34]) (rest := []) (k_X4_missedWith l dC dI h L hN q_25 hV_q_25 (a0 := a0) ha0 ka0 v_34  (by first | assumption | omega | decide) (by first | assumption | omega | decide)) (cwV 1 B.1.2.2.2.2 gX4_fill_X4_missedWith rfl rfl rfl (by decide +kernel) ⟨Nat.le_of_ble_eq_true rfl, Nat.le_of_ble_eq_true rfl⟩) ha0 ka0 (by decide) rfl rfl rfl (Nat.le_of_ble_eq_true rfl) dX4_fill_173 (fun r_36 q_35 w_37 => ?_)
                      subst w_37
                      refine wa_istore B [(7, .int r_36), (6, .int v_14), (5, .int v_12), (4, .ref a_11), (0, .ref a0), (1, .ref a1), (2, .int n1), (3, .int n2)] dX4_fill_176 (by decide) rfl ?_
                      refine wa_aload_n B dX4_fill_178 rfl 4 rfl ?_
                      refine wa_aload_n B dX4_fill_179 rfl 5 rfl ?_
                      refine wa_iload B dX4_fill_180 0 rfl ?_
                      refine wa_callVi B (x := (RX4, TX4, 7)) (As := [.ref a1, .int r_36]) (rest := []) (k_X4_isWorthwhile l dC dI h L hN q_25 hV_q_25 (a0 := a0) ha0 ka0 (a1 := a1) ha1 ka1 r_36  ) (cwV 2 B.1.2.2.2.2 gX4_fill_X4_isWorthwhile rfl rfl rfl (by decide +kernel) ⟨Nat.le_of_ble_eq_true rfl, Nat.le_of_ble_eq_true rfl⟩) ha0 ka0 (by decide) rfl rfl rfl (Nat.le_of_ble_eq_true rfl) dX4_fill_182 (fun r_39 q_38 w_40 => ?_)
                      obtain ⟨ew_40, hw_40⟩ := w_40
                      subst ew_40
                      refine wa_if_eq B 198 dX4_fill_185 (by decide) (fun (t_41 : r_39.toInt = 0) => ?_) (fun (t_41 : ¬ r_39.toInt = 0) => ?_)
                      · obtain ⟨v_42, ev_42⟩ : ∃ z : Int32, z = v_14 + 1 := ⟨_, rfl⟩
                        refine wa_iinc B [(6, .int v_42), (7, .int r_36), (5, .int v_12), (4, .ref a_11), (0, .ref a0), (1, .ref a1), (2, .int n1), (3, .int n2)] v_42 dX4_fill_198 1 rfl (by rw [ev_42]; rfl) (by decide) rfl ?_
                        refine wa_goto B 89 dX4_fill_201 (by decide) ?_
                        have tv_42 : v_42.toInt = v_14.toInt + 1 := by have b0 := zx_bd v_14; rw [ev_42]; exact zx_add (show (-2147483648 : Int) ≤ v_14.toInt + 1 by omega) (show v_14.toInt + 1 < (2147483648 : Int) by omega)
                        refine WA.sub [0, 2, 3, 4, 5, 6, 7] rfl ?_
                        exact ih_17 v_42 q_25 hV_q_25 hF_q_25 p1_q_25 (show (10 - v_42.toInt : Int).toNat < _ from by omega)
                      · refine wa_aload_n B dX4_fill_188 rfl 4 rfl ?_
                        refine wa_aload_n B dX4_fill_189 rfl 5 rfl ?_
                        refine wa_iload_n B dX4_fill_190 rfl 6 rfl ?_
                        refine wa_iconst B 1 dX4_fill_191 (by decide) ?_
                        refine wa_iadd B dX4_fill_192 (fun v_43 ev_43 => ?_)
                        refine wa_iload B dX4_fill_193 0 rfl ?_
                        have tv_43 : v_43.toInt = n1.toInt + 1 := by have b0 := zx_bd n1; rw [ev_43]; exact zx_add (show (-2147483648 : Int) ≤ n1.toInt + 1 by omega) (show n1.toInt + 1 < (2147483648 : Int) by omega)
                        refine wa_callVv B (x := (RX4, TX4, 7)) (As := [.ref a1, .int v_43, .int r_36]) (rest := []) (k_X4_fill_1 l dC dI h L hN q_25 hV_q_25 (a0 := a0) ha0 ka0 (a1 := a1) ha1 ka1 v_43 r_36  (by first | assumption | omega | decide)) (cwV 3 B.1.2.2.2.2 gX4_fill_X4_fill rfl rfl rfl (by decide +kernel) ⟨Nat.le_of_ble_eq_true rfl, Nat.le_of_ble_eq_true rfl⟩) ha0 ka0 (by decide) rfl rfl rfl (Nat.le_of_ble_eq_true rfl) dX4_fill_195 (fun q_44 w_45 => ?_)
                        obtain ⟨hV_q_44, h2_q_44⟩ := w_45
                        have hF_q_44 : sx_fr h L (fun a => a = a1 ∧ h.1 a = 5 ∨ h.1 a = 1 ∨ h.1 a = 2) q q_44 := hF_q_25.tr (h2_q_44.mono (fun a (z : a = a1 ∧ h.1 a = 5 ∨ h.1 a = 1 ∨ h.1 a = 2) => (show a = a1 ∧ h.1 a = 5 ∨ h.1 a = 1 ∨ h.1 a = 2 from by omega)))
                        obtain ⟨v_46, ev_46⟩ : ∃ z : Int32, z = v_14 + 1 := ⟨_, rfl⟩
                        refine wa_iinc B [(6, .int v_46), (7, .int r_36), (5, .int v_12), (4, .ref a_11), (0, .ref a0), (1, .ref a1), (2, .int n1), (3, .int n2)] v_46 dX4_fill_198 1 rfl (by rw [ev_46]; rfl) (by decide) rfl ?_
                        refine wa_goto B 89 dX4_fill_201 (by decide) ?_
                        have tv_46 : v_46.toInt = v_14.toInt + 1 := by have b0 := zx_bd v_14; rw [ev_46]; exact zx_add (show (-2147483648 : Int) ≤ v_14.toInt + 1 by omega) (show v_14.toInt + 1 < (2147483648 : Int) by omega)
                        have z_47 : q_44.2.2.1 a1 1 = a_10 := (h2_q_44.R ha1 (show ¬ ((a1 = a1 ∧ h.1 a1 = 5 ∨ h.1 a1 = 1 ∨ h.1 a1 = 2) ∧ (h.1 a1 = 8 ∨ h.1 a1 = 11)) from by omega) 1).trans (p1_q_25)
                        refine WA.sub [0, 2, 3, 4, 5, 6, 7] rfl ?_
                        exact ih_17 v_46 q_44 hV_q_44 hF_q_44 z_47 (show (10 - v_46.toInt : Int).toNat < _ from by omega)
                    · refine wa_aload_n B dX4_fill_129 rfl 4 rfl ?_
                      obtain ⟨a_48, ea_48, ha_48, ka_48, la_48⟩ := hV_q_25.refn (n := 5) (t := 404) ha0 ka0 1 rfl (by decide) rfl (by decide)
                      refine wa_getR B (C := RX4) (T := TX4) (N := 7) iq_X4_fill_X4 ha0 ka0 (by decide) rfl 1 (by decide) (by decide) (by decide +kernel) rfl (fun _ _ _ => rfl) (v := a_48) ea_48 dX4_fill_130 ?_
                      refine wa_iload_n B dX4_fill_133 rfl 6 rfl ?_
                      refine wa_iconst B 1 dX4_fill_134 (by decide) ?_
                      refine wa_iadd B dX4_fill_135 (fun v_49 ev_49 => ?_)
                      have tv_49 : v_49.toInt = n1.toInt + 1 := by have b0 := zx_bd n1; rw [ev_49]; exact zx_add (show (-2147483648 : Int) ≤ n1.toInt + 1 by omega) (show n1.toInt + 1 < (2147483648 : Int) by omega)
                      obtain ⟨a_50, ea_50, ha_50, ka_50, la_50⟩ := hV_q_25.row ha_48 ka_48 (zx_ix (i := v_49) (show 0 ≤ v_49.toInt by omega) (show v_49.toInt < (h.2.1 a_48 : Int) by omega))
                      refine wa_aaloadA B (t0 := 7) ha_48 ka_48 (by decide) rfl (show 0 ≤ v_49.toInt by omega) (show v_49.toInt < (h.2.1 a_48 : Int) by omega) (v := a_50) ea_50 dX4_fill_136 ?_
                      refine wa_iload B dX4_fill_137 0 rfl ?_
                      refine wa_aload_n B dX4_fill_139 rfl 4 rfl ?_
                      refine wa_getR B (C := RX4) (T := TX4) (N := 7) iq_X4_fill_X4 ha0 ka0 (by decide) rfl 1 (by decide) (by decide) (by decide +kernel) rfl (fun _ _ _ => rfl) (v := a_48) ea_48 dX4_fill_140 ?_
                      refine wa_iload_n B dX4_fill_143 rfl 6 rfl ?_
                      obtain ⟨a_51, ea_51, ha_51, ka_51, la_51⟩ := hV_q_25.row ha_48 ka_48 (zx_ix (i := n1) (show 0 ≤ n1.toInt by omega) (show n1.toInt < (h.2.1 a_48 : Int) by omega))
                      refine wa_aaloadA B (t0 := 7) ha_48 ka_48 (by decide) rfl (show 0 ≤ n1.toInt by omega) (show n1.toInt < (h.2.1 a_48 : Int) by omega) (v := a_51) ea_51 dX4_fill_144 ?_
                      refine wa_iload B dX4_fill_145 0 rfl ?_
                      refine wa_laload B ha_51 ka_51 (by decide) (by decide) (show 0 ≤ v_24.toInt by omega) (show v_24.toInt < (h.2.1 a_51 : Int) by omega) (v := (q_25.2.2.2.2 a_51 (v_24 : Int32).toNatClampNeg)) rfl dX4_fill_147 ?_
                      refine wa_iload B dX4_fill_148 1 rfl ?_
                      refine wa_i2l B dX4_fill_150 (fun v_52 ev_52 => ?_)
                      refine wa_aload_n B dX4_fill_151 rfl 4 rfl ?_
                      obtain ⟨a_53, ea_53, ha_53, ka_53, la_53⟩ := hV_q_25.refn (n := 4) (t := 404) ha0 ka0 2 rfl (by decide) rfl (by decide)
                      refine wa_getR B (C := RX4) (T := TX4) (N := 7) iq_X4_fill_X4 ha0 ka0 (by decide) rfl 2 (by decide) (by decide) (by decide +kernel) rfl (fun _ _ _ => rfl) (v := a_53) ea_53 dX4_fill_152 ?_
                      refine wa_iload_n B dX4_fill_155 rfl 6 rfl ?_
                      obtain ⟨a_54, ea_54, ha_54, ka_54, la_54⟩ := hV_q_25.row ha_53 ka_53 (zx_ix (i := n1) (show 0 ≤ n1.toInt by omega) (show n1.toInt < (h.2.1 a_53 : Int) by omega))
                      refine wa_aaloadA B (t0 := 7) ha_53 ka_53 (by decide) rfl (show 0 ≤ n1.toInt by omega) (show n1.toInt < (h.2.1 a_53 : Int) by omega) (v := a_54) ea_54 dX4_fill_156 ?_
                      refine wa_iload B dX4_fill_157 0 rfl ?_
                      refine wa_laload B ha_54 ka_54 (by decide) (by decide) (show 0 ≤ v_24.toInt by omega) (show v_24.toInt < (h.2.1 a_54 : Int) by omega) (v := (q_25.2.2.2.2 a_54 (v_24 : Int32).toNatClampNeg)) rfl dX4_fill_159 ?_
                      refine wa_lmul B dX4_fill_160 (fun v_55 ev_55 => ?_)
                      refine wa_ladd B dX4_fill_161 (fun v_56 ev_56 => ?_)
                      refine wa_lastore B ha_50 ka_50 (by decide) (by decide) (show 0 ≤ v_24.toInt by omega) (show v_24.toInt < (h.2.1 a_50 : Int) by omega) dX4_fill_162 (fun q_57 eq_57 => ?_)
                      have hV_q_57 : sx_V h L q_57 := by rw [eq_57]; exact hV_q_25.pL
                      have hF_q_57 : sx_fr h L (fun a => a = a1 ∧ h.1 a = 5 ∨ h.1 a = 1 ∨ h.1 a = 2) q q_57 := hF_q_25.tr (by rw [eq_57]; exact sx_fr.pL (show h.1 a_50 = 200 ∨ (a_50 = a1 ∧ h.1 a_50 = 5 ∨ h.1 a_50 = 1 ∨ h.1 a_50 = 2) from by omega))
                      have z_58 : q_57.2.2.2.2 a_50 (v_24 : Int32).toNatClampNeg = v_56 := by rw [eq_57, sg_pL_e]; exact if_pos rfl
                      obtain ⟨v_59, ev_59⟩ : ∃ z : Int32, z = v_24 + 1 := ⟨_, rfl⟩
                      refine wa_iinc B [(7, .int v_59), (6, .int v_14), (5, .int v_12), (4, .ref a_11), (0, .ref a0), (1, .ref a1), (2, .int n1), (3, .int n2)] v_59 dX4_fill_163 0 rfl (by rw [ev_59]; rfl) (by decide) rfl ?_
                      refine wa_goto B 120 dX4_fill_166 (by decide) ?_
                      have tv_59 : v_59.toInt = v_24.toInt + 1 := by have b0 := zx_bd v_24; rw [ev_59]; exact zx_add (show (-2147483648 : Int) ≤ v_24.toInt + 1 by omega) (show v_24.toInt + 1 < (2147483648 : Int) by omega)
                      have z_60 : q_57.1 a0 0 = q_25.1 a0 0 := (show q_57.1 a0 0 = q_25.1 a0 0 from by rw [eq_57]; rfl)
                      have y_61 : (q_57.1 a0 0).toInt = (q_25.1 a0 0).toInt := by rw [z_60]
                      have z_62 : q_57.1 a_11 1 = (q_15.1 a_11 1) := ((show q_57.1 a_11 1 = q_25.1 a_11 1 from by rw [eq_57]; rfl)).trans (p0_q_25)
                      have z_63 : q_57.2.2.1 a1 1 = a_10 := ((show q_57.2.2.1 a1 1 = q_25.2.2.1 a1 1 from by rw [eq_57]; rfl)).trans (p1_q_25)
                      have z_64 : q_57.2.2.1 a0 5 = a_21 := ((show q_57.2.2.1 a0 5 = q_25.2.2.1 a0 5 from by rw [eq_57]; rfl)).trans (p2_q_25)
                      exact ih_31 v_59 q_57 hV_q_57 hF_q_57 z_62 z_63 z_64 (show 0 ≤ v_59.toInt from by first | assumption | omega | decide) (show ((q_57.1 a0 0).toInt - v_59.toInt : Int).toNat < _ from by omega)
                exact Lp_120_30 _ 0 q_22 hV_q_22 hF_q_22 z_26 z_27 z_28 (show 0 ≤ 0 from by first | assumption | omega | decide) (Nat.lt_succ_self _)
        exact Lp_89_16 _ (q.1 a_11 3) q hV hF ea_10 (Nat.lt_succ_self _)
      refine wa_if_eq B 75 dX4_fill_48 (by decide) (fun (t_65 : (q.1 a_11 5).toInt = 0) => ?_) (fun (t_65 : ¬ (q.1 a_11 5).toInt = 0) => ?_)
      · refine wa_aload B dX4_fill_75 0 rfl ?_
        refine wa_getI B (C := RX1) (T := TX1) (N := 7) iq_X4_fill_X1 ha_11 ka_11 (by decide) rfl 4 (by decide) (by decide) (by decide +kernel) rfl (by decide) (v := (q.1 a_11 4)) rfl dX4_fill_77 ?_
        exact Jn_80_13 (q.1 a_11 4)
      · refine wa_iload_n B dX4_fill_51 rfl 3 rfl ?_
        refine wa_if_le B 75 dX4_fill_52 (by decide) (fun (t_66 : n1.toInt ≤ 0) => ?_) (fun (t_66 : ¬ n1.toInt ≤ 0) => ?_)
        · refine wa_aload B dX4_fill_75 0 rfl ?_
          refine wa_getI B (C := RX1) (T := TX1) (N := 7) iq_X4_fill_X1 ha_11 ka_11 (by decide) rfl 4 (by decide) (by decide) (by decide +kernel) rfl (by decide) (v := (q.1 a_11 4)) rfl dX4_fill_77 ?_
          exact Jn_80_13 (q.1 a_11 4)
        · refine wa_aload B dX4_fill_55 0 rfl ?_
          refine wa_getI B (C := RX1) (T := TX1) (N := 7) iq_X4_fill_X1 ha_11 ka_11 (by decide) rfl 4 (by decide) (by decide) (by decide +kernel) rfl (by decide) (v := (q.1 a_11 4)) rfl dX4_fill_57 ?_
          refine wa_bipush B 10 dX4_fill_60 (by decide) ?_
          refine wa_aload_n B dX4_fill_62 rfl 1 rfl ?_
          obtain ⟨a_67, ea_67, ha_67, ka_67, la_67⟩ := hV.refn (n := 4) (t := 100) ha0 ka0 5 rfl (by decide) rfl (by decide)
          refine wa_getR B (C := RX4) (T := TX4) (N := 7) iq_X4_fill_X4 ha0 ka0 (by decide) rfl 5 (by decide) (by decide) (by decide +kernel) rfl (fun _ _ _ => rfl) (v := a_67) ea_67 dX4_fill_63 ?_
          refine wa_iload_n B dX4_fill_66 rfl 3 rfl ?_
          refine wa_iconst B 1 dX4_fill_67 (by decide) ?_
          refine wa_isub B dX4_fill_68 (fun v_68 ev_68 => ?_)
          have tv_68 : v_68.toInt = n1.toInt - 1 := by have b0 := zx_bd n1; rw [ev_68]; exact zx_sub (show (-2147483648 : Int) ≤ n1.toInt - 1 by omega) (show n1.toInt - 1 < (2147483648 : Int) by omega)
          refine wa_iaload B ha_67 ka_67 (by decide) (by decide) (show 0 ≤ v_68.toInt by omega) (show v_68.toInt < (h.2.1 a_67 : Int) by omega) (v := (q.2.2.2.1 a_67 (v_68 : Int32).toNatClampNeg)) rfl dX4_fill_69 ?_
          refine wa_imul B dX4_fill_70 (fun v_69 ev_69 => ?_)
          refine wa_isub B dX4_fill_71 (fun v_70 ev_70 => ?_)
          refine wa_goto B 80 dX4_fill_72 (by decide) ?_
          exact Jn_80_13 v_70
    · refine wa_aload_n B dX4_fill_13 rfl 1 rfl ?_
      refine wa_aload_n B dX4_fill_14 rfl 1 rfl ?_
      refine wa_getI B (C := RX5) (T := TX5) (N := 7) iq_X4_fill_X5 ha1 ka1 (by decide) rfl 6 (by decide) (by decide) (by decide +kernel) rfl (by decide) (v := (q.1 a1 6)) rfl dX4_fill_15 ?_
      refine wa_iload_n B dX4_fill_18 rfl 3 rfl ?_
      refine wa_mmin B (by decide +kernel) (by decide +kernel) (by decide +kernel) (by decide +kernel) (Nat.le_of_ble_eq_true rfl) (Nat.le_of_ble_eq_true rfl) dX4_fill_19 (fun v_71 ev_71 => ?_)
      have gv_71 : (v_71.toInt = (q.1 a1 6).toInt ∨ v_71.toInt = n2.toInt) ∧ (q.1 a1 6).toInt ≥ v_71.toInt ∧ n2.toInt ≥ v_71.toInt := by rw [ev_71]; exact zx_min
      refine wa_putI B (C := RX5) (T := TX5) (N := 7) iq_X4_fill_X5 ha1 ka1 (by decide) rfl 6 (by decide) (by decide) (by decide +kernel) rfl (by decide) (v := v_71) (ty := .int) tyX5 tyX5_ok nmX5 rfl (by decide +kernel) rfl rfl dX4_fill_22 (fun q_72 eq_72 => ?_)
      have hV_q_72 : sx_V h L q_72 := by rw [eq_72]; exact hV.pI ka1 trivial
      have hF_q_72 : sx_fr h L (fun a => a = a1 ∧ h.1 a = 5 ∨ h.1 a = 1 ∨ h.1 a = 2) q q_72 := hF.tr (by rw [eq_72]; exact sx_fr.pI (show a1 = a1 ∧ h.1 a1 = 5 ∨ h.1 a1 = 1 ∨ h.1 a1 = 2 from by omega))
      have z_73 : q_72.1 a1 6 = v_71 := by rw [eq_72]; exact sg_pI_e
      refine wa_iload_n B dX4_fill_25 rfl 3 rfl ?_
      refine wa_if_ne B 34 dX4_fill_26 (by decide) (fun (t_74 : ¬ n2.toInt = 0) => ?_) (fun (t_74 : n2.toInt = 0) => ?_)
      · exact hret _ _ _ dX4_fill_34 ⟨hV_q_72, hF_q_72⟩
      · refine wa_aload_n B dX4_fill_29 rfl 0 rfl ?_
        refine wa_aload_n B dX4_fill_30 rfl 1 rfl ?_
        refine wa_callVv B (x := (RX4, TX4, 7)) (As := [.ref a1]) (rest := []) (k_X4_noteReading l dC dI h L hN q_72 hV_q_72 (a0 := a0) ha0 ka0 (a1 := a1) ha1 ka1  ) (cwV 1 B.1.2.2.2.2 gX4_fill_X4_noteReading rfl rfl rfl (by decide +kernel) ⟨Nat.le_of_ble_eq_true rfl, Nat.le_of_ble_eq_true rfl⟩) ha0 ka0 (by decide) rfl rfl rfl (Nat.le_of_ble_eq_true rfl) dX4_fill_31 (fun q_75 w_76 => ?_)
        obtain ⟨hV_q_75, h2_q_75⟩ := w_76
        have hF_q_75 : sx_fr h L (fun a => a = a1 ∧ h.1 a = 5 ∨ h.1 a = 1 ∨ h.1 a = 2) q q_75 := hF_q_72.tr (h2_q_75.mono (fun a (z : a = a1 ∧ h.1 a = 5 ∨ h.1 a = 1 ∨ h.1 a = 2) => (show a = a1 ∧ h.1 a = 5 ∨ h.1 a = 1 ∨ h.1 a = 2 from by omega)))
        exact hret _ _ _ dX4_fill_34 ⟨hV_q_75, hF_q_75⟩
theorem iq_X4_solve_X2 : ∀ w ∈ wsX20, w ∈ wsX4_solve := fun _ h => List.mem_cons_of_mem _ (List.mem_append_left _ (List.mem_append_right _ h))
theorem iq_X4_solve_X4 : ∀ w ∈ wsX40, w ∈ wsX4_solve := fun _ h => List.mem_cons_of_mem _ (List.mem_append_left _ (List.mem_append_left _ (List.mem_append_left _ (List.mem_append_right _ h))))
theorem iq_X4_solve_X5 : ∀ w ∈ wsX50, w ∈ wsX4_solve := fun _ h => List.mem_cons_of_mem _ (List.mem_append_left _ (List.mem_append_left _ (List.mem_append_right _ h)))
set_option maxHeartbeats 4000000 in
set_option maxRecDepth 100000 in
theorem k_X4_solve (l : Launch) (dC : Nat → ClassId) (dI : Nat → Nat → Nat) (h : Sh) (L : List Nat) (hN : sx_nd L) (q : Sg) (hV : sx_V h L q) {a0 : Nat} (ha0 : a0 ∈ L) (ka0 : h.1 a0 = 4) {a1 : Nat} (ha1 : a1 ∈ L) (ka1 : h.1 a1 = 5) (n1 : Int32)  (hy0 : n1.toInt = 0 ∨ n1.toInt = 1) : CMv l dC dI h L yX4_solve wsX4_solve ({ frames := 8, cells := 0, slots := 0, locals := 198 } : Room) q [.ref a0, .ref a1, .int n1] (fun q' => sx_V h L q' ∧ sx_fr h L (fun a => a = a0 ∧ h.1 a = 4 ∨ a = a1 ∧ h.1 a = 5 ∨ h.1 a = 1 ∨ h.1 a = 2) q q') := by
  refine cm_v (cc := cX4_solve) (mL := 4) (own := RX4) hN (by decide) rfl rfl (Nat.le_of_ble_eq_true rfl) (fun Z B hret => ?_)
  have hF : sx_fr h L (fun a => a = a0 ∧ h.1 a = 4 ∨ a = a1 ∧ h.1 a = 5 ∨ h.1 a = 1 ∨ h.1 a = 2) q q := sx_fr.rf
  show WA l dC dI h L ({ frames := 8, cells := 0, slots := 0, locals := 198 } : Room) 4 Z q 0 [(0, .ref a0), (1, .ref a1), (2, .int n1)] []
  refine wa_aload_n B dX4_solve_0 rfl 0 rfl ?_
  refine wa_iload_n B dX4_solve_1 rfl 2 rfl ?_
  refine wa_putI B (C := RX4) (T := TX4) (N := 7) iq_X4_solve_X4 ha0 ka0 (by decide) rfl 6 (by decide) (by decide) (by decide +kernel) rfl (by decide) (v := n1) (ty := .boolean) tyX4 tyX4_ok nmX4 rfl (by decide +kernel) (by rcases zx_01 (show n1.toInt = 0 ∨ n1.toInt = 1 by omega) with z | z <;> rw [z] <;> rfl) (by rcases zx_01 (show n1.toInt = 0 ∨ n1.toInt = 1 by omega) with z | z <;> rw [z] <;> rfl) dX4_solve_2 (fun q_1 eq_1 => ?_)
  have hV_q_1 : sx_V h L q_1 := by rw [eq_1]; exact hV.pI ka0 trivial
  have hF_q_1 : sx_fr h L (fun a => a = a0 ∧ h.1 a = 4 ∨ a = a1 ∧ h.1 a = 5 ∨ h.1 a = 1 ∨ h.1 a = 2) q q_1 := hF.tr (by rw [eq_1]; exact sx_fr.pI (show a0 = a0 ∧ h.1 a0 = 4 ∨ a0 = a1 ∧ h.1 a0 = 5 ∨ h.1 a0 = 1 ∨ h.1 a0 = 2 from by omega))
  have z_2 : q_1.1 a0 6 = n1 := by rw [eq_1]; exact sg_pI_e
  refine wa_aload_n B dX4_solve_5 rfl 0 rfl ?_
  refine wa_iconst B 0 dX4_solve_6 (by decide) ?_
  refine wa_putI B (C := RX4) (T := TX4) (N := 7) iq_X4_solve_X4 ha0 ka0 (by decide) rfl 0 (by decide) (by decide) (by decide +kernel) rfl (by decide) (v := 0) (ty := .int) tyX4 tyX4_ok nmX4 rfl (by decide +kernel) rfl rfl dX4_solve_7 (fun q_3 eq_3 => ?_)
  have hV_q_3 : sx_V h L q_3 := by rw [eq_3]; exact hV_q_1.pI ka0 (show sx_in 0 (0) 12 from ⟨by decide, by decide⟩)
  have hF_q_3 : sx_fr h L (fun a => a = a0 ∧ h.1 a = 4 ∨ a = a1 ∧ h.1 a = 5 ∨ h.1 a = 1 ∨ h.1 a = 2) q q_3 := hF_q_1.tr (by rw [eq_3]; exact sx_fr.pI (show a0 = a0 ∧ h.1 a0 = 4 ∨ a0 = a1 ∧ h.1 a0 = 5 ∨ h.1 a0 = 1 ∨ h.1 a0 = 2 from by omega))
  have z_4 : q_3.1 a0 0 = 0 := by rw [eq_3]; exact sg_pI_e
  refine wa_iconst B 0 dX4_solve_10 (by decide) ?_
  refine wa_istore_n B [(3, .int 0), (0, .ref a0), (1, .ref a1), (2, .int n1)] dX4_solve_11 rfl (by decide) rfl ?_
  have z_7 : q_3.1 a0 6 = n1 := ((show q_3.1 a0 6 = q_1.1 a0 6 from by rw [eq_3]; exact sg_pI_k (by decide))).trans (z_2)
  have Lp_12_10 : ∀ (n : Nat) (v_5 : Int32) (q_6 : Sg), sx_V h L q_6 → sx_fr h L (fun a => a = a0 ∧ h.1 a = 4 ∨ a = a1 ∧ h.1 a = 5 ∨ h.1 a = 1 ∨ h.1 a = 2) q q_6 → q_6.1 a0 6 = n1 → 0 ≤ v_5.toInt → (q_6.1 a0 0).toInt ≤ v_5.toInt → ((q_6.1 a1 2).toInt - v_5.toInt : Int).toNat < n → WA l dC dI h L ({ frames := 8, cells := 0, slots := 0, locals := 198 } : Room) 4 Z q_6 12 [(3, .int v_5), (0, .ref a0), (1, .ref a1), (2, .int n1)] [] := by
    intro n
    induction n with
    | zero =>
      intro v_5 q_6 hV_q_6 hF_q_6 p0_q_6 x_8 x_9 hn
      exact absurd hn (Nat.not_lt_zero _)
    | succ n ih_11 =>
      intro v_5 q_6 hV_q_6 hF_q_6 p0_q_6 x_8 x_9 hn
      refine wa_iload_n B dX4_solve_12 rfl 0 rfl ?_
      refine wa_aload_n B dX4_solve_13 rfl 2 rfl ?_
      refine wa_getI B (C := RX5) (T := TX5) (N := 7) iq_X4_solve_X5 ha1 ka1 (by decide) rfl 2 (by decide) (by decide) (by decide +kernel) rfl (by decide) (v := (q_6.1 a1 2)) rfl dX4_solve_14 ?_
      have g_12 : (0 : Int) ≤ (q_6.1 a1 2).toInt ∧ (q_6.1 a1 2).toInt ≤ 12 := hV_q_6.int ha1 ka1 2
      refine wa_icmp_ge B 66 dX4_solve_17 (by decide) (fun (t_13 : (q_6.1 a1 2).toInt ≤ v_5.toInt) => ?_) (fun (t_13 : ¬ (q_6.1 a1 2).toInt ≤ v_5.toInt) => ?_)
      · refine wa_aload_n B dX4_solve_66 rfl 1 rfl ?_
        refine wa_iconst B 0 dX4_solve_67 (by decide) ?_
        refine wa_callVi B (x := (RX4, TX4, 7)) (As := [.int 0]) (rest := []) (k_X4_missedWith l dC dI h L hN q_6 hV_q_6 (a0 := a0) ha0 ka0 0  (by first | assumption | omega | decide) (by first | assumption | omega | decide)) (cwV 1 B.1.2.2.2.2 gX4_solve_X4_missedWith rfl rfl rfl (by decide +kernel) ⟨Nat.le_of_ble_eq_true rfl, Nat.le_of_ble_eq_true rfl⟩) ha0 ka0 (by decide) rfl rfl rfl (Nat.le_of_ble_eq_true rfl) dX4_solve_68 (fun r_15 q_14 w_16 => ?_)
        subst w_16
        refine wa_istore_n B [(3, .int r_15), (0, .ref a0), (1, .ref a1), (2, .int n1)] dX4_solve_71 rfl (by decide) rfl ?_
        refine wa_aload_n B dX4_solve_72 rfl 1 rfl ?_
        refine wa_aload_n B dX4_solve_73 rfl 2 rfl ?_
        refine wa_iload_n B dX4_solve_74 rfl 0 rfl ?_
        refine wa_callVi B (x := (RX4, TX4, 7)) (As := [.ref a1, .int r_15]) (rest := []) (k_X4_isWorthwhile l dC dI h L hN q_6 hV_q_6 (a0 := a0) ha0 ka0 (a1 := a1) ha1 ka1 r_15  ) (cwV 2 B.1.2.2.2.2 gX4_solve_X4_isWorthwhile rfl rfl rfl (by decide +kernel) ⟨Nat.le_of_ble_eq_true rfl, Nat.le_of_ble_eq_true rfl⟩) ha0 ka0 (by decide) rfl rfl rfl (Nat.le_of_ble_eq_true rfl) dX4_solve_75 (fun r_18 q_17 w_19 => ?_)
        obtain ⟨ew_19, hw_19⟩ := w_19
        subst ew_19
        refine wa_if_eq B 88 dX4_solve_78 (by decide) (fun (t_20 : r_18.toInt = 0) => ?_) (fun (t_20 : ¬ r_18.toInt = 0) => ?_)
        · exact hret _ _ _ dX4_solve_88 ⟨hV_q_6, hF_q_6⟩
        · refine wa_aload_n B dX4_solve_81 rfl 1 rfl ?_
          refine wa_aload_n B dX4_solve_82 rfl 2 rfl ?_
          refine wa_iconst B 0 dX4_solve_83 (by decide) ?_
          refine wa_iload_n B dX4_solve_84 rfl 0 rfl ?_
          refine wa_callVv B (x := (RX4, TX4, 7)) (As := [.ref a1, .int 0, .int r_15]) (rest := []) (k_X4_fill_0 l dC dI h L hN q_6 hV_q_6 (a0 := a0) ha0 ka0 (a1 := a1) ha1 ka1 0 r_15  (by first | assumption | omega | decide)) (cwV 3 B.1.2.2.2.2 gX4_solve_X4_fill rfl rfl rfl (by decide +kernel) ⟨Nat.le_of_ble_eq_true rfl, Nat.le_of_ble_eq_true rfl⟩) ha0 ka0 (by decide) rfl rfl rfl (Nat.le_of_ble_eq_true rfl) dX4_solve_85 (fun q_21 w_22 => ?_)
          obtain ⟨hV_q_21, h2_q_21⟩ := w_22
          have hF_q_21 : sx_fr h L (fun a => a = a0 ∧ h.1 a = 4 ∨ a = a1 ∧ h.1 a = 5 ∨ h.1 a = 1 ∨ h.1 a = 2) q q_21 := hF_q_6.tr (h2_q_21.mono (fun a (z : a = a1 ∧ h.1 a = 5 ∨ h.1 a = 1 ∨ h.1 a = 2) => (show a = a0 ∧ h.1 a = 4 ∨ a = a1 ∧ h.1 a = 5 ∨ h.1 a = 1 ∨ h.1 a = 2 from by omega)))
          exact hret _ _ _ dX4_solve_88 ⟨hV_q_21, hF_q_21⟩
      · refine wa_aload_n B dX4_solve_20 rfl 2 rfl ?_
        obtain ⟨a_23, ea_23, ha_23, ka_23, la_23⟩ := hV_q_6.refn (n := 12) (t := 401) ha1 ka1 0 rfl (by decide) rfl (by decide)
        refine wa_getR B (C := RX5) (T := TX5) (N := 7) iq_X4_solve_X5 ha1 ka1 (by decide) rfl 0 (by decide) (by decide) (by decide +kernel) rfl (fun _ _ _ => rfl) (v := a_23) ea_23 dX4_solve_21 ?_
        refine wa_iload_n B dX4_solve_24 rfl 0 rfl ?_
        obtain ⟨a_24, ea_24, ha_24, ka_24⟩ := hV_q_6.elem (t := 2) ha_23 ka_23 (by decide) rfl (zx_ix (i := v_5) (show 0 ≤ v_5.toInt by omega) (show v_5.toInt < (h.2.1 a_23 : Int) by omega))
        refine wa_aaload B (t0 := 4) ha_23 ka_23 (by decide) rfl (show 0 ≤ v_5.toInt by omega) (show v_5.toInt < (h.2.1 a_23 : Int) by omega) (v := a_24) ea_24 dX4_solve_25 ?_
        refine wa_getI B (C := RX2) (T := TX2) (N := 6) iq_X4_solve_X2 ha_24 ka_24 (by decide) rfl 0 (by decide) (by decide) (by decide +kernel) rfl (by decide) (v := (q_6.1 a_24 0)) rfl dX4_solve_26 ?_
        refine wa_if_eq B 60 dX4_solve_29 (by decide) (fun (t_25 : (q_6.1 a_24 0).toInt = 0) => ?_) (fun (t_25 : ¬ (q_6.1 a_24 0).toInt = 0) => ?_)
        · obtain ⟨v_26, ev_26⟩ : ∃ z : Int32, z = v_5 + 1 := ⟨_, rfl⟩
          refine wa_iinc B [(3, .int v_26), (0, .ref a0), (1, .ref a1), (2, .int n1)] v_26 dX4_solve_60 0 rfl (by rw [ev_26]; rfl) (by decide) rfl ?_
          refine wa_goto B 12 dX4_solve_63 (by decide) ?_
          have tv_26 : v_26.toInt = v_5.toInt + 1 := by have b0 := zx_bd v_5; rw [ev_26]; exact zx_add (show (-2147483648 : Int) ≤ v_5.toInt + 1 by omega) (show v_5.toInt + 1 < (2147483648 : Int) by omega)
          exact ih_11 v_26 q_6 hV_q_6 hF_q_6 p0_q_6 (show 0 ≤ v_26.toInt from by first | assumption | omega | decide) (show (q_6.1 a0 0).toInt ≤ v_26.toInt from by first | assumption | omega | decide) (show ((q_6.1 a1 2).toInt - v_26.toInt : Int).toNat < _ from by omega)
        · refine wa_aload_n B dX4_solve_32 rfl 1 rfl ?_
          refine wa_aload_n B dX4_solve_33 rfl 2 rfl ?_
          refine wa_iload_n B dX4_solve_34 rfl 0 rfl ?_
          refine wa_aload_n B dX4_solve_35 rfl 1 rfl ?_
          refine wa_getI B (C := RX4) (T := TX4) (N := 7) iq_X4_solve_X4 ha0 ka0 (by decide) rfl 0 (by decide) (by decide) (by decide +kernel) rfl (by decide) (v := (q_6.1 a0 0)) rfl dX4_solve_36 ?_
          have g_27 : (0 : Int) ≤ (q_6.1 a0 0).toInt ∧ (q_6.1 a0 0).toInt ≤ 12 := hV_q_6.int ha0 ka0 0
          refine wa_callVv B (x := (RX4, TX4, 7)) (As := [.ref a1, .int v_5, .int (q_6.1 a0 0)]) (rest := []) (k_X4_weigh l dC dI h L hN q_6 hV_q_6 (a0 := a0) ha0 ka0 (a1 := a1) ha1 ka1 v_5 (q_6.1 a0 0)  (by first | assumption | omega | decide) (by first | assumption | omega | decide) (by first | assumption | omega | decide) (by first | assumption | omega | decide)) (cwV 3 B.1.2.2.2.2 gX4_solve_X4_weigh rfl rfl rfl (by decide +kernel) ⟨Nat.le_of_ble_eq_true rfl, Nat.le_of_ble_eq_true rfl⟩) ha0 ka0 (by decide) rfl rfl rfl (Nat.le_of_ble_eq_true rfl) dX4_solve_39 (fun q_28 w_29 => ?_)
          obtain ⟨hV_q_28, h2_q_28⟩ := w_29
          have hF_q_28 : sx_fr h L (fun a => a = a0 ∧ h.1 a = 4 ∨ a = a1 ∧ h.1 a = 5 ∨ h.1 a = 1 ∨ h.1 a = 2) q q_28 := hF_q_6.tr (h2_q_28.mono (fun a (z : False) => z.elim))
          refine wa_aload_n B dX4_solve_42 rfl 1 rfl ?_
          refine wa_aload_n B dX4_solve_43 rfl 1 rfl ?_
          have z_30 : q_28.1 a0 0 = q_6.1 a0 0 := h2_q_28.I ha0 (show ¬ (False) from id) 0
          refine wa_getI B (C := RX4) (T := TX4) (N := 7) iq_X4_solve_X4 ha0 ka0 (by decide) rfl 0 (by decide) (by decide) (by decide +kernel) rfl (by decide) (v := (q_6.1 a0 0)) z_30 dX4_solve_44 ?_
          refine wa_callVv B (x := (RX4, TX4, 7)) (As := [.int (q_6.1 a0 0)]) (rest := []) (k_X4_measure l dC dI h L hN q_28 hV_q_28 (a0 := a0) ha0 ka0 (q_6.1 a0 0)  (by first | assumption | omega | decide) (by first | assumption | omega | decide)) (cwV 1 B.1.2.2.2.2 gX4_solve_X4_measure rfl rfl rfl (by decide +kernel) ⟨Nat.le_of_ble_eq_true rfl, Nat.le_of_ble_eq_true rfl⟩) ha0 ka0 (by decide) rfl rfl rfl (Nat.le_of_ble_eq_true rfl) dX4_solve_47 (fun q_31 w_32 => ?_)
          obtain ⟨hV_q_31, h2_q_31⟩ := w_32
          have hF_q_31 : sx_fr h L (fun a => a = a0 ∧ h.1 a = 4 ∨ a = a1 ∧ h.1 a = 5 ∨ h.1 a = 1 ∨ h.1 a = 2) q q_31 := hF_q_28.tr (h2_q_31.mono (fun a (z : False) => z.elim))
          refine wa_aload_n B dX4_solve_50 rfl 1 rfl ?_
          refine wa_dup B dX4_solve_51 rfl ?_
          have z_33 : q_31.1 a0 0 = (q_6.1 a0 0) := (h2_q_31.I ha0 (show ¬ (False) from id) 0).trans (z_30)
          refine wa_getI B (C := RX4) (T := TX4) (N := 7) iq_X4_solve_X4 ha0 ka0 (by decide) rfl 0 (by decide) (by decide) (by decide +kernel) rfl (by decide) (v := (q_6.1 a0 0)) z_33 dX4_solve_52 ?_
          refine wa_iconst B 1 dX4_solve_55 (by decide) ?_
          refine wa_iadd B dX4_solve_56 (fun v_34 ev_34 => ?_)
          have tv_34 : v_34.toInt = (q_6.1 a0 0).toInt + 1 := by have b0 := zx_bd (q_6.1 a0 0); rw [ev_34]; exact zx_add (show (-2147483648 : Int) ≤ (q_6.1 a0 0).toInt + 1 by omega) (show (q_6.1 a0 0).toInt + 1 < (2147483648 : Int) by omega)
          refine wa_putI B (C := RX4) (T := TX4) (N := 7) iq_X4_solve_X4 ha0 ka0 (by decide) rfl 0 (by decide) (by decide) (by decide +kernel) rfl (by decide) (v := v_34) (ty := .int) tyX4 tyX4_ok nmX4 rfl (by decide +kernel) rfl rfl dX4_solve_57 (fun q_35 eq_35 => ?_)
          have hV_q_35 : sx_V h L q_35 := by rw [eq_35]; exact hV_q_31.pI ka0 (show sx_in v_34 (0) 12 from ⟨by omega, by omega⟩)
          have hF_q_35 : sx_fr h L (fun a => a = a0 ∧ h.1 a = 4 ∨ a = a1 ∧ h.1 a = 5 ∨ h.1 a = 1 ∨ h.1 a = 2) q q_35 := hF_q_31.tr (by rw [eq_35]; exact sx_fr.pI (show a0 = a0 ∧ h.1 a0 = 4 ∨ a0 = a1 ∧ h.1 a0 = 5 ∨ h.1 a0 = 1 ∨ h.1 a0 = 2 from by omega))
          have z_36 : q_35.1 a0 0 = v_34 := by rw [eq_35]; exact sg_pI_e
          obtain ⟨v_37, ev_37⟩ : ∃ z : Int32, z = v_5 + 1 := ⟨_, rfl⟩
          refine wa_iinc B [(3, .int v_37), (0, .ref a0), (1, .ref a1), (2, .int n1)] v_37 dX4_solve_60 0 rfl (by rw [ev_37]; rfl) (by decide) rfl ?_
          refine wa_goto B 12 dX4_solve_63 (by decide) ?_
          have tv_37 : v_37.toInt = v_5.toInt + 1 := by have b0 := zx_bd v_5; rw [ev_37]; exact zx_add (show (-2147483648 : Int) ≤ v_5.toInt + 1 by omega) (show v_5.toInt + 1 < (2147483648 : Int) by omega)
          have y_38 : (q_35.1 a0 0).toInt = v_34.toInt := by rw [z_36]
          have z_39 : q_35.1 a1 2 = q_6.1 a1 2 := ((show q_35.1 a1 2 = q_31.1 a1 2 from by rw [eq_35]; exact sg_pI_k (by decide))).trans ((h2_q_31.I ha1 (show ¬ (False) from id) 2).trans (h2_q_28.I ha1 (show ¬ (False) from id) 2))
          have y_40 : (q_35.1 a1 2).toInt = (q_6.1 a1 2).toInt := by rw [z_39]
          have z_41 : q_35.1 a0 6 = n1 := ((show q_35.1 a0 6 = q_31.1 a0 6 from by rw [eq_35]; exact sg_pI_k (by decide))).trans ((h2_q_31.I ha0 (show ¬ (False) from id) 6).trans ((h2_q_28.I ha0 (show ¬ (False) from id) 6).trans (p0_q_6)))
          exact ih_11 v_37 q_35 hV_q_35 hF_q_35 z_41 (show 0 ≤ v_37.toInt from by first | assumption | omega | decide) (show (q_35.1 a0 0).toInt ≤ v_37.toInt from by first | assumption | omega | decide) (show ((q_35.1 a1 2).toInt - v_37.toInt : Int).toNat < _ from by omega)
  have y_42 : (q_3.1 a0 0).toInt = 0 := by rw [z_4]; rfl
  exact Lp_12_10 _ 0 q_3 hV_q_3 hF_q_3 z_7 (show 0 ≤ 0 from by first | assumption | omega | decide) (show (q_3.1 a0 0).toInt ≤ 0 from by first | assumption | omega | decide) (Nat.lt_succ_self _)
