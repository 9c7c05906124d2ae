theorem iq_X3_forget_X3 : ∀ w ∈ wsX30, w ∈ wsX3_forget := fun _ h => List.mem_cons_of_mem _ (List.mem_append_right _ h)
set_option maxHeartbeats 4000000 in
set_option maxRecDepth 100000 in
theorem k_X3_forget (l : Launch) (dC : Nat → ClassId) (dI : Nat → Nat → Nat) (h : Sh) (L : List Nat) (hN : sx_nd L) (q : Sg) (hV : sx_V h L q) {a0 : Nat} (ha0 : a0 ∈ L) (ka0 : h.1 a0 = 3)   : CMv l dC dI h L yX3_forget wsX3_forget ({ frames := 1, cells := 0, slots := 0, locals := 23 } : Room) q [.ref a0] (fun q' => sx_V h L q' ∧ sx_fr h L (fun a => a = a0 ∧ h.1 a = 3) q q') := by
  refine cm_v (cc := cX3_forget) (mL := 1) (own := RX3) hN (by decide) rfl rfl (Nat.le_of_ble_eq_true rfl) (fun Z B hret => ?_)
  have hF : sx_fr h L (fun a => a = a0 ∧ h.1 a = 3) q q := sx_fr.rf
  show WA l dC dI h L ({ frames := 1, cells := 0, slots := 0, locals := 23 } : Room) 1 Z q 0 [(0, .ref a0)] []
  refine wa_aload_n B dX3_forget_0 rfl 0 rfl ?_
  obtain ⟨a_1, ea_1, ha_1, ka_1, la_1⟩ := hV.refn (n := 12) (t := 100) ha0 ka0 0 rfl (by decide) rfl (by decide)
  refine wa_getR B (C := RX3) (T := TX3) (N := 5) iq_X3_forget_X3 ha0 ka0 (by decide) rfl 0 (by decide) (by decide) (by decide +kernel) rfl (fun _ _ _ => rfl) (v := a_1) ea_1 dX3_forget_1 ?_
  refine wa_iconst B (-1) dX3_forget_4 (by decide) ?_
  refine wa_callSv B (As := [.ref a_1, .int (-1)]) (rest := []) (k_J7_fill_53178 l dC dI h L hN q hV (a0 := a_1) ha_1 ka_1 (-1)  (by first | assumption | omega | decide) (by first | assumption | omega | decide) (show sx_E 100 (-1) from trivial)) (va_cwS 2 B.1.2.2.2.2 gX3_forget_J7_fill_53178 rfl rfl rfl (by decide +kernel) ⟨Nat.le_of_ble_eq_true rfl, Nat.le_of_ble_eq_true rfl⟩) rfl rfl (Nat.le_of_ble_eq_true rfl) dX3_forget_5 (fun q_2 w_3 => ?_)
  obtain ⟨hV_q_2, h2_q_2⟩ := w_3
  have hF_q_2 : sx_fr h L (fun a => a = a0 ∧ h.1 a = 3) q q_2 := hF.tr (h2_q_2.mono (fun a (z : a = a_1 ∧ h.1 a = 100 ∧ ¬ 100 = 100) => (show a = a0 ∧ h.1 a = 3 from by omega)))
  refine wa_aload_n B dX3_forget_8 rfl 0 rfl ?_
  refine wa_iconst B 0 dX3_forget_9 (by decide) ?_
  refine wa_putI B (C := RX3) (T := TX3) (N := 5) iq_X3_forget_X3 ha0 ka0 (by decide) rfl 1 (by decide) (by decide) (by decide +kernel) rfl (by decide) (v := 0) (ty := .int) tyX3 tyX3_ok nmX3 rfl (by decide +kernel) rfl rfl dX3_forget_10 (fun q_4 eq_4 => ?_)
  have hV_q_4 : sx_V h L q_4 := by rw [eq_4]; exact hV_q_2.pI ka0 trivial
  have hF_q_4 : sx_fr h L (fun a => a = a0 ∧ h.1 a = 3) q q_4 := hF_q_2.tr (by rw [eq_4]; exact sx_fr.pI (show a0 = a0 ∧ h.1 a0 = 3 from by omega))
  have z_5 : q_4.1 a0 1 = 0 := by rw [eq_4]; exact sg_pI_e
  refine wa_aload_n B dX3_forget_13 rfl 0 rfl ?_
  refine wa_iconst B 0 dX3_forget_14 (by decide) ?_
  refine wa_putI B (C := RX3) (T := TX3) (N := 5) iq_X3_forget_X3 ha0 ka0 (by decide) rfl 2 (by decide) (by decide) (by decide +kernel) rfl (by decide) (v := 0) (ty := .int) tyX3 tyX3_ok nmX3 rfl (by decide +kernel) rfl rfl dX3_forget_15 (fun q_6 eq_6 => ?_)
  have hV_q_6 : sx_V h L q_6 := by rw [eq_6]; exact hV_q_4.pI ka0 trivial
  have hF_q_6 : sx_fr h L (fun a => a = a0 ∧ h.1 a = 3) q q_6 := hF_q_4.tr (by rw [eq_6]; exact sx_fr.pI (show a0 = a0 ∧ h.1 a0 = 3 from by omega))
  have z_7 : q_6.1 a0 2 = 0 := by rw [eq_6]; exact sg_pI_e
  exact hret _ _ _ dX3_forget_18 ⟨hV_q_6, hF_q_6⟩
theorem iq_X3_tell_X3 : ∀ w ∈ wsX30, w ∈ wsX3_tell := fun _ h => List.mem_cons_of_mem _ (List.mem_append_right _ h)
set_option maxHeartbeats 4000000 in
set_option maxRecDepth 100000 in
theorem k_X3_tell (l : Launch) (dC : Nat → ClassId) (dI : Nat → Nat → Nat) (h : Sh) (L : List Nat) (hN : sx_nd L) (q : Sg) (hV : sx_V h L q) {a0 : Nat} (ha0 : a0 ∈ L) (ka0 : h.1 a0 = 3) (n1 : Int32) (n2 : Int32) (n3 : Int32)  (hy0 : 0 ≤ n1.toInt) (hy1 : n1.toInt ≤ 11) (hy2 : 0 ≤ n2.toInt) (hy3 : n2.toInt ≤ 11) : CMv l dC dI h L yX3_tell wsX3_tell ({ frames := 0, cells := 0, slots := 0, locals := 0 } : Room) q [.ref a0, .int n1, .int n2, .int n3] (fun q' => sx_V h L q' ∧ sx_fr h L (fun a => False) q q') := by
  refine cm_v (cc := cX3_tell) (mL := 5) (own := RX3) hN (by decide) rfl rfl (Nat.le_of_ble_eq_true rfl) (fun Z B hret => ?_)
  have hF : sx_fr h L (fun a => False) q q := sx_fr.rf
  show WA l dC dI h L ({ frames := 0, cells := 0, slots := 0, locals := 0 } : Room) 5 Z q 0 [(0, .ref a0), (1, .int n1), (2, .int n2), (3, .int n3)] []
  refine wa_iload_n B dX3_tell_0 rfl 3 rfl ?_
  refine wa_iconst B 2 dX3_tell_1 (by decide) ?_
  refine wa_icmp_ne B 10 dX3_tell_2 (by decide) (fun (t_1 : ¬ n3.toInt = 2) => ?_) (fun (t_1 : n3.toInt = 2) => ?_)
  · refine wa_iload_n B dX3_tell_10 rfl 3 rfl ?_
    refine wa_istore B [(4, .int n3), (0, .ref a0), (1, .int n1), (2, .int n2), (3, .int n3)] dX3_tell_11 (by decide) rfl ?_
    refine wa_aload_n B dX3_tell_13 rfl 1 rfl ?_
    obtain ⟨a_2, ea_2, ha_2, ka_2, la_2⟩ := hV.refn (n := 144) (t := 100) ha0 ka0 3 rfl (by decide) rfl (by decide)
    refine wa_getR B (C := RX3) (T := TX3) (N := 5) iq_X3_tell_X3 ha0 ka0 (by decide) rfl 3 (by decide) (by decide) (by decide +kernel) rfl (fun _ _ _ => rfl) (v := a_2) ea_2 dX3_tell_14 ?_
    refine wa_iload_n B dX3_tell_17 rfl 2 rfl ?_
    refine wa_bipush B 12 dX3_tell_18 (by decide) ?_
    refine wa_imul B dX3_tell_20 (fun v_3 ev_3 => ?_)
    refine wa_iload_n B dX3_tell_21 rfl 3 rfl ?_
    refine wa_iadd B dX3_tell_22 (fun v_4 ev_4 => ?_)
    refine wa_iload B dX3_tell_23 0 rfl ?_
    have tv_3 : v_3.toInt = n1.toInt * 12 := by have b0 := zx_bd n1; rw [ev_3]; exact zx_mul (show (-2147483648 : Int) ≤ n1.toInt * 12 by omega) (show n1.toInt * 12 < (2147483648 : Int) by omega)
    have tv_4 : v_4.toInt = v_3.toInt + n2.toInt := by have b0 := zx_bd v_3; have b1 := zx_bd n2; rw [ev_4]; exact zx_add (show (-2147483648 : Int) ≤ v_3.toInt + n2.toInt by omega) (show v_3.toInt + n2.toInt < (2147483648 : Int) by omega)
    refine wa_iastore B ha_2 ka_2 (by decide) (by decide) (show 0 ≤ v_4.toInt by omega) (show v_4.toInt < (h.2.1 a_2 : Int) by omega) dX3_tell_25 (fun q_5 eq_5 => ?_)
    have hV_q_5 : sx_V h L q_5 := by rw [eq_5]; exact hV.up1 ha_2 ka_2 trivial
    have hF_q_5 : sx_fr h L (fun a => False) q q_5 := hF.tr (by rw [eq_5]; exact sx_fr.pG (show h.1 a_2 = 100 ∨ (False) from by omega))
    have z_6 : q_5.2.2.2.1 a_2 (v_4 : Int32).toNatClampNeg = n3 := by rw [eq_5, sg_pG_e]; exact if_pos rfl
    exact hret _ _ _ dX3_tell_26 ⟨hV_q_5, hF_q_5⟩
  · refine wa_bipush B 17 dX3_tell_5 (by decide) ?_
    refine wa_goto B 11 dX3_tell_7 (by decide) ?_
    refine wa_istore B [(4, .int 17), (0, .ref a0), (1, .int n1), (2, .int n2), (3, .int n3)] dX3_tell_11 (by decide) rfl ?_
    refine wa_aload_n B dX3_tell_13 rfl 1 rfl ?_
    obtain ⟨a_7, ea_7, ha_7, ka_7, la_7⟩ := hV.refn (n := 144) (t := 100) ha0 ka0 3 rfl (by decide) rfl (by decide)
    refine wa_getR B (C := RX3) (T := TX3) (N := 5) iq_X3_tell_X3 ha0 ka0 (by decide) rfl 3 (by decide) (by decide) (by decide +kernel) rfl (fun _ _ _ => rfl) (v := a_7) ea_7 dX3_tell_14 ?_
    refine wa_iload_n B dX3_tell_17 rfl 2 rfl ?_
    refine wa_bipush B 12 dX3_tell_18 (by decide) ?_
    refine wa_imul B dX3_tell_20 (fun v_8 ev_8 => ?_)
    refine wa_iload_n B dX3_tell_21 rfl 3 rfl ?_
    refine wa_iadd B dX3_tell_22 (fun v_9 ev_9 => ?_)
    refine wa_iload B dX3_tell_23 0 rfl ?_
    have tv_8 : v_8.toInt = n1.toInt * 12 := by have b0 := zx_bd n1; rw [ev_8]; exact zx_mul (show (-2147483648 : Int) ≤ n1.toInt * 12 by omega) (show n1.toInt * 12 < (2147483648 : Int) by omega)
    have tv_9 : v_9.toInt = v_8.toInt + n2.toInt := by have b0 := zx_bd v_8; have b1 := zx_bd n2; rw [ev_9]; exact zx_add (show (-2147483648 : Int) ≤ v_8.toInt + n2.toInt by omega) (show v_8.toInt + n2.toInt < (2147483648 : Int) by omega)
    refine wa_iastore B ha_7 ka_7 (by decide) (by decide) (show 0 ≤ v_9.toInt by omega) (show v_9.toInt < (h.2.1 a_7 : Int) by omega) dX3_tell_25 (fun q_10 eq_10 => ?_)
    have hV_q_10 : sx_V h L q_10 := by rw [eq_10]; exact hV.up1 ha_7 ka_7 trivial
    have hF_q_10 : sx_fr h L (fun a => False) q q_10 := hF.tr (by rw [eq_10]; exact sx_fr.pG (show h.1 a_7 = 100 ∨ (False) from by omega))
    have z_11 : q_10.2.2.2.1 a_7 (v_9 : Int32).toNatClampNeg = 17 := by rw [eq_10, sg_pG_e]; exact if_pos rfl
    exact hret _ _ _ dX3_tell_26 ⟨hV_q_10, hF_q_10⟩
theorem iq_X3_bestOf_X3 : ∀ w ∈ wsX30, w ∈ wsX3_bestOf := fun _ h => List.mem_cons_of_mem _ (List.mem_append_right _ h)
set_option maxHeartbeats 4000000 in
set_option maxRecDepth 100000 in
theorem k_X3_bestOf (l : Launch) (dC : Nat → ClassId) (dI : Nat → Nat → Nat) (h : Sh) (L : List Nat) (hN : sx_nd L) (q : Sg) (hV : sx_V h L q) {a0 : Nat} (ha0 : a0 ∈ L) (ka0 : h.1 a0 = 3) (n1 : Int32) (n2 : Int32) (n3 : Int32)  (hy0 : 0 ≤ n1.toInt) (hy1 : n1.toInt ≤ 4095) (hy2 : 0 ≤ n2.toInt) (hy3 : n2.toInt ≤ 11) (hy4 : n3.toInt ≤ 12) : CMi l dC dI h L yX3_bestOf wsX3_bestOf ({ frames := 1, cells := 0, slots := 0, locals := 15 } : Room) q [.ref a0, .int n1, .int n2, .int n3] (fun r q' => q = q') := by
  refine cm_i (cc := cX3_bestOf) (mL := 8) (own := RX3) hN (by decide) rfl rfl (Nat.le_of_ble_eq_true rfl) (fun Z B hret => ?_)
  show WA l dC dI h L ({ frames := 1, cells := 0, slots := 0, locals := 15 } : Room) 8 Z q 0 [(0, .ref a0), (1, .int n1), (2, .int n2), (3, .int n3)] []
  refine wa_iload_n B dX3_bestOf_0 rfl 1 rfl ?_
  refine wa_iconst B 1 dX3_bestOf_1 (by decide) ?_
  refine wa_iload_n B dX3_bestOf_2 rfl 2 rfl ?_
  refine wa_ishl B dX3_bestOf_3 (fun v_1 ev_1 => ?_)
  refine wa_iconst B (-1) dX3_bestOf_4 (by decide) ?_
  refine wa_ixor B dX3_bestOf_5 (fun v_2 ev_2 => ?_)
  refine wa_iand B dX3_bestOf_6 (fun v_3 ev_3 => ?_)
  have gv_3 : 0 ≤ v_3.toInt ∧ v_3.toInt ≤ n1.toInt := by rw [ev_3]; exact zx_andle (by omega)
  refine wa_istore B [(4, .int v_3), (0, .ref a0), (1, .int n1), (2, .int n2), (3, .int n3)] dX3_bestOf_7 (by decide) rfl ?_
  refine wa_aload_n B dX3_bestOf_9 rfl 1 rfl ?_
  obtain ⟨a_4, ea_4, ha_4, ka_4, la_4⟩ := hV.refn (n := 4096) (t := 100) ha0 ka0 4 rfl (by decide) rfl (by decide)
  refine wa_getR B (C := RX3) (T := TX3) (N := 5) iq_X3_bestOf_X3 ha0 ka0 (by decide) rfl 4 (by decide) (by decide) (by decide +kernel) rfl (fun _ _ _ => rfl) (v := a_4) ea_4 dX3_bestOf_10 ?_
  refine wa_iload B dX3_bestOf_13 0 rfl ?_
  refine wa_iaload B ha_4 ka_4 (by decide) (by decide) (show 0 ≤ v_3.toInt by omega) (show v_3.toInt < (h.2.1 a_4 : Int) by omega) (v := (q.2.2.2.1 a_4 (v_3 : Int32).toNatClampNeg)) rfl dX3_bestOf_15 ?_
  refine wa_istore B [(5, .int ((q.2.2.2.1 a_4 (v_3 : Int32).toNatClampNeg))), (4, .int v_3), (0, .ref a0), (1, .int n1), (2, .int n2), (3, .int n3)] dX3_bestOf_16 (by decide) rfl ?_
  refine wa_iload_n B dX3_bestOf_18 rfl 4 rfl ?_
  refine wa_iconst B 1 dX3_bestOf_19 (by decide) ?_
  refine wa_iadd B dX3_bestOf_20 (fun v_5 ev_5 => ?_)
  refine wa_istore B [(6, .int v_5), (5, .int ((q.2.2.2.1 a_4 (v_3 : Int32).toNatClampNeg))), (4, .int v_3), (0, .ref a0), (1, .int n1), (2, .int n2), (3, .int n3)] dX3_bestOf_21 (by decide) rfl ?_
  have Lp_23_9 : ∀ (n : Nat) (v_6 : Int32) (v_7 : Int32), 0 ≤ v_6.toInt → (n3.toInt - v_6.toInt : Int).toNat < n → WA l dC dI h L ({ frames := 1, cells := 0, slots := 0, locals := 15 } : Room) 8 Z q 23 [(6, .int v_6), (5, .int v_7), (4, .int v_3), (0, .ref a0), (1, .int n1), (2, .int n2), (3, .int n3)] [] := by
    intro n
    induction n with
    | zero =>
      intro v_6 v_7 x_8 hn
      exact absurd hn (Nat.not_lt_zero _)
    | succ n ih_10 =>
      intro v_6 v_7 x_8 hn
      refine wa_iload B dX3_bestOf_23 0 rfl ?_
      refine wa_iload_n B dX3_bestOf_25 rfl 6 rfl ?_
      refine wa_icmp_ge B 87 dX3_bestOf_26 (by decide) (fun (t_11 : n3.toInt ≤ v_6.toInt) => ?_) (fun (t_11 : ¬ n3.toInt ≤ v_6.toInt) => ?_)
      · refine wa_iload B dX3_bestOf_87 1 rfl ?_
        exact hret _ _ _ _ dX3_bestOf_89 rfl
      · refine wa_aload_n B dX3_bestOf_29 rfl 3 rfl ?_
        obtain ⟨a_12, ea_12, ha_12, ka_12, la_12⟩ := hV.refn (n := 144) (t := 100) ha0 ka0 3 rfl (by decide) rfl (by decide)
        refine wa_getR B (C := RX3) (T := TX3) (N := 5) iq_X3_bestOf_X3 ha0 ka0 (by decide) rfl 3 (by decide) (by decide) (by decide +kernel) rfl (fun _ _ _ => rfl) (v := a_12) ea_12 dX3_bestOf_30 ?_
        refine wa_iload_n B dX3_bestOf_33 rfl 5 rfl ?_
        refine wa_bipush B 12 dX3_bestOf_34 (by decide) ?_
        refine wa_imul B dX3_bestOf_36 (fun v_13 ev_13 => ?_)
        refine wa_iload B dX3_bestOf_37 0 rfl ?_
        refine wa_iadd B dX3_bestOf_39 (fun v_14 ev_14 => ?_)
        have tv_13 : v_13.toInt = n2.toInt * 12 := by have b0 := zx_bd n2; rw [ev_13]; exact zx_mul (show (-2147483648 : Int) ≤ n2.toInt * 12 by omega) (show n2.toInt * 12 < (2147483648 : Int) by omega)
        have tv_14 : v_14.toInt = v_13.toInt + v_6.toInt := by have b0 := zx_bd v_13; have b1 := zx_bd v_6; rw [ev_14]; exact zx_add (show (-2147483648 : Int) ≤ v_13.toInt + v_6.toInt by omega) (show v_13.toInt + v_6.toInt < (2147483648 : Int) by omega)
        refine wa_iaload B ha_12 ka_12 (by decide) (by decide) (show 0 ≤ v_14.toInt by omega) (show v_14.toInt < (h.2.1 a_12 : Int) by omega) (v := (q.2.2.2.1 a_12 (v_14 : Int32).toNatClampNeg)) rfl dX3_bestOf_40 ?_
        refine wa_istore B [(7, .int ((q.2.2.2.1 a_12 (v_14 : Int32).toNatClampNeg))), (6, .int v_6), (5, .int v_7), (4, .int v_3), (0, .ref a0), (1, .int n1), (2, .int n2), (3, .int n3)] dX3_bestOf_41 (by decide) rfl ?_
        refine wa_iload_n B dX3_bestOf_43 rfl 5 rfl ?_
        refine wa_iload B dX3_bestOf_44 1 rfl ?_
        refine wa_ishr B dX3_bestOf_46 (fun v_15 ev_15 => ?_)
        refine wa_iconst B 1 dX3_bestOf_47 (by decide) ?_
        refine wa_iand B dX3_bestOf_48 (fun v_16 ev_16 => ?_)
        have Jn_81_18 : ∀  (v_17 : Int32), WA l dC dI h L ({ frames := 1, cells := 0, slots := 0, locals := 15 } : Room) 8 Z q 81 [(7, .int ((q.2.2.2.1 a_12 (v_14 : Int32).toNatClampNeg))), (6, .int v_6), (5, .int v_17), (4, .int v_3), (0, .ref a0), (1, .int n1), (2, .int n2), (3, .int n3)] [] := by
          intro v_17
          obtain ⟨v_19, ev_19⟩ : ∃ z : Int32, z = v_6 + 1 := ⟨_, rfl⟩
          refine wa_iinc B [(6, .int v_19), (7, .int ((q.2.2.2.1 a_12 (v_14 : Int32).toNatClampNeg))), (5, .int v_17), (4, .int v_3), (0, .ref a0), (1, .int n1), (2, .int n2), (3, .int n3)] v_19 dX3_bestOf_81 1 rfl (by rw [ev_19]; rfl) (by decide) rfl ?_
          refine wa_goto B 23 dX3_bestOf_84 (by decide) ?_
          have tv_19 : v_19.toInt = v_6.toInt + 1 := by have b0 := zx_bd v_6; rw [ev_19]; exact zx_add (show (-2147483648 : Int) ≤ v_6.toInt + 1 by omega) (show v_6.toInt + 1 < (2147483648 : Int) by omega)
          refine WA.sub [0, 2, 3, 4, 5, 6, 7] rfl ?_
          exact ih_10 v_19 v_17 (show 0 ≤ v_19.toInt from by first | assumption | omega | decide) (show (n3.toInt - v_19.toInt : Int).toNat < _ from by omega)
        refine wa_if_eq B 81 dX3_bestOf_49 (by decide) (fun (t_20 : v_16.toInt = 0) => ?_) (fun (t_20 : ¬ v_16.toInt = 0) => ?_)
        · exact Jn_81_18 v_7
        · refine wa_iload B dX3_bestOf_52 0 rfl ?_
          refine wa_if_le B 81 dX3_bestOf_54 (by decide) (fun (t_21 : ((q.2.2.2.1 a_12 (v_14 : Int32).toNatClampNeg)).toInt ≤ 0) => ?_) (fun (t_21 : ¬ ((q.2.2.2.1 a_12 (v_14 : Int32).toNatClampNeg)).toInt ≤ 0) => ?_)
          · exact Jn_81_18 v_7
          · refine wa_iload B dX3_bestOf_57 2 rfl ?_
            refine wa_iload B dX3_bestOf_59 0 rfl ?_
            refine wa_aload_n B dX3_bestOf_61 rfl 4 rfl ?_
            refine wa_getR B (C := RX3) (T := TX3) (N := 5) iq_X3_bestOf_X3 ha0 ka0 (by decide) rfl 4 (by decide) (by decide) (by decide +kernel) rfl (fun _ _ _ => rfl) (v := a_4) ea_4 dX3_bestOf_62 ?_
            refine wa_iload B dX3_bestOf_65 3 rfl ?_
            refine wa_iconst B 1 dX3_bestOf_67 (by decide) ?_
            refine wa_iload B dX3_bestOf_68 1 rfl ?_
            refine wa_ishl B dX3_bestOf_70 (fun v_22 ev_22 => ?_)
            refine wa_iconst B (-1) dX3_bestOf_71 (by decide) ?_
            refine wa_ixor B dX3_bestOf_72 (fun v_23 ev_23 => ?_)
            refine wa_iand B dX3_bestOf_73 (fun v_24 ev_24 => ?_)
            have gv_24 : 0 ≤ v_24.toInt ∧ v_24.toInt ≤ v_3.toInt := by rw [ev_24]; exact zx_andle (by omega)
            refine wa_iaload B ha_4 ka_4 (by decide) (by decide) (show 0 ≤ v_24.toInt by omega) (show v_24.toInt < (h.2.1 a_4 : Int) by omega) (v := (q.2.2.2.1 a_4 (v_24 : Int32).toNatClampNeg)) rfl dX3_bestOf_74 ?_
            refine wa_iadd B dX3_bestOf_75 (fun v_25 ev_25 => ?_)
            refine wa_mmax B (by decide +kernel) (by decide +kernel) (by decide +kernel) (by decide +kernel) (Nat.le_of_ble_eq_true rfl) (Nat.le_of_ble_eq_true rfl) dX3_bestOf_76 (fun v_26 ev_26 => ?_)
            have gv_26 : (v_26.toInt = v_7.toInt ∨ v_26.toInt = v_25.toInt) ∧ v_7.toInt ≤ v_26.toInt ∧ v_25.toInt ≤ v_26.toInt := by rw [ev_26]; exact zx_max
            refine wa_istore B [(5, .int v_26), (7, .int ((q.2.2.2.1 a_12 (v_14 : Int32).toNatClampNeg))), (6, .int v_6), (4, .int v_3), (0, .ref a0), (1, .int n1), (2, .int n2), (3, .int n3)] dX3_bestOf_79 (by decide) rfl ?_
            refine WA.sub [1, 2, 0, 3, 4, 5, 6, 7] rfl ?_
            exact Jn_81_18 v_26
  have tv_5 : v_5.toInt = n2.toInt + 1 := by have b0 := zx_bd n2; rw [ev_5]; exact zx_add (show (-2147483648 : Int) ≤ n2.toInt + 1 by omega) (show n2.toInt + 1 < (2147483648 : Int) by omega)
  exact Lp_23_9 _ v_5 ((q.2.2.2.1 a_4 (v_3 : Int32).toNatClampNeg)) (show 0 ≤ v_5.toInt from by first | assumption | omega | decide) (Nat.lt_succ_self _)
theorem iq_X3_pairOff_X3 : ∀ w ∈ wsX30, w ∈ wsX3_pairOff := fun _ h => List.mem_cons_of_mem _ (List.mem_append_right _ h)
set_option maxHeartbeats 4000000 in
set_option maxRecDepth 100000 in
theorem k_X3_pairOff (l : Launch) (dC : Nat → ClassId) (dI : Nat → Nat → Nat) (h : Sh) (L : List Nat) (hN : sx_nd L) (q : Sg) (hV : sx_V h L q) {a0 : Nat} (ha0 : a0 ∈ L) (ka0 : h.1 a0 = 3) (n1 : Int32) (n2 : Int32) (n3 : Int32)  (hy0 : 0 ≤ n1.toInt) (hy1 : n1.toInt ≤ 4095) (hy2 : 0 ≤ n2.toInt) (hy3 : n2.toInt ≤ 11) (hy4 : n3.toInt ≤ 12) : CMi l dC dI h L yX3_pairOff wsX3_pairOff ({ frames := 0, cells := 0, slots := 0, locals := 0 } : Room) q [.ref a0, .int n1, .int n2, .int n3] (fun r q' => sx_V h L q' ∧ sx_fr h L (fun a => a = a0 ∧ h.1 a = 3) q q' ∧ (0 ≤ r.toInt ∧ r.toInt ≤ n1.toInt)) := by
  refine cm_i (cc := cX3_pairOff) (mL := 8) (own := RX3) hN (by decide) rfl rfl (Nat.le_of_ble_eq_true rfl) (fun Z B hret => ?_)
  have hF : sx_fr h L (fun a => a = a0 ∧ h.1 a = 3) q q := sx_fr.rf
  show WA l dC dI h L ({ frames := 0, cells := 0, slots := 0, locals := 0 } : Room) 8 Z q 0 [(0, .ref a0), (1, .int n1), (2, .int n2), (3, .int n3)] []
  refine wa_iload_n B dX3_pairOff_0 rfl 1 rfl ?_
  refine wa_iconst B 1 dX3_pairOff_1 (by decide) ?_
  refine wa_iload_n B dX3_pairOff_2 rfl 2 rfl ?_
  refine wa_ishl B dX3_pairOff_3 (fun v_1 ev_1 => ?_)
  refine wa_iconst B (-1) dX3_pairOff_4 (by decide) ?_
  refine wa_ixor B dX3_pairOff_5 (fun v_2 ev_2 => ?_)
  refine wa_iand B dX3_pairOff_6 (fun v_3 ev_3 => ?_)
  have gv_3 : 0 ≤ v_3.toInt ∧ v_3.toInt ≤ n1.toInt := by rw [ev_3]; exact zx_andle (by omega)
  refine wa_istore B [(4, .int v_3), (0, .ref a0), (1, .int n1), (2, .int n2), (3, .int n3)] dX3_pairOff_7 (by decide) rfl ?_
  refine wa_iload_n B dX3_pairOff_9 rfl 3 rfl ?_
  refine wa_iconst B 1 dX3_pairOff_10 (by decide) ?_
  refine wa_iadd B dX3_pairOff_11 (fun v_4 ev_4 => ?_)
  refine wa_istore B [(5, .int v_4), (4, .int v_3), (0, .ref a0), (1, .int n1), (2, .int n2), (3, .int n3)] dX3_pairOff_12 (by decide) rfl ?_
  have Lp_14_8 : ∀ (n : Nat) (v_5 : Int32) (q_6 : Sg), sx_V h L q_6 → sx_fr h L (fun a => a = a0 ∧ h.1 a = 3) q q_6 → 0 ≤ v_5.toInt → (n3.toInt - v_5.toInt : Int).toNat < n → WA l dC dI h L ({ frames := 0, cells := 0, slots := 0, locals := 0 } : Room) 8 Z q_6 14 [(5, .int v_5), (4, .int v_3), (0, .ref a0), (1, .int n1), (2, .int n2), (3, .int n3)] [] := by
    intro n
    induction n with
    | zero =>
      intro v_5 q_6 hV_q_6 hF_q_6 x_7 hn
      exact absurd hn (Nat.not_lt_zero _)
    | succ n ih_9 =>
      intro v_5 q_6 hV_q_6 hF_q_6 x_7 hn
      refine wa_iload B dX3_pairOff_14 0 rfl ?_
      refine wa_iload_n B dX3_pairOff_16 rfl 5 rfl ?_
      refine wa_icmp_ge B 132 dX3_pairOff_17 (by decide) (fun (t_10 : n3.toInt ≤ v_5.toInt) => ?_) (fun (t_10 : ¬ n3.toInt ≤ v_5.toInt) => ?_)
      · refine wa_iload B dX3_pairOff_132 1 rfl ?_
        exact hret _ _ _ _ dX3_pairOff_134 ⟨hV_q_6, hF_q_6, (by first | omega | (refine ⟨?_, ?_⟩ <;> omega) | trivial)⟩
      · refine wa_aload_n B dX3_pairOff_20 rfl 2 rfl ?_
        obtain ⟨a_11, ea_11, ha_11, ka_11, la_11⟩ := hV_q_6.refn (n := 144) (t := 100) ha0 ka0 3 rfl (by decide) rfl (by decide)
        refine wa_getR B (C := RX3) (T := TX3) (N := 5) iq_X3_pairOff_X3 ha0 ka0 (by decide) rfl 3 (by decide) (by decide) (by decide +kernel) rfl (fun _ _ _ => rfl) (v := a_11) ea_11 dX3_pairOff_21 ?_
        refine wa_iload_n B dX3_pairOff_24 rfl 4 rfl ?_
        refine wa_bipush B 12 dX3_pairOff_25 (by decide) ?_
        refine wa_imul B dX3_pairOff_27 (fun v_12 ev_12 => ?_)
        refine wa_iload B dX3_pairOff_28 0 rfl ?_
        refine wa_iadd B dX3_pairOff_30 (fun v_13 ev_13 => ?_)
        have tv_12 : v_12.toInt = n2.toInt * 12 := by have b0 := zx_bd n2; rw [ev_12]; exact zx_mul (show (-2147483648 : Int) ≤ n2.toInt * 12 by omega) (show n2.toInt * 12 < (2147483648 : Int) by omega)
        have tv_13 : v_13.toInt = v_12.toInt + v_5.toInt := by have b0 := zx_bd v_12; have b1 := zx_bd v_5; rw [ev_13]; exact zx_add (show (-2147483648 : Int) ≤ v_12.toInt + v_5.toInt by omega) (show v_12.toInt + v_5.toInt < (2147483648 : Int) by omega)
        refine wa_iaload B ha_11 ka_11 (by decide) (by decide) (show 0 ≤ v_13.toInt by omega) (show v_13.toInt < (h.2.1 a_11 : Int) by omega) (v := (q_6.2.2.2.1 a_11 (v_13 : Int32).toNatClampNeg)) rfl dX3_pairOff_31 ?_
        refine wa_istore B [(6, .int ((q_6.2.2.2.1 a_11 (v_13 : Int32).toNatClampNeg))), (5, .int v_5), (4, .int v_3), (0, .ref a0), (1, .int n1), (2, .int n2), (3, .int n3)] dX3_pairOff_32 (by decide) rfl ?_
        refine wa_iload B dX3_pairOff_34 2 rfl ?_
        refine wa_iconst B 1 dX3_pairOff_36 (by decide) ?_
        refine wa_iload B dX3_pairOff_37 1 rfl ?_
        refine wa_ishl B dX3_pairOff_39 (fun v_14 ev_14 => ?_)
        refine wa_iconst B (-1) dX3_pairOff_40 (by decide) ?_
        refine wa_ixor B dX3_pairOff_41 (fun v_15 ev_15 => ?_)
        refine wa_iand B dX3_pairOff_42 (fun v_16 ev_16 => ?_)
        have gv_16 : 0 ≤ v_16.toInt ∧ v_16.toInt ≤ v_3.toInt := by rw [ev_16]; exact zx_andle (by omega)
        refine wa_istore B [(7, .int v_16), (6, .int ((q_6.2.2.2.1 a_11 (v_13 : Int32).toNatClampNeg))), (5, .int v_5), (4, .int v_3), (0, .ref a0), (1, .int n1), (2, .int n2), (3, .int n3)] dX3_pairOff_43 (by decide) rfl ?_
        refine wa_iload B dX3_pairOff_45 0 rfl ?_
        refine wa_iload B dX3_pairOff_47 3 rfl ?_
        refine wa_icmp_eq B 126 dX3_pairOff_49 (by decide) (fun (t_17 : v_16.toInt = v_3.toInt) => ?_) (fun (t_17 : ¬ v_16.toInt = v_3.toInt) => ?_)
        · obtain ⟨v_18, ev_18⟩ : ∃ z : Int32, z = v_5 + 1 := ⟨_, rfl⟩
          refine wa_iinc B [(5, .int v_18), (7, .int v_16), (6, .int ((q_6.2.2.2.1 a_11 (v_13 : Int32).toNatClampNeg))), (4, .int v_3), (0, .ref a0), (1, .int n1), (2, .int n2), (3, .int n3)] v_18 dX3_pairOff_126 2 rfl (by rw [ev_18]; rfl) (by decide) rfl ?_
          refine wa_goto B 14 dX3_pairOff_129 (by decide) ?_
          have tv_18 : v_18.toInt = v_5.toInt + 1 := by have b0 := zx_bd v_5; rw [ev_18]; exact zx_add (show (-2147483648 : Int) ≤ v_5.toInt + 1 by omega) (show v_5.toInt + 1 < (2147483648 : Int) by omega)
          refine WA.sub [0, 3, 4, 5, 6, 7] rfl ?_
          exact ih_9 v_18 q_6 hV_q_6 hF_q_6 (show 0 ≤ v_18.toInt from by first | assumption | omega | decide) (show (n3.toInt - v_18.toInt : Int).toNat < _ from by omega)
        · refine wa_iload B dX3_pairOff_52 1 rfl ?_
          refine wa_if_le B 126 dX3_pairOff_54 (by decide) (fun (t_19 : ((q_6.2.2.2.1 a_11 (v_13 : Int32).toNatClampNeg)).toInt ≤ 0) => ?_) (fun (t_19 : ¬ ((q_6.2.2.2.1 a_11 (v_13 : Int32).toNatClampNeg)).toInt ≤ 0) => ?_)
          · obtain ⟨v_20, ev_20⟩ : ∃ z : Int32, z = v_5 + 1 := ⟨_, rfl⟩
            refine wa_iinc B [(5, .int v_20), (7, .int v_16), (6, .int ((q_6.2.2.2.1 a_11 (v_13 : Int32).toNatClampNeg))), (4, .int v_3), (0, .ref a0), (1, .int n1), (2, .int n2), (3, .int n3)] v_20 dX3_pairOff_126 2 rfl (by rw [ev_20]; rfl) (by decide) rfl ?_
            refine wa_goto B 14 dX3_pairOff_129 (by decide) ?_
            have tv_20 : v_20.toInt = v_5.toInt + 1 := by have b0 := zx_bd v_5; rw [ev_20]; exact zx_add (show (-2147483648 : Int) ≤ v_5.toInt + 1 by omega) (show v_5.toInt + 1 < (2147483648 : Int) by omega)
            refine WA.sub [0, 3, 4, 5, 6, 7] rfl ?_
            exact ih_9 v_20 q_6 hV_q_6 hF_q_6 (show 0 ≤ v_20.toInt from by first | assumption | omega | decide) (show (n3.toInt - v_20.toInt : Int).toNat < _ from by omega)
          · refine wa_iload B dX3_pairOff_57 1 rfl ?_
            refine wa_aload_n B dX3_pairOff_59 rfl 4 rfl ?_
            obtain ⟨a_21, ea_21, ha_21, ka_21, la_21⟩ := hV_q_6.refn (n := 4096) (t := 100) ha0 ka0 4 rfl (by decide) rfl (by decide)
            refine wa_getR B (C := RX3) (T := TX3) (N := 5) iq_X3_pairOff_X3 ha0 ka0 (by decide) rfl 4 (by decide) (by decide) (by decide +kernel) rfl (fun _ _ _ => rfl) (v := a_21) ea_21 dX3_pairOff_60 ?_
            refine wa_iload B dX3_pairOff_63 0 rfl ?_
            refine wa_iaload B ha_21 ka_21 (by decide) (by decide) (show 0 ≤ v_16.toInt by omega) (show v_16.toInt < (h.2.1 a_21 : Int) by omega) (v := (q_6.2.2.2.1 a_21 (v_16 : Int32).toNatClampNeg)) rfl dX3_pairOff_65 ?_
            refine wa_iadd B dX3_pairOff_66 (fun v_22 ev_22 => ?_)
            refine wa_aload_n B dX3_pairOff_67 rfl 4 rfl ?_
            refine wa_getR B (C := RX3) (T := TX3) (N := 5) iq_X3_pairOff_X3 ha0 ka0 (by decide) rfl 4 (by decide) (by decide) (by decide +kernel) rfl (fun _ _ _ => rfl) (v := a_21) ea_21 dX3_pairOff_68 ?_
            refine wa_iload_n B dX3_pairOff_71 rfl 5 rfl ?_
            refine wa_iaload B ha_21 ka_21 (by decide) (by decide) (show 0 ≤ n1.toInt by omega) (show n1.toInt < (h.2.1 a_21 : Int) by omega) (v := (q_6.2.2.2.1 a_21 (n1 : Int32).toNatClampNeg)) rfl dX3_pairOff_72 ?_
            refine wa_icmp_ne B 126 dX3_pairOff_73 (by decide) (fun (t_23 : ¬ v_22.toInt = ((q_6.2.2.2.1 a_21 (n1 : Int32).toNatClampNeg)).toInt) => ?_) (fun (t_23 : v_22.toInt = ((q_6.2.2.2.1 a_21 (n1 : Int32).toNatClampNeg)).toInt) => ?_)
            · obtain ⟨v_24, ev_24⟩ : ∃ z : Int32, z = v_5 + 1 := ⟨_, rfl⟩
              refine wa_iinc B [(5, .int v_24), (7, .int v_16), (6, .int ((q_6.2.2.2.1 a_11 (v_13 : Int32).toNatClampNeg))), (4, .int v_3), (0, .ref a0), (1, .int n1), (2, .int n2), (3, .int n3)] v_24 dX3_pairOff_126 2 rfl (by rw [ev_24]; rfl) (by decide) rfl ?_
              refine wa_goto B 14 dX3_pairOff_129 (by decide) ?_
              have tv_24 : v_24.toInt = v_5.toInt + 1 := by have b0 := zx_bd v_5; rw [ev_24]; exact zx_add (show (-2147483648 : Int) ≤ v_5.toInt + 1 by omega) (show v_5.toInt + 1 < (2147483648 : Int) by omega)
              refine WA.sub [0, 3, 4, 5, 6, 7] rfl ?_
              exact ih_9 v_24 q_6 hV_q_6 hF_q_6 (show 0 ≤ v_24.toInt from by first | assumption | omega | decide) (show (n3.toInt - v_24.toInt : Int).toNat < _ from by omega)
            · refine wa_aload_n B dX3_pairOff_76 rfl 4 rfl ?_
              obtain ⟨a_25, ea_25, ha_25, ka_25, la_25⟩ := hV_q_6.refn (n := 12) (t := 100) ha0 ka0 0 rfl (by decide) rfl (by decide)
              refine wa_getR B (C := RX3) (T := TX3) (N := 5) iq_X3_pairOff_X3 ha0 ka0 (by decide) rfl 0 (by decide) (by decide) (by decide +kernel) rfl (fun _ _ _ => rfl) (v := a_25) ea_25 dX3_pairOff_77 ?_
              refine wa_iload_n B dX3_pairOff_80 rfl 6 rfl ?_
              refine wa_iload B dX3_pairOff_81 2 rfl ?_
              refine wa_iastore B ha_25 ka_25 (by decide) (by decide) (show 0 ≤ n2.toInt by omega) (show n2.toInt < (h.2.1 a_25 : Int) by omega) dX3_pairOff_83 (fun q_26 eq_26 => ?_)
              have hV_q_26 : sx_V h L q_26 := by rw [eq_26]; exact hV_q_6.up1 ha_25 ka_25 trivial
              have hF_q_26 : sx_fr h L (fun a => a = a0 ∧ h.1 a = 3) q q_26 := hF_q_6.tr (by rw [eq_26]; exact sx_fr.pG (show h.1 a_25 = 100 ∨ (a_25 = a0 ∧ h.1 a_25 = 3) from by omega))
              have z_27 : q_26.2.2.2.1 a_25 (n2 : Int32).toNatClampNeg = v_5 := by rw [eq_26, sg_pG_e]; exact if_pos rfl
              refine wa_aload_n B dX3_pairOff_84 rfl 4 rfl ?_
              have z_28 : q_26.2.2.1 a0 0 = a_25 := ((show q_26.2.2.1 a0 0 = q_6.2.2.1 a0 0 from by rw [eq_26]; rfl)).trans (ea_25)
              refine wa_getR B (C := RX3) (T := TX3) (N := 5) iq_X3_pairOff_X3 ha0 ka0 (by decide) rfl 0 (by decide) (by decide) (by decide +kernel) rfl (fun _ _ _ => rfl) (v := a_25) z_28 dX3_pairOff_85 ?_
              refine wa_iload B dX3_pairOff_88 2 rfl ?_
              refine wa_iload_n B dX3_pairOff_90 rfl 6 rfl ?_
              refine wa_iastore B ha_25 ka_25 (by decide) (by decide) (show 0 ≤ v_5.toInt by omega) (show v_5.toInt < (h.2.1 a_25 : Int) by omega) dX3_pairOff_91 (fun q_29 eq_29 => ?_)
              have hV_q_29 : sx_V h L q_29 := by rw [eq_29]; exact hV_q_26.up1 ha_25 ka_25 trivial
              have hF_q_29 : sx_fr h L (fun a => a = a0 ∧ h.1 a = 3) q q_29 := hF_q_26.tr (by rw [eq_29]; exact sx_fr.pG (show h.1 a_25 = 100 ∨ (a_25 = a0 ∧ h.1 a_25 = 3) from by omega))
              have z_30 : q_29.2.2.2.1 a_25 (v_5 : Int32).toNatClampNeg = n2 := by rw [eq_29, sg_pG_e]; exact if_pos rfl
              refine wa_aload_n B dX3_pairOff_92 rfl 4 rfl ?_
              refine wa_dup B dX3_pairOff_93 rfl ?_
              refine wa_getI B (C := RX3) (T := TX3) (N := 5) iq_X3_pairOff_X3 ha0 ka0 (by decide) rfl 1 (by decide) (by decide) (by decide +kernel) rfl (by decide) (v := (q_29.1 a0 1)) rfl dX3_pairOff_94 ?_
              refine wa_iconst B 1 dX3_pairOff_97 (by decide) ?_
              refine wa_iadd B dX3_pairOff_98 (fun v_31 ev_31 => ?_)
              refine wa_putI B (C := RX3) (T := TX3) (N := 5) iq_X3_pairOff_X3 ha0 ka0 (by decide) rfl 1 (by decide) (by decide) (by decide +kernel) rfl (by decide) (v := v_31) (ty := .int) tyX3 tyX3_ok nmX3 rfl (by decide +kernel) rfl rfl dX3_pairOff_99 (fun q_32 eq_32 => ?_)
              have hV_q_32 : sx_V h L q_32 := by rw [eq_32]; exact hV_q_29.pI ka0 trivial
              have hF_q_32 : sx_fr h L (fun a => a = a0 ∧ h.1 a = 3) q q_32 := hF_q_29.tr (by rw [eq_32]; exact sx_fr.pI (show a0 = a0 ∧ h.1 a0 = 3 from by omega))
              have z_33 : q_32.1 a0 1 = v_31 := by rw [eq_32]; exact sg_pI_e
              refine wa_aload_n B dX3_pairOff_102 rfl 4 rfl ?_
              refine wa_dup B dX3_pairOff_103 rfl ?_
              refine wa_getI B (C := RX3) (T := TX3) (N := 5) iq_X3_pairOff_X3 ha0 ka0 (by decide) rfl 2 (by decide) (by decide) (by decide +kernel) rfl (by decide) (v := (q_32.1 a0 2)) rfl dX3_pairOff_104 ?_
              refine wa_iload B dX3_pairOff_107 1 rfl ?_
              refine wa_bipush B 16 dX3_pairOff_109 (by decide) ?_
              have Jn_119_35 : ∀  (v_34 : Int32), WA l dC dI h L ({ frames := 0, cells := 0, slots := 0, locals := 0 } : Room) 8 Z q_32 119 [(7, .int v_16), (6, .int ((q_6.2.2.2.1 a_11 (v_13 : Int32).toNatClampNeg))), (5, .int v_5), (4, .int v_3), (0, .ref a0), (1, .int n1), (2, .int n2), (3, .int n3)] [.int v_34, .int (q_32.1 a0 2), .ref a0] := by
                intro v_34
                refine wa_iadd B dX3_pairOff_119 (fun v_36 ev_36 => ?_)
                refine wa_putI B (C := RX3) (T := TX3) (N := 5) iq_X3_pairOff_X3 ha0 ka0 (by decide) rfl 2 (by decide) (by decide) (by decide +kernel) rfl (by decide) (v := v_36) (ty := .int) tyX3 tyX3_ok nmX3 rfl (by decide +kernel) rfl rfl dX3_pairOff_120 (fun q_37 eq_37 => ?_)
                have hV_q_37 : sx_V h L q_37 := by rw [eq_37]; exact hV_q_32.pI ka0 trivial
                have hF_q_37 : sx_fr h L (fun a => a = a0 ∧ h.1 a = 3) q q_37 := hF_q_32.tr (by rw [eq_37]; exact sx_fr.pI (show a0 = a0 ∧ h.1 a0 = 3 from by omega))
                have z_38 : q_37.1 a0 2 = v_36 := by rw [eq_37]; exact sg_pI_e
                refine wa_iload B dX3_pairOff_123 0 rfl ?_
                exact hret _ _ _ _ dX3_pairOff_125 ⟨hV_q_37, hF_q_37, (by first | omega | (refine ⟨?_, ?_⟩ <;> omega) | trivial)⟩
              refine wa_icmp_le B 118 dX3_pairOff_111 (by decide) (fun (t_39 : ((q_6.2.2.2.1 a_11 (v_13 : Int32).toNatClampNeg)).toInt ≤ 16) => ?_) (fun (t_39 : ¬ ((q_6.2.2.2.1 a_11 (v_13 : Int32).toNatClampNeg)).toInt ≤ 16) => ?_)
              · refine wa_iconst B 0 dX3_pairOff_118 (by decide) ?_
                exact Jn_119_35 0
              · refine wa_iconst B 1 dX3_pairOff_114 (by decide) ?_
                refine wa_goto B 119 dX3_pairOff_115 (by decide) ?_
                exact Jn_119_35 1
  have tv_4 : v_4.toInt = n2.toInt + 1 := by have b0 := zx_bd n2; rw [ev_4]; exact zx_add (show (-2147483648 : Int) ≤ n2.toInt + 1 by omega) (show n2.toInt + 1 < (2147483648 : Int) by omega)
  exact Lp_14_8 _ v_4 q hV hF (show 0 ≤ v_4.toInt from by first | assumption | omega | decide) (Nat.lt_succ_self _)
theorem iq_X3_pairUp_X3 : ∀ w ∈ wsX30, w ∈ wsX3_pairUp := fun _ h => List.mem_cons_of_mem _ (List.mem_append_right _ h)
set_option maxHeartbeats 4000000 in
set_option maxRecDepth 100000 in
theorem k_X3_pairUp (l : Launch) (dC : Nat → ClassId) (dI : Nat → Nat → Nat) (h : Sh) (L : List Nat) (hN : sx_nd L) (q : Sg) (hV : sx_V h L q) {a0 : Nat} (ha0 : a0 ∈ L) (ka0 : h.1 a0 = 3) (n1 : Int32)  (hy0 : 0 ≤ n1.toInt) (hy1 : n1.toInt ≤ 12) : CMv l dC dI h L yX3_pairUp wsX3_pairUp ({ frames := 2, cells := 0, slots := 0, locals := 43 } : Room) q [.ref a0, .int n1] (fun q' => sx_V h L q' ∧ sx_fr h L (fun a => a = a0 ∧ h.1 a = 3) q q') := by
  refine cm_v (cc := cX3_pairUp) (mL := 6) (own := RX3) hN (by decide) rfl rfl (Nat.le_of_ble_eq_true rfl) (fun Z B hret => ?_)
  have hF : sx_fr h L (fun a => a = a0 ∧ h.1 a = 3) q q := sx_fr.rf
  show WA l dC dI h L ({ frames := 2, cells := 0, slots := 0, locals := 43 } : Room) 6 Z q 0 [(0, .ref a0), (1, .int n1)] []
  refine wa_aload_n B dX3_pairUp_0 rfl 0 rfl ?_
  refine wa_callVv B (x := (RX3, TX3, 5)) (As := []) (rest := []) (k_X3_forget l dC dI h L hN q hV (a0 := a0) ha0 ka0  ) (cwV 0 B.1.2.2.2.2 gX3_pairUp_X3_forget rfl rfl rfl (by decide +kernel) ⟨Nat.le_of_ble_eq_true rfl, Nat.le_of_ble_eq_true rfl⟩) ha0 ka0 (by decide) rfl rfl rfl (Nat.le_of_ble_eq_true rfl) dX3_pairUp_1 (fun q_1 w_2 => ?_)
  obtain ⟨hV_q_1, h2_q_1⟩ := w_2
  have hF_q_1 : sx_fr h L (fun a => a = a0 ∧ h.1 a = 3) q q_1 := hF.tr (h2_q_1.mono (fun a (z : a = a0 ∧ h.1 a = 3) => (show a = a0 ∧ h.1 a = 3 from by omega)))
  refine wa_iload_n B dX3_pairUp_4 rfl 1 rfl ?_
  refine wa_bipush B 12 dX3_pairUp_5 (by decide) ?_
  refine wa_mmin B (by decide +kernel) (by decide +kernel) (by decide +kernel) (by decide +kernel) (Nat.le_of_ble_eq_true rfl) (Nat.le_of_ble_eq_true rfl) dX3_pairUp_7 (fun v_3 ev_3 => ?_)
  have gv_3 : (v_3.toInt = n1.toInt ∨ v_3.toInt = 12) ∧ n1.toInt ≥ v_3.toInt ∧ 12 ≥ v_3.toInt := by rw [ev_3]; exact zx_min
  refine wa_istore_n B [(2, .int v_3), (0, .ref a0), (1, .int n1)] dX3_pairUp_10 rfl (by decide) rfl ?_
  refine wa_iconst B 1 dX3_pairUp_11 (by decide) ?_
  refine wa_iload_n B dX3_pairUp_12 rfl 0 rfl ?_
  refine wa_ishl B dX3_pairUp_13 (fun v_4 ev_4 => ?_)
  have gv_4 : 1 ≤ v_4.toInt ∧ v_4.toInt ≤ 4096 := by rw [ev_4]; exact zx_shl1 (by omega) (by omega)
  refine wa_istore_n B [(3, .int v_4), (2, .int v_3), (0, .ref a0), (1, .int n1)] dX3_pairUp_14 rfl (by decide) rfl ?_
  refine wa_aload_n B dX3_pairUp_15 rfl 2 rfl ?_
  obtain ⟨a_5, ea_5, ha_5, ka_5, la_5⟩ := hV_q_1.refn (n := 4096) (t := 100) ha0 ka0 4 rfl (by decide) rfl (by decide)
  refine wa_getR B (C := RX3) (T := TX3) (N := 5) iq_X3_pairUp_X3 ha0 ka0 (by decide) rfl 4 (by decide) (by decide) (by decide +kernel) rfl (fun _ _ _ => rfl) (v := a_5) ea_5 dX3_pairUp_16 ?_
  refine wa_iconst B 0 dX3_pairUp_19 (by decide) ?_
  refine wa_iconst B 0 dX3_pairUp_20 (by decide) ?_
  refine wa_iastore B ha_5 ka_5 (by decide) (by decide) (show (0 : Int) ≤ _ by decide) (show (0 : Int) < (h.2.1 a_5 : Int) by omega) dX3_pairUp_21 (fun q_6 eq_6 => ?_)
  have hV_q_6 : sx_V h L q_6 := by rw [eq_6]; exact hV_q_1.up1 ha_5 ka_5 trivial
  have hF_q_6 : sx_fr h L (fun a => a = a0 ∧ h.1 a = 3) q q_6 := hF_q_1.tr (by rw [eq_6]; exact sx_fr.pG (show h.1 a_5 = 100 ∨ (a_5 = a0 ∧ h.1 a_5 = 3) from by omega))
  have z_7 : q_6.2.2.2.1 a_5 (0 : Int32).toNatClampNeg = 0 := by rw [eq_6, sg_pG_e]; exact if_pos rfl
  refine wa_iload_n B dX3_pairUp_22 rfl 1 rfl ?_
  refine wa_iconst B 1 dX3_pairUp_23 (by decide) ?_
  refine wa_isub B dX3_pairUp_24 (fun v_8 ev_8 => ?_)
  refine wa_istore B [(4, .int v_8), (3, .int v_4), (2, .int v_3), (0, .ref a0), (1, .int n1)] dX3_pairUp_25 (by decide) rfl ?_
  have z_11 : q_6.2.2.1 a0 4 = a_5 := ((show q_6.2.2.1 a0 4 = q_1.2.2.1 a0 4 from by rw [eq_6]; rfl)).trans (ea_5)
  have Lp_27_14 : ∀ (n : Nat) (v_9 : Int32) (q_10 : Sg), sx_V h L q_10 → sx_fr h L (fun a => a = a0 ∧ h.1 a = 3) q q_10 → q_10.2.2.1 a0 4 = a_5 → (-1) ≤ v_9.toInt → v_9.toInt ≤ 11 → (v_9.toInt + 1 : Int).toNat < n → WA l dC dI h L ({ frames := 2, cells := 0, slots := 0, locals := 43 } : Room) 6 Z q_10 27 [(4, .int v_9), (3, .int v_4), (2, .int v_3), (0, .ref a0), (1, .int n1)] [] := by
    intro n
    induction n with
    | zero =>
      intro v_9 q_10 hV_q_10 hF_q_10 p0_q_10 x_12 x_13 hn
      exact absurd hn (Nat.not_lt_zero _)
    | succ n ih_15 =>
      intro v_9 q_10 hV_q_10 hF_q_10 p0_q_10 x_12 x_13 hn
      refine wa_iload B dX3_pairUp_27 0 rfl ?_
      refine wa_if_lt B 78 dX3_pairUp_29 (by decide) (fun (t_16 : v_9.toInt < 0) => ?_) (fun (t_16 : ¬ v_9.toInt < 0) => ?_)
      · refine wa_iload_n B dX3_pairUp_78 rfl 1 rfl ?_
        refine wa_iconst B 1 dX3_pairUp_79 (by decide) ?_
        refine wa_isub B dX3_pairUp_80 (fun v_17 ev_17 => ?_)
        refine wa_istore B [(4, .int v_17), (3, .int v_4), (2, .int v_3), (0, .ref a0), (1, .int n1)] dX3_pairUp_81 (by decide) rfl ?_
        refine wa_iconst B 0 dX3_pairUp_83 (by decide) ?_
        refine wa_istore B [(5, .int 0), (4, .int v_17), (3, .int v_4), (2, .int v_3), (0, .ref a0), (1, .int n1)] dX3_pairUp_84 (by decide) rfl ?_
        have Lp_86_24 : ∀ (n : Nat) (v_18 : Int32) (v_19 : Int32) (q_20 : Sg), sx_V h L q_20 → sx_fr h L (fun a => a = a0 ∧ h.1 a = 3) q q_20 → q_20.2.2.1 a0 4 = a_5 → 0 ≤ v_18.toInt → 0 ≤ v_19.toInt → v_19.toInt ≤ 4095 → (v_3.toInt - v_18.toInt : Int).toNat < n → WA l dC dI h L ({ frames := 2, cells := 0, slots := 0, locals := 43 } : Room) 6 Z q_20 86 [(5, .int v_18), (4, .int v_19), (3, .int v_4), (2, .int v_3), (0, .ref a0), (1, .int n1)] [] := by
          intro n
          induction n with
          | zero =>
            intro v_18 v_19 q_20 hV_q_20 hF_q_20 p0_q_20 x_21 x_22 x_23 hn
            exact absurd hn (Nat.not_lt_zero _)
          | succ n ih_25 =>
            intro v_18 v_19 q_20 hV_q_20 hF_q_20 p0_q_20 x_21 x_22 x_23 hn
            refine wa_iload B dX3_pairUp_86 0 rfl ?_
            refine wa_iload_n B dX3_pairUp_88 rfl 3 rfl ?_
            refine wa_icmp_ge B 119 dX3_pairUp_89 (by decide) (fun (t_26 : v_3.toInt ≤ v_18.toInt) => ?_) (fun (t_26 : ¬ v_3.toInt ≤ v_18.toInt) => ?_)
            · exact hret _ _ _ dX3_pairUp_119 ⟨hV_q_20, hF_q_20⟩
            · refine wa_iload B dX3_pairUp_92 1 rfl ?_
              refine wa_iload B dX3_pairUp_94 0 rfl ?_
              refine wa_ishr B dX3_pairUp_96 (fun v_27 ev_27 => ?_)
              refine wa_iconst B 1 dX3_pairUp_97 (by decide) ?_
              refine wa_iand B dX3_pairUp_98 (fun v_28 ev_28 => ?_)
              have Jn_113_33 : ∀  (v_29 : Int32) (q_30 : Sg), sx_V h L q_30 → sx_fr h L (fun a => a = a0 ∧ h.1 a = 3) q q_30 → q_30.2.2.1 a0 4 = a_5 → 0 ≤ v_29.toInt → v_29.toInt ≤ 4095 → WA l dC dI h L ({ frames := 2, cells := 0, slots := 0, locals := 43 } : Room) 6 Z q_30 113 [(5, .int v_18), (4, .int v_29), (3, .int v_4), (2, .int v_3), (0, .ref a0), (1, .int n1)] [] := by
                intro v_29 q_30 hV_q_30 hF_q_30 p0_q_30 x_31 x_32
                obtain ⟨v_34, ev_34⟩ : ∃ z : Int32, z = v_18 + 1 := ⟨_, rfl⟩
                refine wa_iinc B [(5, .int v_34), (4, .int v_29), (3, .int v_4), (2, .int v_3), (0, .ref a0), (1, .int n1)] v_34 dX3_pairUp_113 0 rfl (by rw [ev_34]; rfl) (by decide) rfl ?_
                refine wa_goto B 86 dX3_pairUp_116 (by decide) ?_
                have tv_34 : v_34.toInt = v_18.toInt + 1 := by have b0 := zx_bd v_18; rw [ev_34]; exact zx_add (show (-2147483648 : Int) ≤ v_18.toInt + 1 by omega) (show v_18.toInt + 1 < (2147483648 : Int) by omega)
                exact ih_25 v_34 v_29 q_30 hV_q_30 hF_q_30 p0_q_30 (show 0 ≤ v_34.toInt from by first | assumption | omega | decide) (show 0 ≤ v_29.toInt from by first | assumption | omega | decide) (show v_29.toInt ≤ 4095 from by first | assumption | omega | decide) (show (v_3.toInt - v_34.toInt : Int).toNat < _ from by omega)
              refine wa_if_eq B 113 dX3_pairUp_99 (by decide) (fun (t_35 : v_28.toInt = 0) => ?_) (fun (t_35 : ¬ v_28.toInt = 0) => ?_)
              · exact Jn_113_33 v_19 q_20 hV_q_20 hF_q_20 p0_q_20 (show 0 ≤ v_19.toInt from by first | assumption | omega | decide) (show v_19.toInt ≤ 4095 from by first | assumption | omega | decide)
              · refine wa_aload_n B dX3_pairUp_102 rfl 4 rfl ?_
                refine wa_iload B dX3_pairUp_103 1 rfl ?_
                refine wa_iload B dX3_pairUp_105 0 rfl ?_
                refine wa_iload_n B dX3_pairUp_107 rfl 3 rfl ?_
                refine wa_callVi B (x := (RX3, TX3, 5)) (As := [.int v_19, .int v_18, .int v_3]) (rest := []) (k_X3_pairOff l dC dI h L hN q_20 hV_q_20 (a0 := a0) ha0 ka0 v_19 v_18 v_3  (by first | assumption | omega | decide) (by first | assumption | omega | decide) (by first | assumption | omega | decide) (by first | assumption | omega | decide) (by first | assumption | omega | decide)) (cwV 3 B.1.2.2.2.2 gX3_pairUp_X3_pairOff rfl rfl rfl (by decide +kernel) ⟨Nat.le_of_ble_eq_true rfl, Nat.le_of_ble_eq_true rfl⟩) ha0 ka0 (by decide) rfl rfl rfl (Nat.le_of_ble_eq_true rfl) dX3_pairUp_108 (fun r_37 q_36 w_38 => ?_)
                obtain ⟨hV_q_36, h2_q_36, hw_38⟩ := w_38
                have hF_q_36 : sx_fr h L (fun a => a = a0 ∧ h.1 a = 3) q q_36 := hF_q_20.tr (h2_q_36.mono (fun a (z : a = a0 ∧ h.1 a = 3) => (show a = a0 ∧ h.1 a = 3 from by omega)))
                refine wa_istore B [(4, .int r_37), (5, .int v_18), (3, .int v_4), (2, .int v_3), (0, .ref a0), (1, .int n1)] dX3_pairUp_111 (by decide) rfl ?_
                have z_39 : q_36.2.2.1 a0 4 = a_5 := (h2_q_36.R ha0 (show ¬ ((a0 = a0 ∧ h.1 a0 = 3) ∧ (h.1 a0 = 8 ∨ h.1 a0 = 11)) from by omega) 4).trans (p0_q_20)
                refine WA.sub [1, 0, 2, 3, 4, 5] rfl ?_
                exact Jn_113_33 r_37 q_36 hV_q_36 hF_q_36 z_39 (show 0 ≤ r_37.toInt from by first | assumption | omega | decide) (show r_37.toInt ≤ 4095 from by first | assumption | omega | decide)
        have tv_17 : v_17.toInt = v_4.toInt - 1 := by have b0 := zx_bd v_4; rw [ev_17]; exact zx_sub (show (-2147483648 : Int) ≤ v_4.toInt - 1 by omega) (show v_4.toInt - 1 < (2147483648 : Int) by omega)
        exact Lp_86_24 _ 0 v_17 q_10 hV_q_10 hF_q_10 p0_q_10 (show 0 ≤ 0 from by first | assumption | omega | decide) (show 0 ≤ v_17.toInt from by first | assumption | omega | decide) (show v_17.toInt ≤ 4095 from by first | assumption | omega | decide) (Nat.lt_succ_self _)
      · refine wa_iconst B 1 dX3_pairUp_32 (by decide) ?_
        refine wa_iload B dX3_pairUp_33 0 rfl ?_
        refine wa_ishl B dX3_pairUp_35 (fun v_40 ev_40 => ?_)
        have gv_40 : 1 ≤ v_40.toInt ∧ v_40.toInt ≤ 4096 := by rw [ev_40]; exact zx_shl1 (by omega) (by omega)
        refine wa_istore B [(5, .int v_40), (4, .int v_9), (3, .int v_4), (2, .int v_3), (0, .ref a0), (1, .int n1)] dX3_pairUp_36 (by decide) rfl ?_
        have Lp_38_44 : ∀ (n : Nat) (v_41 : Int32) (q_42 : Sg), sx_V h L q_42 → sx_fr h L (fun a => a = a0 ∧ h.1 a = 3) q q_42 → q_42.2.2.1 a0 4 = a_5 → 0 ≤ v_41.toInt → (v_4.toInt - v_41.toInt : Int).toNat < n → WA l dC dI h L ({ frames := 2, cells := 0, slots := 0, locals := 43 } : Room) 6 Z q_42 38 [(5, .int v_41), (4, .int v_9), (3, .int v_4), (2, .int v_3), (0, .ref a0), (1, .int n1)] [] := by
          intro n
          induction n with
          | zero =>
            intro v_41 q_42 hV_q_42 hF_q_42 p0_q_42 x_43 hn
            exact absurd hn (Nat.not_lt_zero _)
          | succ n ih_45 =>
            intro v_41 q_42 hV_q_42 hF_q_42 p0_q_42 x_43 hn
            refine wa_iload B dX3_pairUp_38 0 rfl ?_
            refine wa_iload_n B dX3_pairUp_40 rfl 2 rfl ?_
            refine wa_icmp_ge B 72 dX3_pairUp_41 (by decide) (fun (t_46 : v_4.toInt ≤ v_41.toInt) => ?_) (fun (t_46 : ¬ v_4.toInt ≤ v_41.toInt) => ?_)
            · obtain ⟨v_47, ev_47⟩ : ∃ z : Int32, z = v_9 + (-1) := ⟨_, rfl⟩
              refine wa_iinc B [(4, .int v_47), (5, .int v_41), (3, .int v_4), (2, .int v_3), (0, .ref a0), (1, .int n1)] v_47 dX3_pairUp_72 1 rfl (by rw [ev_47]; rfl) (by decide) rfl ?_
              refine wa_goto B 27 dX3_pairUp_75 (by decide) ?_
              have tv_47 : v_47.toInt = v_9.toInt + (-1) := by have b0 := zx_bd v_9; rw [ev_47]; exact zx_add (show (-2147483648 : Int) ≤ v_9.toInt + (-1) by omega) (show v_9.toInt + (-1) < (2147483648 : Int) by omega)
              refine WA.sub [0, 2, 3, 4, 5] rfl ?_
              exact ih_15 v_47 q_42 hV_q_42 hF_q_42 p0_q_42 (show (-1) ≤ v_47.toInt from by first | assumption | omega | decide) (show v_47.toInt ≤ 11 from by first | assumption | omega | decide) (show (v_47.toInt + 1 : Int).toNat < _ from by omega)
            · refine wa_aload_n B dX3_pairUp_44 rfl 4 rfl ?_
              refine wa_getR B (C := RX3) (T := TX3) (N := 5) iq_X3_pairUp_X3 ha0 ka0 (by decide) rfl 4 (by decide) (by decide) (by decide +kernel) rfl (fun _ _ _ => rfl) (v := a_5) p0_q_42 dX3_pairUp_45 ?_
              refine wa_iload B dX3_pairUp_48 0 rfl ?_
              refine wa_aload_n B dX3_pairUp_50 rfl 4 rfl ?_
              refine wa_iload B dX3_pairUp_51 0 rfl ?_
              refine wa_iload B dX3_pairUp_53 1 rfl ?_
              refine wa_iload_n B dX3_pairUp_55 rfl 3 rfl ?_
              refine wa_callVi B (x := (RX3, TX3, 5)) (As := [.int v_41, .int v_9, .int v_3]) (rest := [.int v_41, .ref a_5]) (k_X3_bestOf l dC dI h L hN q_42 hV_q_42 (a0 := a0) ha0 ka0 v_41 v_9 v_3  (by first | assumption | omega | decide) (by first | assumption | omega | decide) (by first | assumption | omega | decide) (by first | assumption | omega | decide) (by first | assumption | omega | decide)) (cwV 3 B.1.2.2.2.2 gX3_pairUp_X3_bestOf rfl rfl rfl (by decide +kernel) ⟨Nat.le_of_ble_eq_true rfl, Nat.le_of_ble_eq_true rfl⟩) ha0 ka0 (by decide) rfl rfl rfl (Nat.le_of_ble_eq_true rfl) dX3_pairUp_56 (fun r_49 q_48 w_50 => ?_)
              subst w_50
              refine wa_iastore B ha_5 ka_5 (by decide) (by decide) (show 0 ≤ v_41.toInt by omega) (show v_41.toInt < (h.2.1 a_5 : Int) by omega) dX3_pairUp_59 (fun q_51 eq_51 => ?_)
              have hV_q_51 : sx_V h L q_51 := by rw [eq_51]; exact hV_q_42.up1 ha_5 ka_5 trivial
              have hF_q_51 : sx_fr h L (fun a => a = a0 ∧ h.1 a = 3) q q_51 := hF_q_42.tr (by rw [eq_51]; exact sx_fr.pG (show h.1 a_5 = 100 ∨ (a_5 = a0 ∧ h.1 a_5 = 3) from by omega))
              have z_52 : q_51.2.2.2.1 a_5 (v_41 : Int32).toNatClampNeg = r_49 := by rw [eq_51, sg_pG_e]; exact if_pos rfl
              refine wa_iload B dX3_pairUp_60 0 rfl ?_
              refine wa_iconst B 2 dX3_pairUp_62 (by decide) ?_
              refine wa_iload B dX3_pairUp_63 1 rfl ?_
              refine wa_ishl B dX3_pairUp_65 (fun v_53 ev_53 => ?_)
              have gv_53 : 2 ≤ v_53.toInt ∧ v_53.toInt ≤ 8192 := by rw [ev_53]; exact zx_shl2 (by omega) (by omega)
              refine wa_iadd B dX3_pairUp_66 (fun v_54 ev_54 => ?_)
              refine wa_istore B [(5, .int v_54), (4, .int v_9), (3, .int v_4), (2, .int v_3), (0, .ref a0), (1, .int n1)] dX3_pairUp_67 (by decide) rfl ?_
              refine wa_goto B 38 dX3_pairUp_69 (by decide) ?_
              have tv_54 : v_54.toInt = v_41.toInt + v_53.toInt := by have b0 := zx_bd v_41; have b1 := zx_bd v_53; rw [ev_54]; exact zx_add (show (-2147483648 : Int) ≤ v_41.toInt + v_53.toInt by omega) (show v_41.toInt + v_53.toInt < (2147483648 : Int) by omega)
              have z_55 : q_51.2.2.1 a0 4 = a_5 := ((show q_51.2.2.1 a0 4 = q_42.2.2.1 a0 4 from by rw [eq_51]; rfl)).trans (p0_q_42)
              exact ih_45 v_54 q_51 hV_q_51 hF_q_51 z_55 (show 0 ≤ v_54.toInt from by first | assumption | omega | decide) (show (v_4.toInt - v_54.toInt : Int).toNat < _ from by omega)
        exact Lp_38_44 _ v_40 q_10 hV_q_10 hF_q_10 p0_q_10 (show 0 ≤ v_40.toInt from by first | assumption | omega | decide) (Nat.lt_succ_self _)
  have tv_8 : v_8.toInt = v_3.toInt - 1 := by have b0 := zx_bd v_3; rw [ev_8]; exact zx_sub (show (-2147483648 : Int) ≤ v_3.toInt - 1 by omega) (show v_3.toInt - 1 < (2147483648 : Int) by omega)
  exact Lp_27_14 _ v_8 q_6 hV_q_6 hF_q_6 z_11 (show (-1) ≤ v_8.toInt from by first | assumption | omega | decide) (show v_8.toInt ≤ 11 from by first | assumption | omega | decide) (Nat.lt_succ_self _)
