theorem iq_X12_refuse_X12 : ∀ w ∈ wsX120, w ∈ wsX12_refuse := fun _ h => List.mem_cons_of_mem _ (List.mem_append_right _ h)
set_option maxHeartbeats 4000000 in
set_option maxRecDepth 100000 in
theorem k_X12_refuse (l : Launch) (dC : Nat → ClassId) (dI : Nat → Nat → Nat) (h : Sh) (L : List Nat) (hN : sx_nd L) (q : Sg) (hV : sx_V h L q) {a0 : Nat} (ha0 : a0 ∈ L) (ka0 : h.1 a0 = 12)    : CMi l dC dI h L yX12_refuse wsX12_refuse ({ frames := 0, cells := 0, slots := 0, locals := 0 } : Room) q [.ref a0] (fun r q' => sx_V h L q' ∧ sx_fr h L (fun a => h.1 a = 12) q q' ∧ sx_kf a0 [0] q q') := by
  refine cm_i (cc := cX12_refuse) (mL := 1) (own := RX12) hN (by decide) rfl rfl (Nat.le_of_ble_eq_true rfl) (fun Z B hret => ?_)
  have hF : sx_fr h L (fun a => h.1 a = 12) q q := sx_fr.rf
  have hK : sx_kf a0 [0] q q := sx_kf.rf
  show WA l dC dI h L ({ frames := 0, cells := 0, slots := 0, locals := 0 } : Room) 1 Z q 0 [(0, .ref a0)] []
  refine wa_aload_n B dX12_refuse_0 rfl 0 rfl ?_
  refine wa_iconst B 1 dX12_refuse_1 (by decide) ?_
  refine wa_putI B (C := RX12) (T := TX12) (N := 51) iq_X12_refuse_X12 ha0 ka0 (by decide) rfl 0 (by decide) (by decide) (by decide +kernel) rfl (by decide) (v := 1) (ty := .int) tyX12 tyX12_ok nmX12 rfl (by decide +kernel) rfl rfl dX12_refuse_2 (fun q_1 eq_1 => ?_)
  have hV_q_1 : sx_V h L q_1 := by rw [eq_1]; exact hV.pI ka0 trivial
  have hF_q_1 : sx_fr h L (fun a => h.1 a = 12) q q_1 := hF.tr (by rw [eq_1]; exact sx_fr.pI (show h.1 a0 = 12 from by omega))
  have z_2 : q_1.1 a0 0 = 1 := by rw [eq_1]; exact sg_pI_e
  have hK_q_1 : sx_kf a0 [0] q q_1 := hK.tr (by rw [eq_1]; exact sx_kf.pI (by decide))
  refine wa_iconst B 0 dX12_refuse_5 (by decide) ?_
  exact hret _ _ _ _ dX12_refuse_6 ⟨hV_q_1, hF_q_1, hK_q_1⟩
theorem iq_X12_come_X12 : ∀ w ∈ wsX120, w ∈ wsX12_come := fun _ h => List.mem_cons_of_mem _ (List.mem_append_right _ h)
set_option maxHeartbeats 4000000 in
set_option maxRecDepth 100000 in
theorem k_X12_come (l : Launch) (dC : Nat → ClassId) (dI : Nat → Nat → Nat) (h : Sh) (L : List Nat) (hN : sx_nd L) (q : Sg) (hV : sx_V h L q) {a0 : Nat} (ha0 : a0 ∈ L) (ka0 : h.1 a0 = 12) (n1 : Int32)   (hy0 : (q.1 a0 2).toInt ≤ 436) : CMv l dC dI h L yX12_come wsX12_come ({ frames := 0, cells := 0, slots := 0, locals := 0 } : Room) q [.ref a0, .int n1] (fun q' => sx_V h L q' ∧ sx_fr h L (fun a => h.1 a = 12 ∨ h.1 a = 111) q q' ∧ sx_kf a0 [2] q q' ∧ ((q'.1 a0 2).toInt = (q.1 a0 2).toInt + 4)) := by
  refine cm_v (cc := cX12_come) (mL := 3) (own := RX12) hN (by decide) rfl rfl (Nat.le_of_ble_eq_true rfl) (fun Z B hret => ?_)
  have hF : sx_fr h L (fun a => h.1 a = 12 ∨ h.1 a = 111) q q := sx_fr.rf
  have hK : sx_kf a0 [2] q q := sx_kf.rf
  show WA l dC dI h L ({ frames := 0, cells := 0, slots := 0, locals := 0 } : Room) 3 Z q 0 [(0, .ref a0), (1, .int n1)] []
  refine wa_bipush B 24 dX12_come_0 (by decide) ?_
  refine wa_istore_n B [(2, .int 24), (0, .ref a0), (1, .int n1)] dX12_come_2 rfl (by decide) rfl ?_
  have Lp_3_6 : ∀ (n : Nat) (v_1 : Int32) (q_2 : Sg), sx_V h L q_2 → sx_fr h L (fun a => h.1 a = 12 ∨ h.1 a = 111) q q_2 → sx_kf a0 [2] q q_2 → (-8) ≤ v_1.toInt → v_1.toInt ≤ 24 → v_1.toInt = 24 - 8 * ((q_2.1 a0 2).toInt - (q.1 a0 2).toInt) → (v_1.toInt + 8 : Int).toNat < n → WA l dC dI h L ({ frames := 0, cells := 0, slots := 0, locals := 0 } : Room) 3 Z q_2 3 [(2, .int v_1), (0, .ref a0), (1, .int n1)] [] := by
    intro n
    induction n with
    | zero =>
      intro v_1 q_2 hV_q_2 hF_q_2 hK_q_2 x_3 x_4 x_5 hn
      exact absurd hn (Nat.not_lt_zero _)
    | succ n ih_7 =>
      intro v_1 q_2 hV_q_2 hF_q_2 hK_q_2 x_3 x_4 x_5 hn
      refine wa_iload_n B dX12_come_3 rfl 0 rfl ?_
      refine wa_if_lt B 39 dX12_come_4 (by decide) (fun (t_8 : v_1.toInt < 0) => ?_) (fun (t_8 : ¬ v_1.toInt < 0) => ?_)
      · exact hret _ _ _ dX12_come_39 ⟨hV_q_2, hF_q_2, hK_q_2, (by first | omega | (refine ⟨?_, ?_⟩ <;> omega) | trivial)⟩
      · refine wa_aload_n B dX12_come_7 rfl 1 rfl ?_
        obtain ⟨a_9, ea_9, ha_9, ka_9, la_9⟩ := hV_q_2.refn (n := 440) (t := 111) ha0 ka0 1 rfl (by decide) rfl (by decide)
        refine wa_getR B (C := RX12) (T := TX12) (N := 51) iq_X12_come_X12 ha0 ka0 (by decide) rfl 1 (by decide) (by decide) (by decide +kernel) rfl (fun _ _ _ => rfl) (v := a_9) ea_9 dX12_come_8 ?_
        refine wa_aload_n B dX12_come_11 rfl 1 rfl ?_
        refine wa_getI B (C := RX12) (T := TX12) (N := 51) iq_X12_come_X12 ha0 ka0 (by decide) rfl 2 (by decide) (by decide) (by decide +kernel) rfl (by decide) (v := (q_2.1 a0 2)) rfl dX12_come_12 ?_
        have g_10 : (0 : Int) ≤ (q_2.1 a0 2).toInt ∧ (q_2.1 a0 2).toInt ≤ 440 := hV_q_2.int ha0 ka0 2
        refine wa_iload_n B dX12_come_15 rfl 2 rfl ?_
        refine wa_iload_n B dX12_come_16 rfl 0 rfl ?_
        refine wa_iushr B dX12_come_17 (fun v_11 ev_11 => ?_)
        refine wa_sipush B 255 dX12_come_18 (by decide) ?_
        refine wa_iand B dX12_come_21 (fun v_12 ev_12 => ?_)
        have gv_12 : 0 ≤ v_12.toInt ∧ v_12.toInt ≤ 255 := by rw [ev_12]; exact zx_and255 _
        refine wa_iastore B ha_9 ka_9 (by decide) (by decide) (show 0 ≤ (q_2.1 a0 2).toInt by omega) (show (q_2.1 a0 2).toInt < (h.2.1 a_9 : Int) by omega) dX12_come_22 (fun q_13 eq_13 => ?_)
        have hV_q_13 : sx_V h L q_13 := by rw [eq_13]; exact hV_q_2.up1 ha_9 ka_9 (show sx_in v_12 (0) 255 from ⟨by omega, by omega⟩)
        have hF_q_13 : sx_fr h L (fun a => h.1 a = 12 ∨ h.1 a = 111) q q_13 := hF_q_2.tr (by rw [eq_13]; exact sx_fr.pG (show h.1 a_9 = 100 ∨ (h.1 a_9 = 12 ∨ h.1 a_9 = 111) from by omega))
        have z_14 : q_13.2.2.2.1 a_9 = (upd (q_2.2.2.2.1 a_9) ((q_2.1 a0 2) : Int32).toNatClampNeg v_12) := by rw [eq_13, sg_pG_e]
        have z_15 : q_13.2.2.2.1 a_9 ((q_2.1 a0 2) : Int32).toNatClampNeg = v_12 := by rw [eq_13, sg_pG_e]; exact if_pos rfl
        have hK_q_13 : sx_kf a0 [2] q q_13 := hK_q_2.tr (sx_kf.eq (by rw [eq_13]; rfl) (by rw [eq_13]; rfl))
        refine wa_aload_n B dX12_come_23 rfl 1 rfl ?_
        refine wa_dup B dX12_come_24 rfl ?_
        have z_16 : q_13.1 a0 2 = q_2.1 a0 2 := (show q_13.1 a0 2 = q_2.1 a0 2 from by rw [eq_13]; rfl)
        refine wa_getI B (C := RX12) (T := TX12) (N := 51) iq_X12_come_X12 ha0 ka0 (by decide) rfl 2 (by decide) (by decide) (by decide +kernel) rfl (by decide) (v := (q_2.1 a0 2)) z_16 dX12_come_25 ?_
        refine wa_iconst B 1 dX12_come_28 (by decide) ?_
        refine wa_iadd B dX12_come_29 (fun v_17 ev_17 => ?_)
        have tv_17 : v_17.toInt = (q_2.1 a0 2).toInt + 1 := by have b0 := zx_bd (q_2.1 a0 2); rw [ev_17]; exact zx_add (show (-2147483648 : Int) ≤ (q_2.1 a0 2).toInt + 1 by omega) (show (q_2.1 a0 2).toInt + 1 < (2147483648 : Int) by omega)
        refine wa_putI B (C := RX12) (T := TX12) (N := 51) iq_X12_come_X12 ha0 ka0 (by decide) rfl 2 (by decide) (by decide) (by decide +kernel) rfl (by decide) (v := v_17) (ty := .int) tyX12 tyX12_ok nmX12 rfl (by decide +kernel) rfl rfl dX12_come_30 (fun q_18 eq_18 => ?_)
        have hV_q_18 : sx_V h L q_18 := by rw [eq_18]; exact hV_q_13.pI ka0 (show sx_in v_17 (0) 440 from ⟨by omega, by omega⟩)
        have hF_q_18 : sx_fr h L (fun a => h.1 a = 12 ∨ h.1 a = 111) q q_18 := hF_q_13.tr (by rw [eq_18]; exact sx_fr.pI (show h.1 a0 = 12 ∨ h.1 a0 = 111 from by omega))
        have z_19 : q_18.1 a0 2 = v_17 := by rw [eq_18]; exact sg_pI_e
        have hK_q_18 : sx_kf a0 [2] q q_18 := hK_q_13.tr (by rw [eq_18]; exact sx_kf.pI (by decide))
        obtain ⟨v_20, ev_20⟩ : ∃ z : Int32, z = v_1 + (-8) := ⟨_, rfl⟩
        refine wa_iinc B [(2, .int v_20), (0, .ref a0), (1, .int n1)] v_20 dX12_come_33 0 rfl (by rw [ev_20]; rfl) (by decide) rfl ?_
        refine wa_goto B 3 dX12_come_36 (by decide) ?_
        have tv_20 : v_20.toInt = v_1.toInt + (-8) := by have b0 := zx_bd v_1; rw [ev_20]; exact zx_add (show (-2147483648 : Int) ≤ v_1.toInt + (-8) by omega) (show v_1.toInt + (-8) < (2147483648 : Int) by omega)
        have y_21 : (q_18.1 a0 2).toInt = v_17.toInt := by rw [z_19]
        exact ih_7 v_20 q_18 hV_q_18 hF_q_18 hK_q_18 (show (-8) ≤ v_20.toInt from by first | assumption | omega | decide) (show v_20.toInt ≤ 24 from by first | assumption | omega | decide) (show v_20.toInt = 24 - 8 * ((q_18.1 a0 2).toInt - (q.1 a0 2).toInt) from by first | assumption | omega | decide) (show (v_20.toInt + 8 : Int).toNat < _ from by omega)
  exact Lp_3_6 _ 24 q hV hF hK (show (-8) ≤ 24 from by first | assumption | omega | decide) (show 24 ≤ 24 from by first | assumption | omega | decide) (show 24 = 24 - 8 * ((q.1 a0 2).toInt - (q.1 a0 2).toInt) from by first | assumption | omega | decide) (Nat.lt_succ_self _)
theorem iq_X12_feed_X12 : ∀ w ∈ wsX120, w ∈ wsX12_feed := fun _ h => List.mem_cons_of_mem _ (List.mem_append_right _ h)
set_option maxHeartbeats 4000000 in
set_option maxRecDepth 100000 in
theorem k_X12_feed (l : Launch) (dC : Nat → ClassId) (dI : Nat → Nat → Nat) (h : Sh) (L : List Nat) (hN : sx_nd L) (q : Sg) (hV : sx_V h L q) {a0 : Nat} (ha0 : a0 ∈ L) (ka0 : h.1 a0 = 12) (n1 : Int32) (n2 : Int32) (n3 : Int32) (n4 : Int32) (n5 : Int32)    : CMi l dC dI h L yX12_feed wsX12_feed ({ frames := 1, cells := 0, slots := 0, locals := 22 } : Room) q [.ref a0, .int n1, .int n2, .int n3, .int n4, .int n5] (fun r q' => sx_V h L q' ∧ sx_fr h L (fun a => h.1 a = 12 ∨ h.1 a = 111) q q' ∧ sx_kf a0 [0, 2] q q' ∧ (((q.1 a0 2).toInt + 20 ≤ 440 ∧ (q'.1 a0 2).toInt = (q.1 a0 2).toInt + 20 ∨ 440 < (q.1 a0 2).toInt + 20 ∧ (q'.1 a0 2).toInt = (q.1 a0 2).toInt) ∧ ((q.1 a0 2).toInt + 20 ≤ 440 ∧ r.toInt = (q.1 a0 2).toInt + 20 ∨ 440 < (q.1 a0 2).toInt + 20 ∧ r.toInt = -1))) := by
  refine cm_i (cc := cX12_feed) (mL := 6) (own := RX12) hN (by decide) rfl rfl (Nat.le_of_ble_eq_true rfl) (fun Z B hret => ?_)
  have hF : sx_fr h L (fun a => h.1 a = 12 ∨ h.1 a = 111) q q := sx_fr.rf
  have hK : sx_kf a0 [0, 2] q q := sx_kf.rf
  show WA l dC dI h L ({ frames := 1, cells := 0, slots := 0, locals := 22 } : Room) 6 Z q 0 [(0, .ref a0), (1, .int n1), (2, .int n2), (3, .int n3), (4, .int n4), (5, .int n5)] []
  refine wa_aload_n B dX12_feed_0 rfl 0 rfl ?_
  refine wa_iconst B 0 dX12_feed_1 (by decide) ?_
  refine wa_putI B (C := RX12) (T := TX12) (N := 51) iq_X12_feed_X12 ha0 ka0 (by decide) rfl 0 (by decide) (by decide) (by decide +kernel) rfl (by decide) (v := 0) (ty := .int) tyX12 tyX12_ok nmX12 rfl (by decide +kernel) rfl rfl dX12_feed_2 (fun q_1 eq_1 => ?_)
  have hV_q_1 : sx_V h L q_1 := by rw [eq_1]; exact hV.pI ka0 trivial
  have hF_q_1 : sx_fr h L (fun a => h.1 a = 12 ∨ h.1 a = 111) q q_1 := hF.tr (by rw [eq_1]; exact sx_fr.pI (show h.1 a0 = 12 ∨ h.1 a0 = 111 from by omega))
  have z_2 : q_1.1 a0 0 = 0 := by rw [eq_1]; exact sg_pI_e
  have hK_q_1 : sx_kf a0 [0, 2] q q_1 := hK.tr (by rw [eq_1]; exact sx_kf.pI (by decide))
  refine wa_aload_n B dX12_feed_5 rfl 0 rfl ?_
  have z_3 : q_1.1 a0 2 = q.1 a0 2 := (show q_1.1 a0 2 = q.1 a0 2 from by rw [eq_1]; exact sg_pI_k (by decide))
  refine wa_getI B (C := RX12) (T := TX12) (N := 51) iq_X12_feed_X12 ha0 ka0 (by decide) rfl 2 (by decide) (by decide) (by decide +kernel) rfl (by decide) (v := (q.1 a0 2)) z_3 dX12_feed_6 ?_
  have g_4 : (0 : Int) ≤ (q.1 a0 2).toInt ∧ (q.1 a0 2).toInt ≤ 440 := by rw [← z_3]; exact hV_q_1.int ha0 ka0 2
  refine wa_bipush B 20 dX12_feed_9 (by decide) ?_
  refine wa_iadd B dX12_feed_11 (fun v_5 ev_5 => ?_)
  refine wa_sipush B 440 dX12_feed_12 (by decide) ?_
  have tv_5 : v_5.toInt = (q.1 a0 2).toInt + 20 := by have b0 := zx_bd (q.1 a0 2); rw [ev_5]; exact zx_add (show (-2147483648 : Int) ≤ (q.1 a0 2).toInt + 20 by omega) (show (q.1 a0 2).toInt + 20 < (2147483648 : Int) by omega)
  refine wa_icmp_le B 20 dX12_feed_15 (by decide) (fun (t_6 : v_5.toInt ≤ 440) => ?_) (fun (t_6 : ¬ v_5.toInt ≤ 440) => ?_)
  · refine wa_aload_n B dX12_feed_20 rfl 0 rfl ?_
    refine wa_iload_n B dX12_feed_21 rfl 1 rfl ?_
    have y_7 : (q_1.1 a0 2).toInt = (q.1 a0 2).toInt := by rw [z_3]
    refine wa_callVv B (x := (RX12, TX12, 51)) (As := [.int n1]) (rest := []) (k_X12_come l dC dI h L hN q_1 hV_q_1 (a0 := a0) ha0 ka0 n1  (by first | assumption | omega | decide)) (cwV 1 B.1.2.2.2.2 gX12_feed_X12_come rfl rfl rfl (by decide +kernel) ⟨Nat.le_of_ble_eq_true rfl, Nat.le_of_ble_eq_true rfl⟩) ha0 ka0 (by decide) rfl rfl rfl (Nat.le_of_ble_eq_true rfl) dX12_feed_22 (fun q_8 w_9 => ?_)
    obtain ⟨hV_q_8, h2_q_8, h3_q_8, hw_9⟩ := w_9
    have hF_q_8 : sx_fr h L (fun a => h.1 a = 12 ∨ h.1 a = 111) q q_8 := hF_q_1.tr (h2_q_8.mono (fun a (z : h.1 a = 12 ∨ h.1 a = 111) => (show h.1 a = 12 ∨ h.1 a = 111 from by omega)))
    have hK_q_8 : sx_kf a0 [0, 2] q q_8 := hK_q_1.tr (h3_q_8.mono (by decide))
    refine wa_aload_n B dX12_feed_25 rfl 0 rfl ?_
    refine wa_iload_n B dX12_feed_26 rfl 2 rfl ?_
    refine wa_callVv B (x := (RX12, TX12, 51)) (As := [.int n2]) (rest := []) (k_X12_come l dC dI h L hN q_8 hV_q_8 (a0 := a0) ha0 ka0 n2  (by first | assumption | omega | decide)) (cwV 1 B.1.2.2.2.2 gX12_feed_X12_come rfl rfl rfl (by decide +kernel) ⟨Nat.le_of_ble_eq_true rfl, Nat.le_of_ble_eq_true rfl⟩) ha0 ka0 (by decide) rfl rfl rfl (Nat.le_of_ble_eq_true rfl) dX12_feed_27 (fun q_10 w_11 => ?_)
    obtain ⟨hV_q_10, h2_q_10, h3_q_10, hw_11⟩ := w_11
    have hF_q_10 : sx_fr h L (fun a => h.1 a = 12 ∨ h.1 a = 111) q q_10 := hF_q_8.tr (h2_q_10.mono (fun a (z : h.1 a = 12 ∨ h.1 a = 111) => (show h.1 a = 12 ∨ h.1 a = 111 from by omega)))
    have hK_q_10 : sx_kf a0 [0, 2] q q_10 := hK_q_8.tr (h3_q_10.mono (by decide))
    refine wa_aload_n B dX12_feed_30 rfl 0 rfl ?_
    refine wa_iload_n B dX12_feed_31 rfl 3 rfl ?_
    refine wa_callVv B (x := (RX12, TX12, 51)) (As := [.int n3]) (rest := []) (k_X12_come l dC dI h L hN q_10 hV_q_10 (a0 := a0) ha0 ka0 n3  (by first | assumption | omega | decide)) (cwV 1 B.1.2.2.2.2 gX12_feed_X12_come rfl rfl rfl (by decide +kernel) ⟨Nat.le_of_ble_eq_true rfl, Nat.le_of_ble_eq_true rfl⟩) ha0 ka0 (by decide) rfl rfl rfl (Nat.le_of_ble_eq_true rfl) dX12_feed_32 (fun q_12 w_13 => ?_)
    obtain ⟨hV_q_12, h2_q_12, h3_q_12, hw_13⟩ := w_13
    have hF_q_12 : sx_fr h L (fun a => h.1 a = 12 ∨ h.1 a = 111) q q_12 := hF_q_10.tr (h2_q_12.mono (fun a (z : h.1 a = 12 ∨ h.1 a = 111) => (show h.1 a = 12 ∨ h.1 a = 111 from by omega)))
    have hK_q_12 : sx_kf a0 [0, 2] q q_12 := hK_q_10.tr (h3_q_12.mono (by decide))
    refine wa_aload_n B dX12_feed_35 rfl 0 rfl ?_
    refine wa_iload B dX12_feed_36 4 rfl ?_
    refine wa_callVv B (x := (RX12, TX12, 51)) (As := [.int n4]) (rest := []) (k_X12_come l dC dI h L hN q_12 hV_q_12 (a0 := a0) ha0 ka0 n4  (by first | assumption | omega | decide)) (cwV 1 B.1.2.2.2.2 gX12_feed_X12_come rfl rfl rfl (by decide +kernel) ⟨Nat.le_of_ble_eq_true rfl, Nat.le_of_ble_eq_true rfl⟩) ha0 ka0 (by decide) rfl rfl rfl (Nat.le_of_ble_eq_true rfl) dX12_feed_38 (fun q_14 w_15 => ?_)
    obtain ⟨hV_q_14, h2_q_14, h3_q_14, hw_15⟩ := w_15
    have hF_q_14 : sx_fr h L (fun a => h.1 a = 12 ∨ h.1 a = 111) q q_14 := hF_q_12.tr (h2_q_14.mono (fun a (z : h.1 a = 12 ∨ h.1 a = 111) => (show h.1 a = 12 ∨ h.1 a = 111 from by omega)))
    have hK_q_14 : sx_kf a0 [0, 2] q q_14 := hK_q_12.tr (h3_q_14.mono (by decide))
    refine wa_aload_n B dX12_feed_41 rfl 0 rfl ?_
    refine wa_iload B dX12_feed_42 5 rfl ?_
    refine wa_callVv B (x := (RX12, TX12, 51)) (As := [.int n5]) (rest := []) (k_X12_come l dC dI h L hN q_14 hV_q_14 (a0 := a0) ha0 ka0 n5  (by first | assumption | omega | decide)) (cwV 1 B.1.2.2.2.2 gX12_feed_X12_come rfl rfl rfl (by decide +kernel) ⟨Nat.le_of_ble_eq_true rfl, Nat.le_of_ble_eq_true rfl⟩) ha0 ka0 (by decide) rfl rfl rfl (Nat.le_of_ble_eq_true rfl) dX12_feed_44 (fun q_16 w_17 => ?_)
    obtain ⟨hV_q_16, h2_q_16, h3_q_16, hw_17⟩ := w_17
    have hF_q_16 : sx_fr h L (fun a => h.1 a = 12 ∨ h.1 a = 111) q q_16 := hF_q_14.tr (h2_q_16.mono (fun a (z : h.1 a = 12 ∨ h.1 a = 111) => (show h.1 a = 12 ∨ h.1 a = 111 from by omega)))
    have hK_q_16 : sx_kf a0 [0, 2] q q_16 := hK_q_14.tr (h3_q_16.mono (by decide))
    refine wa_aload_n B dX12_feed_47 rfl 0 rfl ?_
    refine wa_getI B (C := RX12) (T := TX12) (N := 51) iq_X12_feed_X12 ha0 ka0 (by decide) rfl 2 (by decide) (by decide) (by decide +kernel) rfl (by decide) (v := (q_16.1 a0 2)) rfl dX12_feed_48 ?_
    have g_18 : (0 : Int) ≤ (q_16.1 a0 2).toInt ∧ (q_16.1 a0 2).toInt ≤ 440 := hV_q_16.int ha0 ka0 2
    exact hret _ _ _ _ dX12_feed_51 ⟨hV_q_16, hF_q_16, hK_q_16, (by first | omega | (refine ⟨?_, ?_⟩ <;> omega) | trivial)⟩
  · refine wa_iconst B (-1) dX12_feed_18 (by decide) ?_
    have y_19 : (q_1.1 a0 2).toInt = (q.1 a0 2).toInt := by rw [z_3]
    exact hret _ _ _ _ dX12_feed_19 ⟨hV_q_1, hF_q_1, hK_q_1, (by have h9 : ((-1) : Int32).toInt = (-1) := rfl; first | omega | (refine ⟨?_, ?_⟩ <;> omega) | trivial)⟩
theorem iq_X12_end_X12 : ∀ w ∈ wsX120, w ∈ wsX12_end := fun _ h => List.mem_cons_of_mem _ (List.mem_append_right _ h)
set_option maxHeartbeats 4000000 in
set_option maxRecDepth 100000 in
theorem k_X12_end (l : Launch) (dC : Nat → ClassId) (dI : Nat → Nat → Nat) (h : Sh) (L : List Nat) (hN : sx_nd L) (q : Sg) (hV : sx_V h L q) {a0 : Nat} (ha0 : a0 ∈ L) (ka0 : h.1 a0 = 12) (n1 : Int32)    : CMi l dC dI h L yX12_end wsX12_end ({ frames := 0, cells := 0, slots := 0, locals := 0 } : Room) q [.ref a0, .int n1] (fun r q' => sx_V h L q' ∧ sx_fr h L (fun a => h.1 a = 12) q q' ∧ sx_kf a0 [0, 2] q q' ∧ ((0 ≤ n1.toInt ∧ n1.toInt ≤ (q.1 a0 2).toInt) ∧ (q'.1 a0 2).toInt = n1.toInt ∧ r.toInt = 1 ∨ ¬ (0 ≤ n1.toInt ∧ n1.toInt ≤ (q.1 a0 2).toInt) ∧ (q'.1 a0 2).toInt = (q.1 a0 2).toInt ∧ r.toInt = 0)) := by
  refine cm_z (cc := cX12_end) (mL := 2) (own := RX12) hN (by decide) rfl rfl (Nat.le_of_ble_eq_true rfl) (fun Z B hret => ?_)
  have hF : sx_fr h L (fun a => h.1 a = 12) q q := sx_fr.rf
  have hK : sx_kf a0 [0, 2] q q := sx_kf.rf
  show WA l dC dI h L ({ frames := 0, cells := 0, slots := 0, locals := 0 } : Room) 2 Z q 0 [(0, .ref a0), (1, .int n1)] []
  refine wa_aload_n B dX12_end_0 rfl 0 rfl ?_
  refine wa_iconst B 0 dX12_end_1 (by decide) ?_
  refine wa_putI B (C := RX12) (T := TX12) (N := 51) iq_X12_end_X12 ha0 ka0 (by decide) rfl 0 (by decide) (by decide) (by decide +kernel) rfl (by decide) (v := 0) (ty := .int) tyX12 tyX12_ok nmX12 rfl (by decide +kernel) rfl rfl dX12_end_2 (fun q_1 eq_1 => ?_)
  have hV_q_1 : sx_V h L q_1 := by rw [eq_1]; exact hV.pI ka0 trivial
  have hF_q_1 : sx_fr h L (fun a => h.1 a = 12) q q_1 := hF.tr (by rw [eq_1]; exact sx_fr.pI (show h.1 a0 = 12 from by omega))
  have z_2 : q_1.1 a0 0 = 0 := by rw [eq_1]; exact sg_pI_e
  have hK_q_1 : sx_kf a0 [0, 2] q q_1 := hK.tr (by rw [eq_1]; exact sx_kf.pI (by decide))
  refine wa_iload_n B dX12_end_5 rfl 1 rfl ?_
  refine wa_if_lt B 17 dX12_end_6 (by decide) (fun (t_3 : n1.toInt < 0) => ?_) (fun (t_3 : ¬ n1.toInt < 0) => ?_)
  · refine wa_iconst B 0 dX12_end_17 (by decide) ?_
    have z_4 : q_1.1 a0 2 = q.1 a0 2 := (show q_1.1 a0 2 = q.1 a0 2 from by rw [eq_1]; exact sg_pI_k (by decide))
    have y_5 : (q_1.1 a0 2).toInt = (q.1 a0 2).toInt := by rw [z_4]
    exact hret _ _ _ _ dX12_end_18 (Or.inl rfl) ⟨hV_q_1, hF_q_1, hK_q_1, (by have h9 : (0 : Int32).toInt = 0 := rfl; first | omega | (refine ⟨?_, ?_⟩ <;> omega) | trivial)⟩
  · refine wa_iload_n B dX12_end_9 rfl 1 rfl ?_
    refine wa_aload_n B dX12_end_10 rfl 0 rfl ?_
    have z_6 : q_1.1 a0 2 = q.1 a0 2 := (show q_1.1 a0 2 = q.1 a0 2 from by rw [eq_1]; exact sg_pI_k (by decide))
    refine wa_getI B (C := RX12) (T := TX12) (N := 51) iq_X12_end_X12 ha0 ka0 (by decide) rfl 2 (by decide) (by decide) (by decide +kernel) rfl (by decide) (v := (q.1 a0 2)) z_6 dX12_end_11 ?_
    have g_7 : (0 : Int) ≤ (q.1 a0 2).toInt ∧ (q.1 a0 2).toInt ≤ 440 := by rw [← z_6]; exact hV_q_1.int ha0 ka0 2
    refine wa_icmp_le B 19 dX12_end_14 (by decide) (fun (t_8 : n1.toInt ≤ (q.1 a0 2).toInt) => ?_) (fun (t_8 : ¬ n1.toInt ≤ (q.1 a0 2).toInt) => ?_)
    · refine wa_aload_n B dX12_end_19 rfl 0 rfl ?_
      refine wa_iload_n B dX12_end_20 rfl 1 rfl ?_
      refine wa_putI B (C := RX12) (T := TX12) (N := 51) iq_X12_end_X12 ha0 ka0 (by decide) rfl 2 (by decide) (by decide) (by decide +kernel) rfl (by decide) (v := n1) (ty := .int) tyX12 tyX12_ok nmX12 rfl (by decide +kernel) rfl rfl dX12_end_21 (fun q_9 eq_9 => ?_)
      have hV_q_9 : sx_V h L q_9 := by rw [eq_9]; exact hV_q_1.pI ka0 (show sx_in n1 (0) 440 from ⟨by omega, by omega⟩)
      have hF_q_9 : sx_fr h L (fun a => h.1 a = 12) q q_9 := hF_q_1.tr (by rw [eq_9]; exact sx_fr.pI (show h.1 a0 = 12 from by omega))
      have z_10 : q_9.1 a0 2 = n1 := by rw [eq_9]; exact sg_pI_e
      have hK_q_9 : sx_kf a0 [0, 2] q q_9 := hK_q_1.tr (by rw [eq_9]; exact sx_kf.pI (by decide))
      refine wa_iconst B 1 dX12_end_24 (by decide) ?_
      have y_11 : (q_9.1 a0 2).toInt = n1.toInt := by rw [z_10]
      exact hret _ _ _ _ dX12_end_25 (Or.inr rfl) ⟨hV_q_9, hF_q_9, hK_q_9, (by have h9 : (1 : Int32).toInt = 1 := rfl; first | omega | (refine ⟨?_, ?_⟩ <;> omega) | trivial)⟩
    · refine wa_iconst B 0 dX12_end_17 (by decide) ?_
      have y_12 : (q_1.1 a0 2).toInt = (q.1 a0 2).toInt := by rw [z_6]
      exact hret _ _ _ _ dX12_end_18 (Or.inl rfl) ⟨hV_q_1, hF_q_1, hK_q_1, (by have h9 : (0 : Int32).toInt = 0 := rfl; first | omega | (refine ⟨?_, ?_⟩ <;> omega) | trivial)⟩
theorem iq_X12_at_X12 : ∀ w ∈ wsX120, w ∈ wsX12_at := fun _ h => List.mem_cons_of_mem _ (List.mem_append_right _ h)
set_option maxHeartbeats 4000000 in
set_option maxRecDepth 100000 in
theorem k_X12_at (l : Launch) (dC : Nat → ClassId) (dI : Nat → Nat → Nat) (h : Sh) (L : List Nat) (hN : sx_nd L) (q : Sg) (hV : sx_V h L q) {a0 : Nat} (ha0 : a0 ∈ L) (ka0 : h.1 a0 = 12) (n1 : Int32)   (hy0 : 0 ≤ n1.toInt) : CMi l dC dI h L yX12_at wsX12_at ({ frames := 0, cells := 0, slots := 0, locals := 0 } : Room) q [.ref a0, .int n1] (fun r q' => q = q' ∧ (n1.toInt < (q.1 a0 4).toInt ∧ 0 ≤ r.toInt ∧ r.toInt ≤ 255 ∨ (q.1 a0 4).toInt ≤ n1.toInt ∧ r.toInt = 0)) := by
  refine cm_i (cc := cX12_at) (mL := 2) (own := RX12) hN (by decide) rfl rfl (Nat.le_of_ble_eq_true rfl) (fun Z B hret => ?_)
  show WA l dC dI h L ({ frames := 0, cells := 0, slots := 0, locals := 0 } : Room) 2 Z q 0 [(0, .ref a0), (1, .int n1)] []
  refine wa_iload_n B dX12_at_0 rfl 1 rfl ?_
  refine wa_aload_n B dX12_at_1 rfl 0 rfl ?_
  refine wa_getI B (C := RX12) (T := TX12) (N := 51) iq_X12_at_X12 ha0 ka0 (by decide) rfl 4 (by decide) (by decide) (by decide +kernel) rfl (by decide) (v := (q.1 a0 4)) rfl dX12_at_2 ?_
  have g_1 : (0 : Int) ≤ (q.1 a0 4).toInt ∧ (q.1 a0 4).toInt ≤ 500 := hV.int ha0 ka0 4
  refine wa_icmp_ge B 17 dX12_at_5 (by decide) (fun (t_2 : (q.1 a0 4).toInt ≤ n1.toInt) => ?_) (fun (t_2 : ¬ (q.1 a0 4).toInt ≤ n1.toInt) => ?_)
  · refine wa_iconst B 0 dX12_at_17 (by decide) ?_
    exact hret _ _ _ _ dX12_at_18 ⟨rfl, (by have h9 : (0 : Int32).toInt = 0 := rfl; first | omega | (refine ⟨?_, ?_⟩ <;> omega) | trivial)⟩
  · refine wa_aload_n B dX12_at_8 rfl 0 rfl ?_
    obtain ⟨a_3, ea_3, ha_3, ka_3, la_3⟩ := hV.refn (n := 500) (t := 113) ha0 ka0 3 rfl (by decide) rfl (by decide)
    refine wa_getR B (C := RX12) (T := TX12) (N := 51) iq_X12_at_X12 ha0 ka0 (by decide) rfl 3 (by decide) (by decide) (by decide +kernel) rfl (fun _ _ _ => rfl) (v := a_3) ea_3 dX12_at_9 ?_
    refine wa_iload_n B dX12_at_12 rfl 1 rfl ?_
    refine wa_iaload B ha_3 ka_3 (by decide) (by decide) (show 0 ≤ n1.toInt by omega) (show n1.toInt < (h.2.1 a_3 : Int) by omega) (v := (q.2.2.2.1 a_3 (n1 : Int32).toNatClampNeg)) rfl dX12_at_13 ?_
    have g_4 : (0 : Int) ≤ ((q.2.2.2.1 a_3 (n1 : Int32).toNatClampNeg)).toInt ∧ ((q.2.2.2.1 a_3 (n1 : Int32).toNatClampNeg)).toInt ≤ 255 := hV.cnt ha_3 ka_3 _
    refine wa_goto B 18 dX12_at_14 (by decide) ?_
    exact hret _ _ _ _ dX12_at_18 ⟨rfl, (by first | omega | (refine ⟨?_, ?_⟩ <;> omega) | trivial)⟩
set_option maxHeartbeats 4000000 in
set_option maxRecDepth 100000 in
theorem k_X12_isDigit (l : Launch) (dC : Nat → ClassId) (dI : Nat → Nat → Nat) (h : Sh) (L : List Nat) (hN : sx_nd L) (q : Sg) (hV : sx_V h L q) (n1 : Int32)    : CMi l dC dI h L yX12_isDigit wsX12_isDigit ({ frames := 0, cells := 0, slots := 0, locals := 0 } : Room) q [.int n1] (fun r q' => q = q' ∧ (r.toInt = 1 ∧ 48 ≤ n1.toInt ∧ n1.toInt ≤ 57 ∨ r.toInt = 0)) := by
  refine cm_z (cc := cX12_isDigit) (mL := 1) (own := RX12) hN (by decide) rfl rfl (Nat.le_of_ble_eq_true rfl) (fun Z B hret => ?_)
  show WA l dC dI h L ({ frames := 0, cells := 0, slots := 0, locals := 0 } : Room) 1 Z q 0 [(0, .int n1)] []
  refine wa_iload_n B dX12_isDigit_0 rfl 0 rfl ?_
  refine wa_bipush B 48 dX12_isDigit_1 (by decide) ?_
  refine wa_icmp_lt B 16 dX12_isDigit_3 (by decide) (fun (t_1 : n1.toInt < 48) => ?_) (fun (t_1 : ¬ n1.toInt < 48) => ?_)
  · refine wa_iconst B 0 dX12_isDigit_16 (by decide) ?_
    exact hret _ _ _ _ dX12_isDigit_17 (Or.inl rfl) ⟨rfl, (by have h9 : (0 : Int32).toInt = 0 := rfl; first | omega | (refine ⟨?_, ?_⟩ <;> omega) | trivial)⟩
  · refine wa_iload_n B dX12_isDigit_6 rfl 0 rfl ?_
    refine wa_bipush B 57 dX12_isDigit_7 (by decide) ?_
    refine wa_icmp_gt B 16 dX12_isDigit_9 (by decide) (fun (t_2 : 57 < n1.toInt) => ?_) (fun (t_2 : ¬ 57 < n1.toInt) => ?_)
    · refine wa_iconst B 0 dX12_isDigit_16 (by decide) ?_
      exact hret _ _ _ _ dX12_isDigit_17 (Or.inl rfl) ⟨rfl, (by have h9 : (0 : Int32).toInt = 0 := rfl; first | omega | (refine ⟨?_, ?_⟩ <;> omega) | trivial)⟩
    · refine wa_iconst B 1 dX12_isDigit_12 (by decide) ?_
      refine wa_goto B 17 dX12_isDigit_13 (by decide) ?_
      exact hret _ _ _ _ dX12_isDigit_17 (Or.inr rfl) ⟨rfl, (by have h9 : (1 : Int32).toInt = 1 := rfl; first | omega | (refine ⟨?_, ?_⟩ <;> omega) | trivial)⟩
set_option maxHeartbeats 4000000 in
set_option maxRecDepth 100000 in
theorem k_X12_isLetter (l : Launch) (dC : Nat → ClassId) (dI : Nat → Nat → Nat) (h : Sh) (L : List Nat) (hN : sx_nd L) (q : Sg) (hV : sx_V h L q) (n1 : Int32)    : CMi l dC dI h L yX12_isLetter wsX12_isLetter ({ frames := 0, cells := 0, slots := 0, locals := 0 } : Room) q [.int n1] (fun r q' => q = q' ∧ (r.toInt = 1 ∧ 97 ≤ n1.toInt ∧ n1.toInt ≤ 122 ∨ r.toInt = 0)) := by
  refine cm_z (cc := cX12_isLetter) (mL := 1) (own := RX12) hN (by decide) rfl rfl (Nat.le_of_ble_eq_true rfl) (fun Z B hret => ?_)
  show WA l dC dI h L ({ frames := 0, cells := 0, slots := 0, locals := 0 } : Room) 1 Z q 0 [(0, .int n1)] []
  refine wa_iload_n B dX12_isLetter_0 rfl 0 rfl ?_
  refine wa_bipush B 97 dX12_isLetter_1 (by decide) ?_
  refine wa_icmp_lt B 16 dX12_isLetter_3 (by decide) (fun (t_1 : n1.toInt < 97) => ?_) (fun (t_1 : ¬ n1.toInt < 97) => ?_)
  · refine wa_iconst B 0 dX12_isLetter_16 (by decide) ?_
    exact hret _ _ _ _ dX12_isLetter_17 (Or.inl rfl) ⟨rfl, (by have h9 : (0 : Int32).toInt = 0 := rfl; first | omega | (refine ⟨?_, ?_⟩ <;> omega) | trivial)⟩
  · refine wa_iload_n B dX12_isLetter_6 rfl 0 rfl ?_
    refine wa_bipush B 122 dX12_isLetter_7 (by decide) ?_
    refine wa_icmp_gt B 16 dX12_isLetter_9 (by decide) (fun (t_2 : 122 < n1.toInt) => ?_) (fun (t_2 : ¬ 122 < n1.toInt) => ?_)
    · refine wa_iconst B 0 dX12_isLetter_16 (by decide) ?_
      exact hret _ _ _ _ dX12_isLetter_17 (Or.inl rfl) ⟨rfl, (by have h9 : (0 : Int32).toInt = 0 := rfl; first | omega | (refine ⟨?_, ?_⟩ <;> omega) | trivial)⟩
    · refine wa_iconst B 1 dX12_isLetter_12 (by decide) ?_
      refine wa_goto B 17 dX12_isLetter_13 (by decide) ?_
      exact hret _ _ _ _ dX12_isLetter_17 (Or.inr rfl) ⟨rfl, (by have h9 : (1 : Int32).toInt = 1 := rfl; first | omega | (refine ⟨?_, ?_⟩ <;> omega) | trivial)⟩
theorem iq_X12_isCount_X12 : ∀ w ∈ wsX120, w ∈ wsX12_isCount := fun _ h => List.mem_cons_of_mem _ (List.mem_append_right _ h)
set_option maxHeartbeats 4000000 in
set_option maxRecDepth 100000 in
theorem k_X12_isCount (l : Launch) (dC : Nat → ClassId) (dI : Nat → Nat → Nat) (h : Sh) (L : List Nat) (hN : sx_nd L) (q : Sg) (hV : sx_V h L q) {a0 : Nat} (ha0 : a0 ∈ L) (ka0 : h.1 a0 = 12) (n1 : Int32)    : CMi l dC dI h L yX12_isCount wsX12_isCount ({ frames := 1, cells := 0, slots := 0, locals := 20 } : Room) q [.ref a0, .int n1] (fun r q' => q = q' ∧ (r.toInt = 1 ∧ 48 ≤ n1.toInt ∧ n1.toInt ≤ 63 ∨ r.toInt = 0)) := by
  refine cm_z (cc := cX12_isCount) (mL := 2) (own := RX12) hN (by decide) rfl rfl (Nat.le_of_ble_eq_true rfl) (fun Z B hret => ?_)
  show WA l dC dI h L ({ frames := 1, cells := 0, slots := 0, locals := 20 } : Room) 2 Z q 0 [(0, .ref a0), (1, .int n1)] []
  refine wa_iload_n B dX12_isCount_0 rfl 1 rfl ?_
  refine wa_callSi B (As := [.int n1]) (rest := []) (k_X12_isDigit l dC dI h L hN q hV n1  ) (va_cwS 1 B.1.2.2.2.2 gX12_isCount_X12_isDigit rfl rfl rfl (by decide +kernel) ⟨Nat.le_of_ble_eq_true rfl, Nat.le_of_ble_eq_true rfl⟩) rfl rfl (Nat.le_of_ble_eq_true rfl) dX12_isCount_1 (fun r_2 q_1 w_3 => ?_)
  obtain ⟨ew_3, hw_3⟩ := w_3
  subst ew_3
  refine wa_if_ne B 20 dX12_isCount_4 (by decide) (fun (t_4 : ¬ r_2.toInt = 0) => ?_) (fun (t_4 : r_2.toInt = 0) => ?_)
  · refine wa_iconst B 1 dX12_isCount_20 (by decide) ?_
    refine wa_goto B 25 dX12_isCount_21 (by decide) ?_
    exact hret _ _ _ _ dX12_isCount_25 (Or.inr rfl) ⟨rfl, (by have h9 : (1 : Int32).toInt = 1 := rfl; first | omega | (refine ⟨?_, ?_⟩ <;> omega) | trivial)⟩
  · refine wa_aload_n B dX12_isCount_7 rfl 0 rfl ?_
    refine wa_getI B (C := RX12) (T := TX12) (N := 51) iq_X12_isCount_X12 ha0 ka0 (by decide) rfl 10 (by decide) (by decide) (by decide +kernel) rfl (by decide) (v := (q.1 a0 10)) rfl dX12_isCount_8 ?_
    refine wa_if_eq B 24 dX12_isCount_11 (by decide) (fun (t_5 : (q.1 a0 10).toInt = 0) => ?_) (fun (t_5 : ¬ (q.1 a0 10).toInt = 0) => ?_)
    · refine wa_iconst B 0 dX12_isCount_24 (by decide) ?_
      exact hret _ _ _ _ dX12_isCount_25 (Or.inl rfl) ⟨rfl, (by have h9 : (0 : Int32).toInt = 0 := rfl; first | omega | (refine ⟨?_, ?_⟩ <;> omega) | trivial)⟩
    · refine wa_iload_n B dX12_isCount_14 rfl 1 rfl ?_
      refine wa_bipush B 63 dX12_isCount_15 (by decide) ?_
      refine wa_icmp_ne B 24 dX12_isCount_17 (by decide) (fun (t_6 : ¬ n1.toInt = 63) => ?_) (fun (t_6 : n1.toInt = 63) => ?_)
      · refine wa_iconst B 0 dX12_isCount_24 (by decide) ?_
        exact hret _ _ _ _ dX12_isCount_25 (Or.inl rfl) ⟨rfl, (by have h9 : (0 : Int32).toInt = 0 := rfl; first | omega | (refine ⟨?_, ?_⟩ <;> omega) | trivial)⟩
      · refine wa_iconst B 1 dX12_isCount_20 (by decide) ?_
        refine wa_goto B 25 dX12_isCount_21 (by decide) ?_
        exact hret _ _ _ _ dX12_isCount_25 (Or.inr rfl) ⟨rfl, (by have h9 : (1 : Int32).toInt = 1 := rfl; first | omega | (refine ⟨?_, ?_⟩ <;> omega) | trivial)⟩
set_option maxHeartbeats 4000000 in
set_option maxRecDepth 100000 in
theorem k_X12_digitOf (l : Launch) (dC : Nat → ClassId) (dI : Nat → Nat → Nat) (h : Sh) (L : List Nat) (hN : sx_nd L) (q : Sg) (hV : sx_V h L q) (n1 : Int32)   (hy0 : 0 ≤ n1.toInt) (hy1 : n1.toInt ≤ 255) : CMi l dC dI h L yX12_digitOf wsX12_digitOf ({ frames := 0, cells := 0, slots := 0, locals := 0 } : Room) q [.int n1] (fun r q' => q = q' ∧ ((-48) ≤ r.toInt ∧ r.toInt ≤ 207)) := by
  refine cm_i (cc := cX12_digitOf) (mL := 1) (own := RX12) hN (by decide) rfl rfl (Nat.le_of_ble_eq_true rfl) (fun Z B hret => ?_)
  show WA l dC dI h L ({ frames := 0, cells := 0, slots := 0, locals := 0 } : Room) 1 Z q 0 [(0, .int n1)] []
  refine wa_iload_n B dX12_digitOf_0 rfl 0 rfl ?_
  refine wa_bipush B 63 dX12_digitOf_1 (by decide) ?_
  refine wa_icmp_ne B 11 dX12_digitOf_3 (by decide) (fun (t_1 : ¬ n1.toInt = 63) => ?_) (fun (t_1 : n1.toInt = 63) => ?_)
  · refine wa_iload_n B dX12_digitOf_11 rfl 0 rfl ?_
    refine wa_bipush B 48 dX12_digitOf_12 (by decide) ?_
    refine wa_isub B dX12_digitOf_14 (fun v_2 ev_2 => ?_)
    have tv_2 : v_2.toInt = n1.toInt - 48 := by have b0 := zx_bd n1; rw [ev_2]; exact zx_sub (show (-2147483648 : Int) ≤ n1.toInt - 48 by omega) (show n1.toInt - 48 < (2147483648 : Int) by omega)
    exact hret _ _ _ _ dX12_digitOf_15 ⟨rfl, (by first | omega | (refine ⟨?_, ?_⟩ <;> omega) | trivial)⟩
  · refine wa_bipush B 10 dX12_digitOf_6 (by decide) ?_
    refine wa_goto B 15 dX12_digitOf_8 (by decide) ?_
    exact hret _ _ _ _ dX12_digitOf_15 ⟨rfl, (by have h9 : (10 : Int32).toInt = 10 := rfl; first | omega | (refine ⟨?_, ?_⟩ <;> omega) | trivial)⟩
theorem iq_X12_bad_X12 : ∀ w ∈ wsX120, w ∈ wsX12_bad := fun _ h => List.mem_cons_of_mem _ (List.mem_append_right _ h)
set_option maxHeartbeats 4000000 in
set_option maxRecDepth 100000 in
theorem k_X12_bad (l : Launch) (dC : Nat → ClassId) (dI : Nat → Nat → Nat) (h : Sh) (L : List Nat) (hN : sx_nd L) (q : Sg) (hV : sx_V h L q) {a0 : Nat} (ha0 : a0 ∈ L) (ka0 : h.1 a0 = 12) (n1 : Int32)    : CMi l dC dI h L yX12_bad wsX12_bad ({ frames := 0, cells := 0, slots := 0, locals := 0 } : Room) q [.ref a0, .int n1] (fun r q' => sx_V h L q' ∧ sx_fr h L (fun a => h.1 a = 12) q q' ∧ sx_kf a0 [14, 15] q q' ∧ r.toInt = 0) := by
  refine cm_z (cc := cX12_bad) (mL := 2) (own := RX12) hN (by decide) rfl rfl (Nat.le_of_ble_eq_true rfl) (fun Z B hret => ?_)
  have hF : sx_fr h L (fun a => h.1 a = 12) q q := sx_fr.rf
  have hK : sx_kf a0 [14, 15] q q := sx_kf.rf
  show WA l dC dI h L ({ frames := 0, cells := 0, slots := 0, locals := 0 } : Room) 2 Z q 0 [(0, .ref a0), (1, .int n1)] []
  refine wa_aload_n B dX12_bad_0 rfl 0 rfl ?_
  refine wa_aload_n B dX12_bad_1 rfl 0 rfl ?_
  refine wa_getI B (C := RX12) (T := TX12) (N := 51) iq_X12_bad_X12 ha0 ka0 (by decide) rfl 8 (by decide) (by decide) (by decide +kernel) rfl (by decide) (v := (q.1 a0 8)) rfl dX12_bad_2 ?_
  refine wa_iconst B 1 dX12_bad_5 (by decide) ?_
  refine wa_icmp_ne B 13 dX12_bad_6 (by decide) (fun (t_1 : ¬ (q.1 a0 8).toInt = 1) => ?_) (fun (t_1 : (q.1 a0 8).toInt = 1) => ?_)
  · refine wa_iload_n B dX12_bad_13 rfl 1 rfl ?_
    refine wa_putI B (C := RX12) (T := TX12) (N := 51) iq_X12_bad_X12 ha0 ka0 (by decide) rfl 14 (by decide) (by decide) (by decide +kernel) rfl (by decide) (v := n1) (ty := .int) tyX12 tyX12_ok nmX12 rfl (by decide +kernel) rfl rfl dX12_bad_14 (fun q_2 eq_2 => ?_)
    have hV_q_2 : sx_V h L q_2 := by rw [eq_2]; exact hV.pI ka0 trivial
    have hF_q_2 : sx_fr h L (fun a => h.1 a = 12) q q_2 := hF.tr (by rw [eq_2]; exact sx_fr.pI (show h.1 a0 = 12 from by omega))
    have z_3 : q_2.1 a0 14 = n1 := by rw [eq_2]; exact sg_pI_e
    have hK_q_2 : sx_kf a0 [14, 15] q q_2 := hK.tr (by rw [eq_2]; exact sx_kf.pI (by decide))
    refine wa_aload_n B dX12_bad_17 rfl 0 rfl ?_
    refine wa_aload_n B dX12_bad_18 rfl 0 rfl ?_
    refine wa_getI B (C := RX12) (T := TX12) (N := 51) iq_X12_bad_X12 ha0 ka0 (by decide) rfl 7 (by decide) (by decide) (by decide +kernel) rfl (by decide) (v := (q_2.1 a0 7)) rfl dX12_bad_19 ?_
    have g_4 : (0 : Int) ≤ (q_2.1 a0 7).toInt ∧ (q_2.1 a0 7).toInt ≤ 500 := hV_q_2.int ha0 ka0 7
    refine wa_putI B (C := RX12) (T := TX12) (N := 51) iq_X12_bad_X12 ha0 ka0 (by decide) rfl 15 (by decide) (by decide) (by decide +kernel) rfl (by decide) (v := (q_2.1 a0 7)) (ty := .int) tyX12 tyX12_ok nmX12 rfl (by decide +kernel) rfl rfl dX12_bad_22 (fun q_5 eq_5 => ?_)
    have hV_q_5 : sx_V h L q_5 := by rw [eq_5]; exact hV_q_2.pI ka0 trivial
    have hF_q_5 : sx_fr h L (fun a => h.1 a = 12) q q_5 := hF_q_2.tr (by rw [eq_5]; exact sx_fr.pI (show h.1 a0 = 12 from by omega))
    have z_6 : q_5.1 a0 15 = (q_2.1 a0 7) := by rw [eq_5]; exact sg_pI_e
    have hK_q_5 : sx_kf a0 [14, 15] q q_5 := hK_q_2.tr (by rw [eq_5]; exact sx_kf.pI (by decide))
    refine wa_iconst B 0 dX12_bad_25 (by decide) ?_
    exact hret _ _ _ _ dX12_bad_26 (Or.inl rfl) ⟨hV_q_5, hF_q_5, hK_q_5, (by have h9 : (0 : Int32).toInt = 0 := rfl; first | omega | (refine ⟨?_, ?_⟩ <;> omega) | trivial)⟩
  · refine wa_iconst B 1 dX12_bad_9 (by decide) ?_
    refine wa_goto B 14 dX12_bad_10 (by decide) ?_
    refine wa_putI B (C := RX12) (T := TX12) (N := 51) iq_X12_bad_X12 ha0 ka0 (by decide) rfl 14 (by decide) (by decide) (by decide +kernel) rfl (by decide) (v := 1) (ty := .int) tyX12 tyX12_ok nmX12 rfl (by decide +kernel) rfl rfl dX12_bad_14 (fun q_7 eq_7 => ?_)
    have hV_q_7 : sx_V h L q_7 := by rw [eq_7]; exact hV.pI ka0 trivial
    have hF_q_7 : sx_fr h L (fun a => h.1 a = 12) q q_7 := hF.tr (by rw [eq_7]; exact sx_fr.pI (show h.1 a0 = 12 from by omega))
    have z_8 : q_7.1 a0 14 = 1 := by rw [eq_7]; exact sg_pI_e
    have hK_q_7 : sx_kf a0 [14, 15] q q_7 := hK.tr (by rw [eq_7]; exact sx_kf.pI (by decide))
    refine wa_aload_n B dX12_bad_17 rfl 0 rfl ?_
    refine wa_aload_n B dX12_bad_18 rfl 0 rfl ?_
    refine wa_getI B (C := RX12) (T := TX12) (N := 51) iq_X12_bad_X12 ha0 ka0 (by decide) rfl 7 (by decide) (by decide) (by decide +kernel) rfl (by decide) (v := (q_7.1 a0 7)) rfl dX12_bad_19 ?_
    have g_9 : (0 : Int) ≤ (q_7.1 a0 7).toInt ∧ (q_7.1 a0 7).toInt ≤ 500 := hV_q_7.int ha0 ka0 7
    refine wa_putI B (C := RX12) (T := TX12) (N := 51) iq_X12_bad_X12 ha0 ka0 (by decide) rfl 15 (by decide) (by decide) (by decide +kernel) rfl (by decide) (v := (q_7.1 a0 7)) (ty := .int) tyX12 tyX12_ok nmX12 rfl (by decide +kernel) rfl rfl dX12_bad_22 (fun q_10 eq_10 => ?_)
    have hV_q_10 : sx_V h L q_10 := by rw [eq_10]; exact hV_q_7.pI ka0 trivial
    have hF_q_10 : sx_fr h L (fun a => h.1 a = 12) q q_10 := hF_q_7.tr (by rw [eq_10]; exact sx_fr.pI (show h.1 a0 = 12 from by omega))
    have z_11 : q_10.1 a0 15 = (q_7.1 a0 7) := by rw [eq_10]; exact sg_pI_e
    have hK_q_10 : sx_kf a0 [14, 15] q q_10 := hK_q_7.tr (by rw [eq_10]; exact sx_kf.pI (by decide))
    refine wa_iconst B 0 dX12_bad_25 (by decide) ?_
    exact hret _ _ _ _ dX12_bad_26 (Or.inl rfl) ⟨hV_q_10, hF_q_10, hK_q_10, (by have h9 : (0 : Int32).toInt = 0 := rfl; first | omega | (refine ⟨?_, ?_⟩ <;> omega) | trivial)⟩
theorem iq_X12_badAt_X12 : ∀ w ∈ wsX120, w ∈ wsX12_badAt := fun _ h => List.mem_cons_of_mem _ (List.mem_append_right _ h)
set_option maxHeartbeats 4000000 in
set_option maxRecDepth 100000 in
theorem k_X12_badAt (l : Launch) (dC : Nat → ClassId) (dI : Nat → Nat → Nat) (h : Sh) (L : List Nat) (hN : sx_nd L) (q : Sg) (hV : sx_V h L q) {a0 : Nat} (ha0 : a0 ∈ L) (ka0 : h.1 a0 = 12) (n1 : Int32) (n2 : Int32)    : CMi l dC dI h L yX12_badAt wsX12_badAt ({ frames := 0, cells := 0, slots := 0, locals := 0 } : Room) q [.ref a0, .int n1, .int n2] (fun r q' => sx_V h L q' ∧ sx_fr h L (fun a => h.1 a = 12) q q' ∧ sx_kf a0 [14, 15] q q' ∧ r.toInt = 0) := by
  refine cm_z (cc := cX12_badAt) (mL := 3) (own := RX12) hN (by decide) rfl rfl (Nat.le_of_ble_eq_true rfl) (fun Z B hret => ?_)
  have hF : sx_fr h L (fun a => h.1 a = 12) q q := sx_fr.rf
  have hK : sx_kf a0 [14, 15] q q := sx_kf.rf
  show WA l dC dI h L ({ frames := 0, cells := 0, slots := 0, locals := 0 } : Room) 3 Z q 0 [(0, .ref a0), (1, .int n1), (2, .int n2)] []
  refine wa_aload_n B dX12_badAt_0 rfl 0 rfl ?_
  refine wa_iload_n B dX12_badAt_1 rfl 1 rfl ?_
  refine wa_putI B (C := RX12) (T := TX12) (N := 51) iq_X12_badAt_X12 ha0 ka0 (by decide) rfl 14 (by decide) (by decide) (by decide +kernel) rfl (by decide) (v := n1) (ty := .int) tyX12 tyX12_ok nmX12 rfl (by decide +kernel) rfl rfl dX12_badAt_2 (fun q_1 eq_1 => ?_)
  have hV_q_1 : sx_V h L q_1 := by rw [eq_1]; exact hV.pI ka0 trivial
  have hF_q_1 : sx_fr h L (fun a => h.1 a = 12) q q_1 := hF.tr (by rw [eq_1]; exact sx_fr.pI (show h.1 a0 = 12 from by omega))
  have z_2 : q_1.1 a0 14 = n1 := by rw [eq_1]; exact sg_pI_e
  have hK_q_1 : sx_kf a0 [14, 15] q q_1 := hK.tr (by rw [eq_1]; exact sx_kf.pI (by decide))
  refine wa_aload_n B dX12_badAt_5 rfl 0 rfl ?_
  refine wa_iload_n B dX12_badAt_6 rfl 2 rfl ?_
  refine wa_putI B (C := RX12) (T := TX12) (N := 51) iq_X12_badAt_X12 ha0 ka0 (by decide) rfl 15 (by decide) (by decide) (by decide +kernel) rfl (by decide) (v := n2) (ty := .int) tyX12 tyX12_ok nmX12 rfl (by decide +kernel) rfl rfl dX12_badAt_7 (fun q_3 eq_3 => ?_)
  have hV_q_3 : sx_V h L q_3 := by rw [eq_3]; exact hV_q_1.pI ka0 trivial
  have hF_q_3 : sx_fr h L (fun a => h.1 a = 12) q q_3 := hF_q_1.tr (by rw [eq_3]; exact sx_fr.pI (show h.1 a0 = 12 from by omega))
  have z_4 : q_3.1 a0 15 = n2 := by rw [eq_3]; exact sg_pI_e
  have hK_q_3 : sx_kf a0 [14, 15] q q_3 := hK_q_1.tr (by rw [eq_3]; exact sx_kf.pI (by decide))
  refine wa_iconst B 0 dX12_badAt_10 (by decide) ?_
  exact hret _ _ _ _ dX12_badAt_11 (Or.inl rfl) ⟨hV_q_3, hF_q_3, hK_q_3, (by have h9 : (0 : Int32).toInt = 0 := rfl; first | omega | (refine ⟨?_, ?_⟩ <;> omega) | trivial)⟩
theorem iq_X12_isKey_X12 : ∀ w ∈ wsX120, w ∈ wsX12_isKey := fun _ h => List.mem_cons_of_mem _ (List.mem_append_right _ h)
set_option maxHeartbeats 4000000 in
set_option maxRecDepth 100000 in
theorem k_X12_isKey (l : Launch) (dC : Nat → ClassId) (dI : Nat → Nat → Nat) (h : Sh) (L : List Nat) (hN : sx_nd L) (q : Sg) (hV : sx_V h L q) {a0 : Nat} (ha0 : a0 ∈ L) (ka0 : h.1 a0 = 12) (n1 : Int64)    : CMi l dC dI h L yX12_isKey wsX12_isKey ({ frames := 0, cells := 0, slots := 0, locals := 0 } : Room) q [.ref a0, .long n1] (fun r q' => q = q' ∧ (r.toInt = 0 ∨ r.toInt = 1)) := by
  refine cm_z (cc := cX12_isKey) (mL := 3) (own := RX12) hN (by decide) rfl rfl (Nat.le_of_ble_eq_true rfl) (fun Z B hret => ?_)
  show WA l dC dI h L ({ frames := 0, cells := 0, slots := 0, locals := 0 } : Room) 3 Z q 0 [(0, .ref a0), (1, .long n1)] []
  refine wa_aload_n B dX12_isKey_0 rfl 0 rfl ?_
  refine wa_getI B (C := RX12) (T := TX12) (N := 51) iq_X12_isKey_X12 ha0 ka0 (by decide) rfl 8 (by decide) (by decide) (by decide +kernel) rfl (by decide) (v := (q.1 a0 8)) rfl dX12_isKey_1 ?_
  refine wa_iconst B 2 dX12_isKey_4 (by decide) ?_
  refine wa_icmp_ne B 21 dX12_isKey_5 (by decide) (fun (t_1 : ¬ (q.1 a0 8).toInt = 2) => ?_) (fun (t_1 : (q.1 a0 8).toInt = 2) => ?_)
  · refine wa_iconst B 0 dX12_isKey_21 (by decide) ?_
    exact hret _ _ _ _ dX12_isKey_22 (Or.inl rfl) ⟨rfl, (by have h9 : (0 : Int32).toInt = 0 := rfl; first | omega | (refine ⟨?_, ?_⟩ <;> omega) | trivial)⟩
  · refine wa_aload_n B dX12_isKey_8 rfl 0 rfl ?_
    refine wa_getJ B (C := RX12) (T := TX12) (N := 51) iq_X12_isKey_X12 ha0 ka0 (by decide) rfl 11 (by decide) (by decide) (by decide +kernel) rfl (by decide) (v := (q.2.1 a0 11)) rfl dX12_isKey_9 ?_
    refine wa_lload_n B dX12_isKey_12 rfl 1 rfl ?_
    refine wa_lcmp B dX12_isKey_13 (fun v_2 ev_2 => ?_)
    refine wa_if_ne B 21 dX12_isKey_14 (by decide) (fun (t_3 : ¬ v_2.toInt = 0) => ?_) (fun (t_3 : v_2.toInt = 0) => ?_)
    · refine wa_iconst B 0 dX12_isKey_21 (by decide) ?_
      exact hret _ _ _ _ dX12_isKey_22 (Or.inl rfl) ⟨rfl, (by have h9 : (0 : Int32).toInt = 0 := rfl; first | omega | (refine ⟨?_, ?_⟩ <;> omega) | trivial)⟩
    · refine wa_iconst B 1 dX12_isKey_17 (by decide) ?_
      refine wa_goto B 22 dX12_isKey_18 (by decide) ?_
      exact hret _ _ _ _ dX12_isKey_22 (Or.inr rfl) ⟨rfl, (by have h9 : (1 : Int32).toInt = 1 := rfl; first | omega | (refine ⟨?_, ?_⟩ <;> omega) | trivial)⟩
theorem iq_X12_isFree_X12 : ∀ w ∈ wsX120, w ∈ wsX12_isFree := fun _ h => List.mem_cons_of_mem _ (List.mem_append_right _ h)
set_option maxHeartbeats 4000000 in
set_option maxRecDepth 100000 in
theorem k_X12_isFree (l : Launch) (dC : Nat → ClassId) (dI : Nat → Nat → Nat) (h : Sh) (L : List Nat) (hN : sx_nd L) (q : Sg) (hV : sx_V h L q) {a0 : Nat} (ha0 : a0 ∈ L) (ka0 : h.1 a0 = 12)    : CMi l dC dI h L yX12_isFree wsX12_isFree ({ frames := 0, cells := 0, slots := 0, locals := 0 } : Room) q [.ref a0] (fun r q' => q = q' ∧ (r.toInt = 1 ∧ (q.1 a0 8).toInt = 2 ∨ r.toInt = 0)) := by
  refine cm_z (cc := cX12_isFree) (mL := 1) (own := RX12) hN (by decide) rfl rfl (Nat.le_of_ble_eq_true rfl) (fun Z B hret => ?_)
  show WA l dC dI h L ({ frames := 0, cells := 0, slots := 0, locals := 0 } : Room) 1 Z q 0 [(0, .ref a0)] []
  refine wa_aload_n B dX12_isFree_0 rfl 0 rfl ?_
  refine wa_getI B (C := RX12) (T := TX12) (N := 51) iq_X12_isFree_X12 ha0 ka0 (by decide) rfl 8 (by decide) (by decide) (by decide +kernel) rfl (by decide) (v := (q.1 a0 8)) rfl dX12_isFree_1 ?_
  refine wa_iconst B 2 dX12_isFree_4 (by decide) ?_
  refine wa_icmp_ne B 45 dX12_isFree_5 (by decide) (fun (t_1 : ¬ (q.1 a0 8).toInt = 2) => ?_) (fun (t_1 : (q.1 a0 8).toInt = 2) => ?_)
  · refine wa_iconst B 0 dX12_isFree_45 (by decide) ?_
    exact hret _ _ _ _ dX12_isFree_46 (Or.inl rfl) ⟨rfl, (by have h9 : (0 : Int32).toInt = 0 := rfl; first | omega | (refine ⟨?_, ?_⟩ <;> omega) | trivial)⟩
  · refine wa_aload_n B dX12_isFree_8 rfl 0 rfl ?_
    refine wa_getJ B (C := RX12) (T := TX12) (N := 51) iq_X12_isFree_X12 ha0 ka0 (by decide) rfl 11 (by decide) (by decide) (by decide +kernel) rfl (by decide) (v := (q.2.1 a0 11)) rfl dX12_isFree_9 ?_
    refine wa_gets0 B (by decide +kernel) dX12_isFree_12 ?_
    refine wa_lcmp B dX12_isFree_15 (fun v_2 ev_2 => ?_)
    refine wa_if_eq B 45 dX12_isFree_16 (by decide) (fun (t_3 : v_2.toInt = 0) => ?_) (fun (t_3 : ¬ v_2.toInt = 0) => ?_)
    · refine wa_iconst B 0 dX12_isFree_45 (by decide) ?_
      exact hret _ _ _ _ dX12_isFree_46 (Or.inl rfl) ⟨rfl, (by have h9 : (0 : Int32).toInt = 0 := rfl; first | omega | (refine ⟨?_, ?_⟩ <;> omega) | trivial)⟩
    · refine wa_aload_n B dX12_isFree_19 rfl 0 rfl ?_
      refine wa_getJ B (C := RX12) (T := TX12) (N := 51) iq_X12_isFree_X12 ha0 ka0 (by decide) rfl 11 (by decide) (by decide) (by decide +kernel) rfl (by decide) (v := (q.2.1 a0 11)) rfl dX12_isFree_20 ?_
      refine wa_gets1 B (by decide +kernel) dX12_isFree_23 ?_
      refine wa_lcmp B dX12_isFree_26 (fun v_4 ev_4 => ?_)
      refine wa_if_eq B 45 dX12_isFree_27 (by decide) (fun (t_5 : v_4.toInt = 0) => ?_) (fun (t_5 : ¬ v_4.toInt = 0) => ?_)
      · refine wa_iconst B 0 dX12_isFree_45 (by decide) ?_
        exact hret _ _ _ _ dX12_isFree_46 (Or.inl rfl) ⟨rfl, (by have h9 : (0 : Int32).toInt = 0 := rfl; first | omega | (refine ⟨?_, ?_⟩ <;> omega) | trivial)⟩
      · refine wa_aload_n B dX12_isFree_30 rfl 0 rfl ?_
        refine wa_getJ B (C := RX12) (T := TX12) (N := 51) iq_X12_isFree_X12 ha0 ka0 (by decide) rfl 11 (by decide) (by decide) (by decide +kernel) rfl (by decide) (v := (q.2.1 a0 11)) rfl dX12_isFree_31 ?_
        refine wa_gets2 B (by decide +kernel) dX12_isFree_34 ?_
        refine wa_lcmp B dX12_isFree_37 (fun v_6 ev_6 => ?_)
        refine wa_if_eq B 45 dX12_isFree_38 (by decide) (fun (t_7 : v_6.toInt = 0) => ?_) (fun (t_7 : ¬ v_6.toInt = 0) => ?_)
        · refine wa_iconst B 0 dX12_isFree_45 (by decide) ?_
          exact hret _ _ _ _ dX12_isFree_46 (Or.inl rfl) ⟨rfl, (by have h9 : (0 : Int32).toInt = 0 := rfl; first | omega | (refine ⟨?_, ?_⟩ <;> omega) | trivial)⟩
        · refine wa_iconst B 1 dX12_isFree_41 (by decide) ?_
          refine wa_goto B 46 dX12_isFree_42 (by decide) ?_
          exact hret _ _ _ _ dX12_isFree_46 (Or.inr rfl) ⟨rfl, (by have h9 : (1 : Int32).toInt = 1 := rfl; first | omega | (refine ⟨?_, ?_⟩ <;> omega) | trivial)⟩
theorem iq_X12_isSign_X12 : ∀ w ∈ wsX120, w ∈ wsX12_isSign := fun _ h => List.mem_cons_of_mem _ (List.mem_append_right _ h)
set_option maxHeartbeats 4000000 in
set_option maxRecDepth 100000 in
theorem k_X12_isSign (l : Launch) (dC : Nat → ClassId) (dI : Nat → Nat → Nat) (h : Sh) (L : List Nat) (hN : sx_nd L) (q : Sg) (hV : sx_V h L q) {a0 : Nat} (ha0 : a0 ∈ L) (ka0 : h.1 a0 = 12) (n1 : Int32)    : CMi l dC dI h L yX12_isSign wsX12_isSign ({ frames := 0, cells := 0, slots := 0, locals := 0 } : Room) q [.ref a0, .int n1] (fun r q' => q = q' ∧ (r.toInt = 0 ∨ r.toInt = 1)) := by
  refine cm_z (cc := cX12_isSign) (mL := 2) (own := RX12) hN (by decide) rfl rfl (Nat.le_of_ble_eq_true rfl) (fun Z B hret => ?_)
  show WA l dC dI h L ({ frames := 0, cells := 0, slots := 0, locals := 0 } : Room) 2 Z q 0 [(0, .ref a0), (1, .int n1)] []
  refine wa_aload_n B dX12_isSign_0 rfl 0 rfl ?_
  refine wa_getI B (C := RX12) (T := TX12) (N := 51) iq_X12_isSign_X12 ha0 ka0 (by decide) rfl 8 (by decide) (by decide) (by decide +kernel) rfl (by decide) (v := (q.1 a0 8)) rfl dX12_isSign_1 ?_
  refine wa_iconst B 4 dX12_isSign_4 (by decide) ?_
  refine wa_icmp_ne B 20 dX12_isSign_5 (by decide) (fun (t_1 : ¬ (q.1 a0 8).toInt = 4) => ?_) (fun (t_1 : (q.1 a0 8).toInt = 4) => ?_)
  · refine wa_iconst B 0 dX12_isSign_20 (by decide) ?_
    exact hret _ _ _ _ dX12_isSign_21 (Or.inl rfl) ⟨rfl, (by have h9 : (0 : Int32).toInt = 0 := rfl; first | omega | (refine ⟨?_, ?_⟩ <;> omega) | trivial)⟩
  · refine wa_aload_n B dX12_isSign_8 rfl 0 rfl ?_
    refine wa_getI B (C := RX12) (T := TX12) (N := 51) iq_X12_isSign_X12 ha0 ka0 (by decide) rfl 9 (by decide) (by decide) (by decide +kernel) rfl (by decide) (v := (q.1 a0 9)) rfl dX12_isSign_9 ?_
    refine wa_iload_n B dX12_isSign_12 rfl 1 rfl ?_
    refine wa_icmp_ne B 20 dX12_isSign_13 (by decide) (fun (t_2 : ¬ (q.1 a0 9).toInt = n1.toInt) => ?_) (fun (t_2 : (q.1 a0 9).toInt = n1.toInt) => ?_)
    · refine wa_iconst B 0 dX12_isSign_20 (by decide) ?_
      exact hret _ _ _ _ dX12_isSign_21 (Or.inl rfl) ⟨rfl, (by have h9 : (0 : Int32).toInt = 0 := rfl; first | omega | (refine ⟨?_, ?_⟩ <;> omega) | trivial)⟩
    · refine wa_iconst B 1 dX12_isSign_16 (by decide) ?_
      refine wa_goto B 21 dX12_isSign_17 (by decide) ?_
      exact hret _ _ _ _ dX12_isSign_21 (Or.inr rfl) ⟨rfl, (by have h9 : (1 : Int32).toInt = 1 := rfl; first | omega | (refine ⟨?_, ?_⟩ <;> omega) | trivial)⟩
theorem iq_X12_isFactor_X12 : ∀ w ∈ wsX120, w ∈ wsX12_isFactor := fun _ h => List.mem_cons_of_mem _ (List.mem_append_right _ h)
set_option maxHeartbeats 4000000 in
set_option maxRecDepth 100000 in
theorem k_X12_isFactor (l : Launch) (dC : Nat → ClassId) (dI : Nat → Nat → Nat) (h : Sh) (L : List Nat) (hN : sx_nd L) (q : Sg) (hV : sx_V h L q) {a0 : Nat} (ha0 : a0 ∈ L) (ka0 : h.1 a0 = 12)    : CMi l dC dI h L yX12_isFactor wsX12_isFactor ({ frames := 0, cells := 0, slots := 0, locals := 0 } : Room) q [.ref a0] (fun r q' => q = q' ∧ (r.toInt = 1 ∧ ((q.1 a0 13).toInt = -1 ∧ 2 ≤ (q.1 a0 12).toInt ∧ (q.1 a0 12).toInt ≤ 60 ∨ ¬ (q.1 a0 13).toInt = -1 ∧ 2 ≤ 10 * (q.1 a0 12).toInt + (q.1 a0 13).toInt ∧ 10 * (q.1 a0 12).toInt + (q.1 a0 13).toInt ≤ 60) ∨ r.toInt = 0)) := by
  refine cm_z (cc := cX12_isFactor) (mL := 2) (own := RX12) hN (by decide) rfl rfl (Nat.le_of_ble_eq_true rfl) (fun Z B hret => ?_)
  show WA l dC dI h L ({ frames := 0, cells := 0, slots := 0, locals := 0 } : Room) 2 Z q 0 [(0, .ref a0)] []
  refine wa_aload_n B dX12_isFactor_0 rfl 0 rfl ?_
  refine wa_getI B (C := RX12) (T := TX12) (N := 51) iq_X12_isFactor_X12 ha0 ka0 (by decide) rfl 13 (by decide) (by decide) (by decide +kernel) rfl (by decide) (v := (q.1 a0 13)) rfl dX12_isFactor_1 ?_
  have g_1 : (-48 : Int) ≤ (q.1 a0 13).toInt ∧ (q.1 a0 13).toInt ≤ 207 := hV.int ha0 ka0 13
  refine wa_iconst B (-1) dX12_isFactor_4 (by decide) ?_
  refine wa_icmp_ne B 15 dX12_isFactor_5 (by decide) (fun (t_2 : ¬ (q.1 a0 13).toInt = (-1)) => ?_) (fun (t_2 : (q.1 a0 13).toInt = (-1)) => ?_)
  · refine wa_bipush B 10 dX12_isFactor_15 (by decide) ?_
    refine wa_aload_n B dX12_isFactor_17 rfl 0 rfl ?_
    refine wa_getI B (C := RX12) (T := TX12) (N := 51) iq_X12_isFactor_X12 ha0 ka0 (by decide) rfl 12 (by decide) (by decide) (by decide +kernel) rfl (by decide) (v := (q.1 a0 12)) rfl dX12_isFactor_18 ?_
    have g_3 : (-48 : Int) ≤ (q.1 a0 12).toInt ∧ (q.1 a0 12).toInt ≤ 207 := hV.int ha0 ka0 12
    refine wa_imul B dX12_isFactor_21 (fun v_4 ev_4 => ?_)
    refine wa_aload_n B dX12_isFactor_22 rfl 0 rfl ?_
    refine wa_getI B (C := RX12) (T := TX12) (N := 51) iq_X12_isFactor_X12 ha0 ka0 (by decide) rfl 13 (by decide) (by decide) (by decide +kernel) rfl (by decide) (v := (q.1 a0 13)) rfl dX12_isFactor_23 ?_
    refine wa_iadd B dX12_isFactor_26 (fun v_5 ev_5 => ?_)
    refine wa_istore_n B [(1, .int v_5), (0, .ref a0)] dX12_isFactor_27 rfl (by decide) rfl ?_
    have tv_4 : v_4.toInt = 10 * (q.1 a0 12).toInt := by have b1 := zx_bd (q.1 a0 12); rw [ev_4]; exact zx_mul (show (-2147483648 : Int) ≤ 10 * (q.1 a0 12).toInt by omega) (show 10 * (q.1 a0 12).toInt < (2147483648 : Int) by omega)
    have tv_5 : v_5.toInt = v_4.toInt + (q.1 a0 13).toInt := by have b0 := zx_bd v_4; have b1 := zx_bd (q.1 a0 13); rw [ev_5]; exact zx_add (show (-2147483648 : Int) ≤ v_4.toInt + (q.1 a0 13).toInt by omega) (show v_4.toInt + (q.1 a0 13).toInt < (2147483648 : Int) by omega)
    refine wa_iload_n B dX12_isFactor_28 rfl 0 rfl ?_
    refine wa_iconst B 2 dX12_isFactor_29 (by decide) ?_
    refine wa_icmp_lt B 43 dX12_isFactor_30 (by decide) (fun (t_6 : v_5.toInt < 2) => ?_) (fun (t_6 : ¬ v_5.toInt < 2) => ?_)
    · refine wa_iconst B 0 dX12_isFactor_43 (by decide) ?_
      exact hret _ _ _ _ dX12_isFactor_44 (Or.inl rfl) ⟨rfl, (by have h9 : (0 : Int32).toInt = 0 := rfl; first | omega | (refine ⟨?_, ?_⟩ <;> omega) | trivial)⟩
    · refine wa_iload_n B dX12_isFactor_33 rfl 0 rfl ?_
      refine wa_bipush B 60 dX12_isFactor_34 (by decide) ?_
      refine wa_icmp_gt B 43 dX12_isFactor_36 (by decide) (fun (t_7 : 60 < v_5.toInt) => ?_) (fun (t_7 : ¬ 60 < v_5.toInt) => ?_)
      · refine wa_iconst B 0 dX12_isFactor_43 (by decide) ?_
        exact hret _ _ _ _ dX12_isFactor_44 (Or.inl rfl) ⟨rfl, (by have h9 : (0 : Int32).toInt = 0 := rfl; first | omega | (refine ⟨?_, ?_⟩ <;> omega) | trivial)⟩
      · refine wa_iconst B 1 dX12_isFactor_39 (by decide) ?_
        refine wa_goto B 44 dX12_isFactor_40 (by decide) ?_
        exact hret _ _ _ _ dX12_isFactor_44 (Or.inr rfl) ⟨rfl, (by have h9 : (1 : Int32).toInt = 1 := rfl; first | omega | (refine ⟨?_, ?_⟩ <;> omega) | trivial)⟩
  · refine wa_aload_n B dX12_isFactor_8 rfl 0 rfl ?_
    refine wa_getI B (C := RX12) (T := TX12) (N := 51) iq_X12_isFactor_X12 ha0 ka0 (by decide) rfl 12 (by decide) (by decide) (by decide +kernel) rfl (by decide) (v := (q.1 a0 12)) rfl dX12_isFactor_9 ?_
    have g_8 : (-48 : Int) ≤ (q.1 a0 12).toInt ∧ (q.1 a0 12).toInt ≤ 207 := hV.int ha0 ka0 12
    refine wa_goto B 27 dX12_isFactor_12 (by decide) ?_
    refine wa_istore_n B [(1, .int (q.1 a0 12)), (0, .ref a0)] dX12_isFactor_27 rfl (by decide) rfl ?_
    refine wa_iload_n B dX12_isFactor_28 rfl 0 rfl ?_
    refine wa_iconst B 2 dX12_isFactor_29 (by decide) ?_
    refine wa_icmp_lt B 43 dX12_isFactor_30 (by decide) (fun (t_9 : (q.1 a0 12).toInt < 2) => ?_) (fun (t_9 : ¬ (q.1 a0 12).toInt < 2) => ?_)
    · refine wa_iconst B 0 dX12_isFactor_43 (by decide) ?_
      exact hret _ _ _ _ dX12_isFactor_44 (Or.inl rfl) ⟨rfl, (by have h9 : (0 : Int32).toInt = 0 := rfl; first | omega | (refine ⟨?_, ?_⟩ <;> omega) | trivial)⟩
    · refine wa_iload_n B dX12_isFactor_33 rfl 0 rfl ?_
      refine wa_bipush B 60 dX12_isFactor_34 (by decide) ?_
      refine wa_icmp_gt B 43 dX12_isFactor_36 (by decide) (fun (t_10 : 60 < (q.1 a0 12).toInt) => ?_) (fun (t_10 : ¬ 60 < (q.1 a0 12).toInt) => ?_)
      · refine wa_iconst B 0 dX12_isFactor_43 (by decide) ?_
        exact hret _ _ _ _ dX12_isFactor_44 (Or.inl rfl) ⟨rfl, (by have h9 : (0 : Int32).toInt = 0 := rfl; first | omega | (refine ⟨?_, ?_⟩ <;> omega) | trivial)⟩
      · refine wa_iconst B 1 dX12_isFactor_39 (by decide) ?_
        refine wa_goto B 44 dX12_isFactor_40 (by decide) ?_
        exact hret _ _ _ _ dX12_isFactor_44 (Or.inr rfl) ⟨rfl, (by have h9 : (1 : Int32).toInt = 1 := rfl; first | omega | (refine ⟨?_, ?_⟩ <;> omega) | trivial)⟩
set_option maxHeartbeats 4000000 in
set_option maxRecDepth 100000 in
theorem k_X12_isGood (l : Launch) (dC : Nat → ClassId) (dI : Nat → Nat → Nat) (h : Sh) (L : List Nat) (hN : sx_nd L) (q : Sg) (hV : sx_V h L q) {a0 : Nat} (ha0 : a0 ∈ L) (ka0 : h.1 a0 = 12) (n1 : Int32) (n2 : Int32) (n3 : Int32)    : CMi l dC dI h L yX12_isGood wsX12_isGood ({ frames := 0, cells := 0, slots := 0, locals := 0 } : Room) q [.ref a0, .int n1, .int n2, .int n3] (fun r q' => q = q' ∧ (r.toInt = 0 ∨ r.toInt = 1)) := by
  refine cm_z (cc := cX12_isGood) (mL := 5) (own := RX12) hN (by decide) rfl rfl (Nat.le_of_ble_eq_true rfl) (fun Z B hret => ?_)
  show WA l dC dI h L ({ frames := 0, cells := 0, slots := 0, locals := 0 } : Room) 5 Z q 0 [(0, .ref a0), (1, .int n1), (2, .int n2), (3, .int n3)] []
  refine wa_iload_n B dX12_isGood_0 rfl 2 rfl ?_
  refine wa_iconst B (-1) dX12_isGood_1 (by decide) ?_
  refine wa_icmp_ne B 9 dX12_isGood_2 (by decide) (fun (t_1 : ¬ n2.toInt = (-1)) => ?_) (fun (t_1 : n2.toInt = (-1)) => ?_)
  · refine wa_bipush B 10 dX12_isGood_9 (by decide) ?_
    refine wa_iload_n B dX12_isGood_11 rfl 1 rfl ?_
    refine wa_imul B dX12_isGood_12 (fun v_2 ev_2 => ?_)
    refine wa_iload_n B dX12_isGood_13 rfl 2 rfl ?_
    refine wa_iadd B dX12_isGood_14 (fun v_3 ev_3 => ?_)
    refine wa_istore B [(4, .int v_3), (0, .ref a0), (1, .int n1), (2, .int n2), (3, .int n3)] dX12_isGood_15 (by decide) rfl ?_
    refine wa_iload_n B dX12_isGood_17 rfl 3 rfl ?_
    refine wa_iconst B (-1) dX12_isGood_18 (by decide) ?_
    refine wa_icmp_eq B 26 dX12_isGood_19 (by decide) (fun (t_4 : n2.toInt = (-1)) => ?_) (fun (t_4 : ¬ n2.toInt = (-1)) => ?_)
    · refine wa_iload B dX12_isGood_26 0 rfl ?_
      refine wa_iconst B 1 dX12_isGood_28 (by decide) ?_
      refine wa_icmp_lt B 42 dX12_isGood_29 (by decide) (fun (t_5 : v_3.toInt < 1) => ?_) (fun (t_5 : ¬ v_3.toInt < 1) => ?_)
      · refine wa_iconst B 0 dX12_isGood_42 (by decide) ?_
        exact hret _ _ _ _ dX12_isGood_43 (Or.inl rfl) ⟨rfl, (by have h9 : (0 : Int32).toInt = 0 := rfl; first | omega | (refine ⟨?_, ?_⟩ <;> omega) | trivial)⟩
      · refine wa_iload B dX12_isGood_32 0 rfl ?_
        refine wa_iload_n B dX12_isGood_34 rfl 4 rfl ?_
        refine wa_icmp_gt B 42 dX12_isGood_35 (by decide) (fun (t_6 : n3.toInt < v_3.toInt) => ?_) (fun (t_6 : ¬ n3.toInt < v_3.toInt) => ?_)
        · refine wa_iconst B 0 dX12_isGood_42 (by decide) ?_
          exact hret _ _ _ _ dX12_isGood_43 (Or.inl rfl) ⟨rfl, (by have h9 : (0 : Int32).toInt = 0 := rfl; first | omega | (refine ⟨?_, ?_⟩ <;> omega) | trivial)⟩
        · refine wa_iconst B 1 dX12_isGood_38 (by decide) ?_
          refine wa_goto B 43 dX12_isGood_39 (by decide) ?_
          exact hret _ _ _ _ dX12_isGood_43 (Or.inr rfl) ⟨rfl, (by have h9 : (1 : Int32).toInt = 1 := rfl; first | omega | (refine ⟨?_, ?_⟩ <;> omega) | trivial)⟩
    · refine wa_iload_n B dX12_isGood_22 rfl 2 rfl ?_
      refine wa_if_le B 42 dX12_isGood_23 (by decide) (fun (t_7 : n1.toInt ≤ 0) => ?_) (fun (t_7 : ¬ n1.toInt ≤ 0) => ?_)
      · refine wa_iconst B 0 dX12_isGood_42 (by decide) ?_
        exact hret _ _ _ _ dX12_isGood_43 (Or.inl rfl) ⟨rfl, (by have h9 : (0 : Int32).toInt = 0 := rfl; first | omega | (refine ⟨?_, ?_⟩ <;> omega) | trivial)⟩
      · refine wa_iload B dX12_isGood_26 0 rfl ?_
        refine wa_iconst B 1 dX12_isGood_28 (by decide) ?_
        refine wa_icmp_lt B 42 dX12_isGood_29 (by decide) (fun (t_8 : v_3.toInt < 1) => ?_) (fun (t_8 : ¬ v_3.toInt < 1) => ?_)
        · refine wa_iconst B 0 dX12_isGood_42 (by decide) ?_
          exact hret _ _ _ _ dX12_isGood_43 (Or.inl rfl) ⟨rfl, (by have h9 : (0 : Int32).toInt = 0 := rfl; first | omega | (refine ⟨?_, ?_⟩ <;> omega) | trivial)⟩
        · refine wa_iload B dX12_isGood_32 0 rfl ?_
          refine wa_iload_n B dX12_isGood_34 rfl 4 rfl ?_
          refine wa_icmp_gt B 42 dX12_isGood_35 (by decide) (fun (t_9 : n3.toInt < v_3.toInt) => ?_) (fun (t_9 : ¬ n3.toInt < v_3.toInt) => ?_)
          · refine wa_iconst B 0 dX12_isGood_42 (by decide) ?_
            exact hret _ _ _ _ dX12_isGood_43 (Or.inl rfl) ⟨rfl, (by have h9 : (0 : Int32).toInt = 0 := rfl; first | omega | (refine ⟨?_, ?_⟩ <;> omega) | trivial)⟩
          · refine wa_iconst B 1 dX12_isGood_38 (by decide) ?_
            refine wa_goto B 43 dX12_isGood_39 (by decide) ?_
            exact hret _ _ _ _ dX12_isGood_43 (Or.inr rfl) ⟨rfl, (by have h9 : (1 : Int32).toInt = 1 := rfl; first | omega | (refine ⟨?_, ?_⟩ <;> omega) | trivial)⟩
  · refine wa_iload_n B dX12_isGood_5 rfl 1 rfl ?_
    refine wa_goto B 15 dX12_isGood_6 (by decide) ?_
    refine wa_istore B [(4, .int n1), (0, .ref a0), (1, .int n1), (2, .int n2), (3, .int n3)] dX12_isGood_15 (by decide) rfl ?_
    refine wa_iload_n B dX12_isGood_17 rfl 3 rfl ?_
    refine wa_iconst B (-1) dX12_isGood_18 (by decide) ?_
    refine wa_icmp_eq B 26 dX12_isGood_19 (by decide) (fun (t_10 : n2.toInt = (-1)) => ?_) (fun (t_10 : ¬ n2.toInt = (-1)) => ?_)
    · refine wa_iload B dX12_isGood_26 0 rfl ?_
      refine wa_iconst B 1 dX12_isGood_28 (by decide) ?_
      refine wa_icmp_lt B 42 dX12_isGood_29 (by decide) (fun (t_11 : n1.toInt < 1) => ?_) (fun (t_11 : ¬ n1.toInt < 1) => ?_)
      · refine wa_iconst B 0 dX12_isGood_42 (by decide) ?_
        exact hret _ _ _ _ dX12_isGood_43 (Or.inl rfl) ⟨rfl, (by have h9 : (0 : Int32).toInt = 0 := rfl; first | omega | (refine ⟨?_, ?_⟩ <;> omega) | trivial)⟩
      · refine wa_iload B dX12_isGood_32 0 rfl ?_
        refine wa_iload_n B dX12_isGood_34 rfl 4 rfl ?_
        refine wa_icmp_gt B 42 dX12_isGood_35 (by decide) (fun (t_12 : n3.toInt < n1.toInt) => ?_) (fun (t_12 : ¬ n3.toInt < n1.toInt) => ?_)
        · refine wa_iconst B 0 dX12_isGood_42 (by decide) ?_
          exact hret _ _ _ _ dX12_isGood_43 (Or.inl rfl) ⟨rfl, (by have h9 : (0 : Int32).toInt = 0 := rfl; first | omega | (refine ⟨?_, ?_⟩ <;> omega) | trivial)⟩
        · refine wa_iconst B 1 dX12_isGood_38 (by decide) ?_
          refine wa_goto B 43 dX12_isGood_39 (by decide) ?_
          exact hret _ _ _ _ dX12_isGood_43 (Or.inr rfl) ⟨rfl, (by have h9 : (1 : Int32).toInt = 1 := rfl; first | omega | (refine ⟨?_, ?_⟩ <;> omega) | trivial)⟩
    · refine wa_iload_n B dX12_isGood_22 rfl 2 rfl ?_
      refine wa_if_le B 42 dX12_isGood_23 (by decide) (fun (t_13 : n1.toInt ≤ 0) => ?_) (fun (t_13 : ¬ n1.toInt ≤ 0) => ?_)
      · refine wa_iconst B 0 dX12_isGood_42 (by decide) ?_
        exact hret _ _ _ _ dX12_isGood_43 (Or.inl rfl) ⟨rfl, (by have h9 : (0 : Int32).toInt = 0 := rfl; first | omega | (refine ⟨?_, ?_⟩ <;> omega) | trivial)⟩
      · refine wa_iload B dX12_isGood_26 0 rfl ?_
        refine wa_iconst B 1 dX12_isGood_28 (by decide) ?_
        refine wa_icmp_lt B 42 dX12_isGood_29 (by decide) (fun (t_14 : n1.toInt < 1) => ?_) (fun (t_14 : ¬ n1.toInt < 1) => ?_)
        · refine wa_iconst B 0 dX12_isGood_42 (by decide) ?_
          exact hret _ _ _ _ dX12_isGood_43 (Or.inl rfl) ⟨rfl, (by have h9 : (0 : Int32).toInt = 0 := rfl; first | omega | (refine ⟨?_, ?_⟩ <;> omega) | trivial)⟩
        · refine wa_iload B dX12_isGood_32 0 rfl ?_
          refine wa_iload_n B dX12_isGood_34 rfl 4 rfl ?_
          refine wa_icmp_gt B 42 dX12_isGood_35 (by decide) (fun (t_15 : n3.toInt < n1.toInt) => ?_) (fun (t_15 : ¬ n3.toInt < n1.toInt) => ?_)
          · refine wa_iconst B 0 dX12_isGood_42 (by decide) ?_
            exact hret _ _ _ _ dX12_isGood_43 (Or.inl rfl) ⟨rfl, (by have h9 : (0 : Int32).toInt = 0 := rfl; first | omega | (refine ⟨?_, ?_⟩ <;> omega) | trivial)⟩
          · refine wa_iconst B 1 dX12_isGood_38 (by decide) ?_
            refine wa_goto B 43 dX12_isGood_39 (by decide) ?_
            exact hret _ _ _ _ dX12_isGood_43 (Or.inr rfl) ⟨rfl, (by have h9 : (1 : Int32).toInt = 1 := rfl; first | omega | (refine ⟨?_, ?_⟩ <;> omega) | trivial)⟩
theorem iq_X12_isTablet_X12 : ∀ w ∈ wsX120, w ∈ wsX12_isTablet := fun _ h => List.mem_cons_of_mem _ (List.mem_append_right _ h)
set_option maxHeartbeats 4000000 in
set_option maxRecDepth 100000 in
theorem k_X12_isTablet (l : Launch) (dC : Nat → ClassId) (dI : Nat → Nat → Nat) (h : Sh) (L : List Nat) (hN : sx_nd L) (q : Sg) (hV : sx_V h L q) {a0 : Nat} (ha0 : a0 ∈ L) (ka0 : h.1 a0 = 12) (n1 : Int32)    : CMi l dC dI h L yX12_isTablet wsX12_isTablet ({ frames := 0, cells := 0, slots := 0, locals := 0 } : Room) q [.ref a0, .int n1] (fun r q' => q = q' ∧ (r.toInt = 1 ∧ 0 ≤ n1.toInt ∧ n1.toInt < 8 ∨ r.toInt = 0)) := by
  refine cm_z (cc := cX12_isTablet) (mL := 2) (own := RX12) hN (by decide) rfl rfl (Nat.le_of_ble_eq_true rfl) (fun Z B hret => ?_)
  show WA l dC dI h L ({ frames := 0, cells := 0, slots := 0, locals := 0 } : Room) 2 Z q 0 [(0, .ref a0), (1, .int n1)] []
  refine wa_iload_n B dX12_isTablet_0 rfl 1 rfl ?_
  refine wa_if_lt B 16 dX12_isTablet_1 (by decide) (fun (t_1 : n1.toInt < 0) => ?_) (fun (t_1 : ¬ n1.toInt < 0) => ?_)
  · refine wa_iconst B 0 dX12_isTablet_16 (by decide) ?_
    exact hret _ _ _ _ dX12_isTablet_17 (Or.inl rfl) ⟨rfl, (by have h9 : (0 : Int32).toInt = 0 := rfl; first | omega | (refine ⟨?_, ?_⟩ <;> omega) | trivial)⟩
  · refine wa_iload_n B dX12_isTablet_4 rfl 1 rfl ?_
    refine wa_aload_n B dX12_isTablet_5 rfl 0 rfl ?_
    refine wa_getI B (C := RX12) (T := TX12) (N := 51) iq_X12_isTablet_X12 ha0 ka0 (by decide) rfl 31 (by decide) (by decide) (by decide +kernel) rfl (by decide) (v := (q.1 a0 31)) rfl dX12_isTablet_6 ?_
    have g_2 : (0 : Int) ≤ (q.1 a0 31).toInt ∧ (q.1 a0 31).toInt ≤ 8 := hV.int ha0 ka0 31
    refine wa_icmp_ge B 16 dX12_isTablet_9 (by decide) (fun (t_3 : (q.1 a0 31).toInt ≤ n1.toInt) => ?_) (fun (t_3 : ¬ (q.1 a0 31).toInt ≤ n1.toInt) => ?_)
    · refine wa_iconst B 0 dX12_isTablet_16 (by decide) ?_
      exact hret _ _ _ _ dX12_isTablet_17 (Or.inl rfl) ⟨rfl, (by have h9 : (0 : Int32).toInt = 0 := rfl; first | omega | (refine ⟨?_, ?_⟩ <;> omega) | trivial)⟩
    · refine wa_iconst B 1 dX12_isTablet_12 (by decide) ?_
      refine wa_goto B 17 dX12_isTablet_13 (by decide) ?_
      exact hret _ _ _ _ dX12_isTablet_17 (Or.inr rfl) ⟨rfl, (by have h9 : (1 : Int32).toInt = 1 := rfl; first | omega | (refine ⟨?_, ?_⟩ <;> omega) | trivial)⟩
theorem iq_X12_isLine_X12 : ∀ w ∈ wsX120, w ∈ wsX12_isLine := fun _ h => List.mem_cons_of_mem _ (List.mem_append_right _ h)
set_option maxHeartbeats 4000000 in
set_option maxRecDepth 100000 in
theorem k_X12_isLine (l : Launch) (dC : Nat → ClassId) (dI : Nat → Nat → Nat) (h : Sh) (L : List Nat) (hN : sx_nd L) (q : Sg) (hV : sx_V h L q) {a0 : Nat} (ha0 : a0 ∈ L) (ka0 : h.1 a0 = 12) (n1 : Int32) (n2 : Int32)    : CMi l dC dI h L yX12_isLine wsX12_isLine ({ frames := 1, cells := 0, slots := 0, locals := 21 } : Room) q [.ref a0, .int n1, .int n2] (fun r q' => q = q' ∧ (r.toInt = 1 ∧ 0 ≤ n1.toInt ∧ n1.toInt < 8 ∧ 0 ≤ n2.toInt ∧ n2.toInt < 12 ∨ r.toInt = 0)) := by
  refine cm_z (cc := cX12_isLine) (mL := 3) (own := RX12) hN (by decide) rfl rfl (Nat.le_of_ble_eq_true rfl) (fun Z B hret => ?_)
  show WA l dC dI h L ({ frames := 1, cells := 0, slots := 0, locals := 21 } : Room) 3 Z q 0 [(0, .ref a0), (1, .int n1), (2, .int n2)] []
  refine wa_aload_n B dX12_isLine_0 rfl 0 rfl ?_
  refine wa_iload_n B dX12_isLine_1 rfl 1 rfl ?_
  refine wa_callVi B (x := (RX12, TX12, 51)) (As := [.int n1]) (rest := []) (k_X12_isTablet l dC dI h L hN q hV (a0 := a0) ha0 ka0 n1  ) (cwV 1 B.1.2.2.2.2 gX12_isLine_X12_isTablet rfl rfl rfl (by decide +kernel) ⟨Nat.le_of_ble_eq_true rfl, Nat.le_of_ble_eq_true rfl⟩) ha0 ka0 (by decide) rfl rfl rfl (Nat.le_of_ble_eq_true rfl) dX12_isLine_2 (fun r_2 q_1 w_3 => ?_)
  obtain ⟨ew_3, hw_3⟩ := w_3
  subst ew_3
  refine wa_if_eq B 26 dX12_isLine_5 (by decide) (fun (t_4 : r_2.toInt = 0) => ?_) (fun (t_4 : ¬ r_2.toInt = 0) => ?_)
  · refine wa_iconst B 0 dX12_isLine_26 (by decide) ?_
    exact hret _ _ _ _ dX12_isLine_27 (Or.inl rfl) ⟨rfl, (by have h9 : (0 : Int32).toInt = 0 := rfl; first | omega | (refine ⟨?_, ?_⟩ <;> omega) | trivial)⟩
  · refine wa_iload_n B dX12_isLine_8 rfl 2 rfl ?_
    refine wa_if_lt B 26 dX12_isLine_9 (by decide) (fun (t_5 : n2.toInt < 0) => ?_) (fun (t_5 : ¬ n2.toInt < 0) => ?_)
    · refine wa_iconst B 0 dX12_isLine_26 (by decide) ?_
      exact hret _ _ _ _ dX12_isLine_27 (Or.inl rfl) ⟨rfl, (by have h9 : (0 : Int32).toInt = 0 := rfl; first | omega | (refine ⟨?_, ?_⟩ <;> omega) | trivial)⟩
    · refine wa_iload_n B dX12_isLine_12 rfl 2 rfl ?_
      refine wa_aload_n B dX12_isLine_13 rfl 0 rfl ?_
      obtain ⟨a_6, ea_6, ha_6, ka_6, la_6⟩ := hV.refn (n := 9) (t := 133) ha0 ka0 23 rfl (by decide) rfl (by decide)
      refine wa_getR B (C := RX12) (T := TX12) (N := 51) iq_X12_isLine_X12 ha0 ka0 (by decide) rfl 23 (by decide) (by decide) (by decide +kernel) rfl (fun _ _ _ => rfl) (v := a_6) ea_6 dX12_isLine_14 ?_
      refine wa_iload_n B dX12_isLine_17 rfl 1 rfl ?_
      refine wa_iaload B ha_6 ka_6 (by decide) (by decide) (show 0 ≤ n1.toInt by omega) (show n1.toInt < (h.2.1 a_6 : Int) by omega) (v := (q.2.2.2.1 a_6 (n1 : Int32).toNatClampNeg)) rfl dX12_isLine_18 ?_
      have g_7 : (0 : Int) ≤ ((q.2.2.2.1 a_6 (n1 : Int32).toNatClampNeg)).toInt ∧ ((q.2.2.2.1 a_6 (n1 : Int32).toNatClampNeg)).toInt ≤ 12 := hV.cnt ha_6 ka_6 _
      refine wa_icmp_ge B 26 dX12_isLine_19 (by decide) (fun (t_8 : ((q.2.2.2.1 a_6 (n1 : Int32).toNatClampNeg)).toInt ≤ n2.toInt) => ?_) (fun (t_8 : ¬ ((q.2.2.2.1 a_6 (n1 : Int32).toNatClampNeg)).toInt ≤ n2.toInt) => ?_)
      · refine wa_iconst B 0 dX12_isLine_26 (by decide) ?_
        exact hret _ _ _ _ dX12_isLine_27 (Or.inl rfl) ⟨rfl, (by have h9 : (0 : Int32).toInt = 0 := rfl; first | omega | (refine ⟨?_, ?_⟩ <;> omega) | trivial)⟩
      · refine wa_iconst B 1 dX12_isLine_22 (by decide) ?_
        refine wa_goto B 27 dX12_isLine_23 (by decide) ?_
        exact hret _ _ _ _ dX12_isLine_27 (Or.inr rfl) ⟨rfl, (by have h9 : (1 : Int32).toInt = 1 := rfl; first | omega | (refine ⟨?_, ?_⟩ <;> omega) | trivial)⟩
set_option maxHeartbeats 4000000 in
set_option maxRecDepth 100000 in
theorem k_X12_isEdge (l : Launch) (dC : Nat → ClassId) (dI : Nat → Nat → Nat) (h : Sh) (L : List Nat) (hN : sx_nd L) (q : Sg) (hV : sx_V h L q) (n1 : Int32)    : CMi l dC dI h L yX12_isEdge wsX12_isEdge ({ frames := 0, cells := 0, slots := 0, locals := 0 } : Room) q [.int n1] (fun r q' => q = q' ∧ (r.toInt = 1 ∧ 0 ≤ n1.toInt ∧ n1.toInt ≤ 99999999 ∨ r.toInt = 0 ∧ ¬ (0 ≤ n1.toInt ∧ n1.toInt ≤ 99999999))) := by
  refine cm_z (cc := cX12_isEdge) (mL := 1) (own := RX12) hN (by decide) rfl rfl (Nat.le_of_ble_eq_true rfl) (fun Z B hret => ?_)
  show WA l dC dI h L ({ frames := 0, cells := 0, slots := 0, locals := 0 } : Room) 1 Z q 0 [(0, .int n1)] []
  refine wa_iload_n B dX12_isEdge_0 rfl 0 rfl ?_
  refine wa_if_lt B 15 dX12_isEdge_1 (by decide) (fun (t_1 : n1.toInt < 0) => ?_) (fun (t_1 : ¬ n1.toInt < 0) => ?_)
  · refine wa_iconst B 0 dX12_isEdge_15 (by decide) ?_
    exact hret _ _ _ _ dX12_isEdge_16 (Or.inl rfl) ⟨rfl, (by have h9 : (0 : Int32).toInt = 0 := rfl; first | omega | (refine ⟨?_, ?_⟩ <;> omega) | trivial)⟩
  · refine wa_iload_n B dX12_isEdge_4 rfl 0 rfl ?_
    refine wa_ldcw B 99999999 (by decide +kernel) dX12_isEdge_5 ?_
    refine wa_icmp_gt B 15 dX12_isEdge_8 (by decide) (fun (t_2 : 99999999 < n1.toInt) => ?_) (fun (t_2 : ¬ 99999999 < n1.toInt) => ?_)
    · refine wa_iconst B 0 dX12_isEdge_15 (by decide) ?_
      exact hret _ _ _ _ dX12_isEdge_16 (Or.inl rfl) ⟨rfl, (by have h9 : (0 : Int32).toInt = 0 := rfl; first | omega | (refine ⟨?_, ?_⟩ <;> omega) | trivial)⟩
    · refine wa_iconst B 1 dX12_isEdge_11 (by decide) ?_
      refine wa_goto B 16 dX12_isEdge_12 (by decide) ?_
      exact hret _ _ _ _ dX12_isEdge_16 (Or.inr rfl) ⟨rfl, (by have h9 : (1 : Int32).toInt = 1 := rfl; first | omega | (refine ⟨?_, ?_⟩ <;> omega) | trivial)⟩
theorem iq_X12_isFragment_X12 : ∀ w ∈ wsX120, w ∈ wsX12_isFragment := fun _ h => List.mem_cons_of_mem _ (List.mem_append_right _ h)
set_option maxHeartbeats 4000000 in
set_option maxRecDepth 100000 in
theorem k_X12_isFragment (l : Launch) (dC : Nat → ClassId) (dI : Nat → Nat → Nat) (h : Sh) (L : List Nat) (hN : sx_nd L) (q : Sg) (hV : sx_V h L q) {a0 : Nat} (ha0 : a0 ∈ L) (ka0 : h.1 a0 = 12) (n1 : Int32)    : CMi l dC dI h L yX12_isFragment wsX12_isFragment ({ frames := 0, cells := 0, slots := 0, locals := 0 } : Room) q [.ref a0, .int n1] (fun r q' => q = q' ∧ (r.toInt = 1 ∧ 0 ≤ n1.toInt ∧ n1.toInt < (q.1 a0 45).toInt ∧ n1.toInt < 12 ∨ r.toInt = 0)) := by
  refine cm_z (cc := cX12_isFragment) (mL := 2) (own := RX12) hN (by decide) rfl rfl (Nat.le_of_ble_eq_true rfl) (fun Z B hret => ?_)
  show WA l dC dI h L ({ frames := 0, cells := 0, slots := 0, locals := 0 } : Room) 2 Z q 0 [(0, .ref a0), (1, .int n1)] []
  refine wa_iload_n B dX12_isFragment_0 rfl 1 rfl ?_
  refine wa_if_lt B 16 dX12_isFragment_1 (by decide) (fun (t_1 : n1.toInt < 0) => ?_) (fun (t_1 : ¬ n1.toInt < 0) => ?_)
  · refine wa_iconst B 0 dX12_isFragment_16 (by decide) ?_
    exact hret _ _ _ _ dX12_isFragment_17 (Or.inl rfl) ⟨rfl, (by have h9 : (0 : Int32).toInt = 0 := rfl; first | omega | (refine ⟨?_, ?_⟩ <;> omega) | trivial)⟩
  · refine wa_iload_n B dX12_isFragment_4 rfl 1 rfl ?_
    refine wa_aload_n B dX12_isFragment_5 rfl 0 rfl ?_
    refine wa_getI B (C := RX12) (T := TX12) (N := 51) iq_X12_isFragment_X12 ha0 ka0 (by decide) rfl 45 (by decide) (by decide) (by decide +kernel) rfl (by decide) (v := (q.1 a0 45)) rfl dX12_isFragment_6 ?_
    have g_2 : (0 : Int) ≤ (q.1 a0 45).toInt ∧ (q.1 a0 45).toInt ≤ 12 := hV.int ha0 ka0 45
    refine wa_icmp_ge B 16 dX12_isFragment_9 (by decide) (fun (t_3 : (q.1 a0 45).toInt ≤ n1.toInt) => ?_) (fun (t_3 : ¬ (q.1 a0 45).toInt ≤ n1.toInt) => ?_)
    · refine wa_iconst B 0 dX12_isFragment_16 (by decide) ?_
      exact hret _ _ _ _ dX12_isFragment_17 (Or.inl rfl) ⟨rfl, (by have h9 : (0 : Int32).toInt = 0 := rfl; first | omega | (refine ⟨?_, ?_⟩ <;> omega) | trivial)⟩
    · refine wa_iconst B 1 dX12_isFragment_12 (by decide) ?_
      refine wa_goto B 17 dX12_isFragment_13 (by decide) ?_
      exact hret _ _ _ _ dX12_isFragment_17 (Or.inr rfl) ⟨rfl, (by have h9 : (1 : Int32).toInt = 1 := rfl; first | omega | (refine ⟨?_, ?_⟩ <;> omega) | trivial)⟩
theorem iq_X12_forget_X12 : ∀ w ∈ wsX120, w ∈ wsX12_forget := fun _ h => List.mem_cons_of_mem _ (List.mem_append_right _ h)
set_option maxHeartbeats 4000000 in
set_option maxRecDepth 100000 in
theorem k_X12_forget (l : Launch) (dC : Nat → ClassId) (dI : Nat → Nat → Nat) (h : Sh) (L : List Nat) (hN : sx_nd L) (q : Sg) (hV : sx_V h L q) {a0 : Nat} (ha0 : a0 ∈ L) (ka0 : h.1 a0 = 12)    : CMv l dC dI h L yX12_forget wsX12_forget ({ frames := 0, cells := 0, slots := 0, locals := 0 } : Room) q [.ref a0] (fun q' => sx_V h L q' ∧ sx_fr h L (fun a => h.1 a = 12) q q' ∧ sx_kf a0 [49, 50] q q') := by
  refine cm_v (cc := cX12_forget) (mL := 1) (own := RX12) hN (by decide) rfl rfl (Nat.le_of_ble_eq_true rfl) (fun Z B hret => ?_)
  have hF : sx_fr h L (fun a => h.1 a = 12) q q := sx_fr.rf
  have hK : sx_kf a0 [49, 50] q q := sx_kf.rf
  show WA l dC dI h L ({ frames := 0, cells := 0, slots := 0, locals := 0 } : Room) 1 Z q 0 [(0, .ref a0)] []
  refine wa_aload_n B dX12_forget_0 rfl 0 rfl ?_
  refine wa_iconst B 0 dX12_forget_1 (by decide) ?_
  refine wa_putI B (C := RX12) (T := TX12) (N := 51) iq_X12_forget_X12 ha0 ka0 (by decide) rfl 50 (by decide) (by decide) (by decide +kernel) rfl (by decide) (v := 0) (ty := .boolean) tyX12 tyX12_ok nmX12 rfl (by decide +kernel) rfl rfl dX12_forget_2 (fun q_1 eq_1 => ?_)
  have hV_q_1 : sx_V h L q_1 := by rw [eq_1]; exact hV.pI ka0 trivial
  have hF_q_1 : sx_fr h L (fun a => h.1 a = 12) q q_1 := hF.tr (by rw [eq_1]; exact sx_fr.pI (show h.1 a0 = 12 from by omega))
  have z_2 : q_1.1 a0 50 = 0 := by rw [eq_1]; exact sg_pI_e
  have hK_q_1 : sx_kf a0 [49, 50] q q_1 := hK.tr (by rw [eq_1]; exact sx_kf.pI (by decide))
  refine wa_aload_n B dX12_forget_5 rfl 0 rfl ?_
  refine wa_iconst B 0 dX12_forget_6 (by decide) ?_
  refine wa_putI B (C := RX12) (T := TX12) (N := 51) iq_X12_forget_X12 ha0 ka0 (by decide) rfl 49 (by decide) (by decide) (by decide +kernel) rfl (by decide) (v := 0) (ty := .int) tyX12 tyX12_ok nmX12 rfl (by decide +kernel) rfl rfl dX12_forget_7 (fun q_3 eq_3 => ?_)
  have hV_q_3 : sx_V h L q_3 := by rw [eq_3]; exact hV_q_1.pI ka0 trivial
  have hF_q_3 : sx_fr h L (fun a => h.1 a = 12) q q_3 := hF_q_1.tr (by rw [eq_3]; exact sx_fr.pI (show h.1 a0 = 12 from by omega))
  have z_4 : q_3.1 a0 49 = 0 := by rw [eq_3]; exact sg_pI_e
  have hK_q_3 : sx_kf a0 [49, 50] q q_3 := hK_q_1.tr (by rw [eq_3]; exact sx_kf.pI (by decide))
  exact hret _ _ _ dX12_forget_10 ⟨hV_q_3, hF_q_3, hK_q_3⟩
theorem iq_X12_fault_X12 : ∀ w ∈ wsX120, w ∈ wsX12_fault := fun _ h => List.mem_cons_of_mem _ (List.mem_append_right _ h)
set_option maxHeartbeats 4000000 in
set_option maxRecDepth 100000 in
theorem k_X12_fault (l : Launch) (dC : Nat → ClassId) (dI : Nat → Nat → Nat) (h : Sh) (L : List Nat) (hN : sx_nd L) (q : Sg) (hV : sx_V h L q) {a0 : Nat} (ha0 : a0 ∈ L) (ka0 : h.1 a0 = 12)    : CMi l dC dI h L yX12_fault wsX12_fault ({ frames := 0, cells := 0, slots := 0, locals := 0 } : Room) q [.ref a0] (fun r q' => sx_V h L q' ∧ sx_fr h L (fun a => h.1 a = 12) q q' ∧ sx_kf a0 [0] q q') := by
  refine cm_i (cc := cX12_fault) (mL := 1) (own := RX12) hN (by decide) rfl rfl (Nat.le_of_ble_eq_true rfl) (fun Z B hret => ?_)
  have hF : sx_fr h L (fun a => h.1 a = 12) q q := sx_fr.rf
  have hK : sx_kf a0 [0] q q := sx_kf.rf
  show WA l dC dI h L ({ frames := 0, cells := 0, slots := 0, locals := 0 } : Room) 1 Z q 0 [(0, .ref a0)] []
  refine wa_aload_n B dX12_fault_0 rfl 0 rfl ?_
  refine wa_iconst B 0 dX12_fault_1 (by decide) ?_
  refine wa_putI B (C := RX12) (T := TX12) (N := 51) iq_X12_fault_X12 ha0 ka0 (by decide) rfl 0 (by decide) (by decide) (by decide +kernel) rfl (by decide) (v := 0) (ty := .int) tyX12 tyX12_ok nmX12 rfl (by decide +kernel) rfl rfl dX12_fault_2 (fun q_1 eq_1 => ?_)
  have hV_q_1 : sx_V h L q_1 := by rw [eq_1]; exact hV.pI ka0 trivial
  have hF_q_1 : sx_fr h L (fun a => h.1 a = 12) q q_1 := hF.tr (by rw [eq_1]; exact sx_fr.pI (show h.1 a0 = 12 from by omega))
  have z_2 : q_1.1 a0 0 = 0 := by rw [eq_1]; exact sg_pI_e
  have hK_q_1 : sx_kf a0 [0] q q_1 := hK.tr (by rw [eq_1]; exact sx_kf.pI (by decide))
  refine wa_aload_n B dX12_fault_5 rfl 0 rfl ?_
  refine wa_getI B (C := RX12) (T := TX12) (N := 51) iq_X12_fault_X12 ha0 ka0 (by decide) rfl 14 (by decide) (by decide) (by decide +kernel) rfl (by decide) (v := (q_1.1 a0 14)) rfl dX12_fault_6 ?_
  exact hret _ _ _ _ dX12_fault_9 ⟨hV_q_1, hF_q_1, hK_q_1⟩
theorem iq_X12_count_X12 : ∀ w ∈ wsX120, w ∈ wsX12_count := fun _ h => List.mem_cons_of_mem _ (List.mem_append_right _ h)
set_option maxHeartbeats 4000000 in
set_option maxRecDepth 100000 in
theorem k_X12_count (l : Launch) (dC : Nat → ClassId) (dI : Nat → Nat → Nat) (h : Sh) (L : List Nat) (hN : sx_nd L) (q : Sg) (hV : sx_V h L q) {a0 : Nat} (ha0 : a0 ∈ L) (ka0 : h.1 a0 = 12) (n1 : Int32)    : CMi l dC dI h L yX12_count wsX12_count ({ frames := 0, cells := 0, slots := 0, locals := 0 } : Room) q [.ref a0, .int n1] (fun r q' => sx_V h L q' ∧ sx_fr h L (fun a => h.1 a = 12) q q' ∧ sx_kf a0 [0] q q') := by
  refine cm_i (cc := cX12_count) (mL := 2) (own := RX12) hN (by decide) rfl rfl (Nat.le_of_ble_eq_true rfl) (fun Z B hret => ?_)
  have hF : sx_fr h L (fun a => h.1 a = 12) q q := sx_fr.rf
  have hK : sx_kf a0 [0] q q := sx_kf.rf
  show WA l dC dI h L ({ frames := 0, cells := 0, slots := 0, locals := 0 } : Room) 2 Z q 0 [(0, .ref a0), (1, .int n1)] []
  refine wa_aload_n B dX12_count_0 rfl 0 rfl ?_
  refine wa_iconst B 0 dX12_count_1 (by decide) ?_
  refine wa_putI B (C := RX12) (T := TX12) (N := 51) iq_X12_count_X12 ha0 ka0 (by decide) rfl 0 (by decide) (by decide) (by decide +kernel) rfl (by decide) (v := 0) (ty := .int) tyX12 tyX12_ok nmX12 rfl (by decide +kernel) rfl rfl dX12_count_2 (fun q_1 eq_1 => ?_)
  have hV_q_1 : sx_V h L q_1 := by rw [eq_1]; exact hV.pI ka0 trivial
  have hF_q_1 : sx_fr h L (fun a => h.1 a = 12) q q_1 := hF.tr (by rw [eq_1]; exact sx_fr.pI (show h.1 a0 = 12 from by omega))
  have z_2 : q_1.1 a0 0 = 0 := by rw [eq_1]; exact sg_pI_e
  have hK_q_1 : sx_kf a0 [0] q q_1 := hK.tr (by rw [eq_1]; exact sx_kf.pI (by decide))
  refine wa_iload_n B dX12_count_5 rfl 1 rfl ?_
  rcases (show (n1.toInt < 0 ∨ 5 < n1.toInt) ∨ n1.toInt = 0 ∨ n1.toInt = 1 ∨ n1.toInt = 2 ∨ n1.toInt = 3 ∨ n1.toInt = 4 ∨ n1.toInt = 5 by omega) with t_3 | t_3 | t_3 | t_3 | t_3 | t_3 | t_3
  · refine wa_tswOut B 74 dX12_count_6 (by first | omega | exact t_3) (by decide) ?_
    refine wa_iconst B (-1) dX12_count_74 (by decide) ?_
    exact hret _ _ _ _ dX12_count_75 ⟨hV_q_1, hF_q_1, hK_q_1⟩
  · refine wa_tswIn B 44 0 dX12_count_6 t_3 (by decide) (by decide) rfl (by decide) ?_
    refine wa_aload_n B dX12_count_44 rfl 0 rfl ?_
    refine wa_getI B (C := RX12) (T := TX12) (N := 51) iq_X12_count_X12 ha0 ka0 (by decide) rfl 20 (by decide) (by decide) (by decide +kernel) rfl (by decide) (v := (q_1.1 a0 20)) rfl dX12_count_45 ?_
    have g_4 : (0 : Int) ≤ (q_1.1 a0 20).toInt ∧ (q_1.1 a0 20).toInt ≤ 3 := hV_q_1.int ha0 ka0 20
    exact hret _ _ _ _ dX12_count_48 ⟨hV_q_1, hF_q_1, hK_q_1⟩
  · refine wa_tswIn B 49 1 dX12_count_6 t_3 (by decide) (by decide) rfl (by decide) ?_
    refine wa_aload_n B dX12_count_49 rfl 0 rfl ?_
    refine wa_getI B (C := RX12) (T := TX12) (N := 51) iq_X12_count_X12 ha0 ka0 (by decide) rfl 31 (by decide) (by decide) (by decide +kernel) rfl (by decide) (v := (q_1.1 a0 31)) rfl dX12_count_50 ?_
    have g_5 : (0 : Int) ≤ (q_1.1 a0 31).toInt ∧ (q_1.1 a0 31).toInt ≤ 8 := hV_q_1.int ha0 ka0 31
    exact hret _ _ _ _ dX12_count_53 ⟨hV_q_1, hF_q_1, hK_q_1⟩
  · refine wa_tswIn B 54 2 dX12_count_6 t_3 (by decide) (by decide) rfl (by decide) ?_
    refine wa_aload_n B dX12_count_54 rfl 0 rfl ?_
    refine wa_getI B (C := RX12) (T := TX12) (N := 51) iq_X12_count_X12 ha0 ka0 (by decide) rfl 45 (by decide) (by decide) (by decide +kernel) rfl (by decide) (v := (q_1.1 a0 45)) rfl dX12_count_55 ?_
    have g_6 : (0 : Int) ≤ (q_1.1 a0 45).toInt ∧ (q_1.1 a0 45).toInt ≤ 12 := hV_q_1.int ha0 ka0 45
    exact hret _ _ _ _ dX12_count_58 ⟨hV_q_1, hF_q_1, hK_q_1⟩
  · refine wa_tswIn B 59 3 dX12_count_6 t_3 (by decide) (by decide) rfl (by decide) ?_
    refine wa_aload_n B dX12_count_59 rfl 0 rfl ?_
    refine wa_getI B (C := RX12) (T := TX12) (N := 51) iq_X12_count_X12 ha0 ka0 (by decide) rfl 49 (by decide) (by decide) (by decide +kernel) rfl (by decide) (v := (q_1.1 a0 49)) rfl dX12_count_60 ?_
    exact hret _ _ _ _ dX12_count_63 ⟨hV_q_1, hF_q_1, hK_q_1⟩
  · refine wa_tswIn B 64 4 dX12_count_6 t_3 (by decide) (by decide) rfl (by decide) ?_
    refine wa_aload_n B dX12_count_64 rfl 0 rfl ?_
    refine wa_getI B (C := RX12) (T := TX12) (N := 51) iq_X12_count_X12 ha0 ka0 (by decide) rfl 2 (by decide) (by decide) (by decide +kernel) rfl (by decide) (v := (q_1.1 a0 2)) rfl dX12_count_65 ?_
    have g_7 : (0 : Int) ≤ (q_1.1 a0 2).toInt ∧ (q_1.1 a0 2).toInt ≤ 440 := hV_q_1.int ha0 ka0 2
    exact hret _ _ _ _ dX12_count_68 ⟨hV_q_1, hF_q_1, hK_q_1⟩
  · refine wa_tswIn B 69 5 dX12_count_6 t_3 (by decide) (by decide) rfl (by decide) ?_
    refine wa_aload_n B dX12_count_69 rfl 0 rfl ?_
    refine wa_getI B (C := RX12) (T := TX12) (N := 51) iq_X12_count_X12 ha0 ka0 (by decide) rfl 22 (by decide) (by decide) (by decide +kernel) rfl (by decide) (v := (q_1.1 a0 22)) rfl dX12_count_70 ?_
    have g_8 : (0 : Int) ≤ (q_1.1 a0 22).toInt ∧ (q_1.1 a0 22).toInt ≤ 80 := hV_q_1.int ha0 ka0 22
    exact hret _ _ _ _ dX12_count_73 ⟨hV_q_1, hF_q_1, hK_q_1⟩
theorem iq_X12_system_X12 : ∀ w ∈ wsX120, w ∈ wsX12_system := fun _ h => List.mem_cons_of_mem _ (List.mem_append_right _ h)
set_option maxHeartbeats 4000000 in
set_option maxRecDepth 100000 in
theorem k_X12_system (l : Launch) (dC : Nat → ClassId) (dI : Nat → Nat → Nat) (h : Sh) (L : List Nat) (hN : sx_nd L) (q : Sg) (hV : sx_V h L q) {a0 : Nat} (ha0 : a0 ∈ L) (ka0 : h.1 a0 = 12) (n1 : Int32) (n2 : Int32)    : CMi l dC dI h L yX12_system wsX12_system ({ frames := 1, cells := 0, slots := 0, locals := 20 } : Room) q [.ref a0, .int n1, .int n2] (fun r q' => sx_V h L q' ∧ sx_fr h L (fun a => h.1 a = 12) q q' ∧ sx_kf a0 [0] q q') := by
  refine cm_i (cc := cX12_system) (mL := 3) (own := RX12) hN (by decide) rfl rfl (Nat.le_of_ble_eq_true rfl) (fun Z B hret => ?_)
  have hF : sx_fr h L (fun a => h.1 a = 12) q q := sx_fr.rf
  have hK : sx_kf a0 [0] q q := sx_kf.rf
  show WA l dC dI h L ({ frames := 1, cells := 0, slots := 0, locals := 20 } : Room) 3 Z q 0 [(0, .ref a0), (1, .int n1), (2, .int n2)] []
  refine wa_iload_n B dX12_system_0 rfl 1 rfl ?_
  refine wa_if_lt B 21 dX12_system_1 (by decide) (fun (t_1 : n1.toInt < 0) => ?_) (fun (t_1 : ¬ n1.toInt < 0) => ?_)
  · refine wa_aload_n B dX12_system_21 rfl 0 rfl ?_
    refine wa_callVi B (x := (RX12, TX12, 51)) (As := []) (rest := []) (k_X12_refuse l dC dI h L hN q hV (a0 := a0) ha0 ka0  ) (cwV 0 B.1.2.2.2.2 gX12_system_X12_refuse rfl rfl rfl (by decide +kernel) ⟨Nat.le_of_ble_eq_true rfl, Nat.le_of_ble_eq_true rfl⟩) ha0 ka0 (by decide) rfl rfl rfl (Nat.le_of_ble_eq_true rfl) dX12_system_22 (fun r_3 q_2 w_4 => ?_)
    obtain ⟨hV_q_2, h2_q_2, h3_q_2⟩ := w_4
    have hF_q_2 : sx_fr h L (fun a => h.1 a = 12) q q_2 := hF.tr (h2_q_2.mono (fun a (z : h.1 a = 12) => (show h.1 a = 12 from by omega)))
    have hK_q_2 : sx_kf a0 [0] q q_2 := hK.tr (h3_q_2.mono (by decide))
    exact hret _ _ _ _ dX12_system_25 ⟨hV_q_2, hF_q_2, hK_q_2⟩
  · refine wa_iload_n B dX12_system_4 rfl 1 rfl ?_
    refine wa_aload_n B dX12_system_5 rfl 0 rfl ?_
    refine wa_getI B (C := RX12) (T := TX12) (N := 51) iq_X12_system_X12 ha0 ka0 (by decide) rfl 20 (by decide) (by decide) (by decide +kernel) rfl (by decide) (v := (q.1 a0 20)) rfl dX12_system_6 ?_
    have g_5 : (0 : Int) ≤ (q.1 a0 20).toInt ∧ (q.1 a0 20).toInt ≤ 3 := hV.int ha0 ka0 20
    refine wa_icmp_ge B 21 dX12_system_9 (by decide) (fun (t_6 : (q.1 a0 20).toInt ≤ n1.toInt) => ?_) (fun (t_6 : ¬ (q.1 a0 20).toInt ≤ n1.toInt) => ?_)
    · refine wa_aload_n B dX12_system_21 rfl 0 rfl ?_
      refine wa_callVi B (x := (RX12, TX12, 51)) (As := []) (rest := []) (k_X12_refuse l dC dI h L hN q hV (a0 := a0) ha0 ka0  ) (cwV 0 B.1.2.2.2.2 gX12_system_X12_refuse rfl rfl rfl (by decide +kernel) ⟨Nat.le_of_ble_eq_true rfl, Nat.le_of_ble_eq_true rfl⟩) ha0 ka0 (by decide) rfl rfl rfl (Nat.le_of_ble_eq_true rfl) dX12_system_22 (fun r_8 q_7 w_9 => ?_)
      obtain ⟨hV_q_7, h2_q_7, h3_q_7⟩ := w_9
      have hF_q_7 : sx_fr h L (fun a => h.1 a = 12) q q_7 := hF.tr (h2_q_7.mono (fun a (z : h.1 a = 12) => (show h.1 a = 12 from by omega)))
      have hK_q_7 : sx_kf a0 [0] q q_7 := hK.tr (h3_q_7.mono (by decide))
      exact hret _ _ _ _ dX12_system_25 ⟨hV_q_7, hF_q_7, hK_q_7⟩
    · refine wa_iload_n B dX12_system_12 rfl 2 rfl ?_
      refine wa_if_lt B 21 dX12_system_13 (by decide) (fun (t_10 : n2.toInt < 0) => ?_) (fun (t_10 : ¬ n2.toInt < 0) => ?_)
      · refine wa_aload_n B dX12_system_21 rfl 0 rfl ?_
        refine wa_callVi B (x := (RX12, TX12, 51)) (As := []) (rest := []) (k_X12_refuse l dC dI h L hN q hV (a0 := a0) ha0 ka0  ) (cwV 0 B.1.2.2.2.2 gX12_system_X12_refuse rfl rfl rfl (by decide +kernel) ⟨Nat.le_of_ble_eq_true rfl, Nat.le_of_ble_eq_true rfl⟩) ha0 ka0 (by decide) rfl rfl rfl (Nat.le_of_ble_eq_true rfl) dX12_system_22 (fun r_12 q_11 w_13 => ?_)
        obtain ⟨hV_q_11, h2_q_11, h3_q_11⟩ := w_13
        have hF_q_11 : sx_fr h L (fun a => h.1 a = 12) q q_11 := hF.tr (h2_q_11.mono (fun a (z : h.1 a = 12) => (show h.1 a = 12 from by omega)))
        have hK_q_11 : sx_kf a0 [0] q q_11 := hK.tr (h3_q_11.mono (by decide))
        exact hret _ _ _ _ dX12_system_25 ⟨hV_q_11, hF_q_11, hK_q_11⟩
      · refine wa_iload_n B dX12_system_16 rfl 2 rfl ?_
        refine wa_iconst B 4 dX12_system_17 (by decide) ?_
        refine wa_icmp_le B 26 dX12_system_18 (by decide) (fun (t_14 : n2.toInt ≤ 4) => ?_) (fun (t_14 : ¬ n2.toInt ≤ 4) => ?_)
        · refine wa_aload_n B dX12_system_26 rfl 0 rfl ?_
          refine wa_iconst B 0 dX12_system_27 (by decide) ?_
          refine wa_putI B (C := RX12) (T := TX12) (N := 51) iq_X12_system_X12 ha0 ka0 (by decide) rfl 0 (by decide) (by decide) (by decide +kernel) rfl (by decide) (v := 0) (ty := .int) tyX12 tyX12_ok nmX12 rfl (by decide +kernel) rfl rfl dX12_system_28 (fun q_15 eq_15 => ?_)
          have hV_q_15 : sx_V h L q_15 := by rw [eq_15]; exact hV.pI ka0 trivial
          have hF_q_15 : sx_fr h L (fun a => h.1 a = 12) q q_15 := hF.tr (by rw [eq_15]; exact sx_fr.pI (show h.1 a0 = 12 from by omega))
          have z_16 : q_15.1 a0 0 = 0 := by rw [eq_15]; exact sg_pI_e
          have hK_q_15 : sx_kf a0 [0] q q_15 := hK.tr (by rw [eq_15]; exact sx_kf.pI (by decide))
          refine wa_iload_n B dX12_system_31 rfl 2 rfl ?_
          refine wa_if_ne B 44 dX12_system_32 (by decide) (fun (t_17 : ¬ n2.toInt = 0) => ?_) (fun (t_17 : n2.toInt = 0) => ?_)
          · refine wa_iload_n B dX12_system_44 rfl 2 rfl ?_
            refine wa_aload_n B dX12_system_45 rfl 0 rfl ?_
            obtain ⟨a_18, ea_18, ha_18, ka_18, la_18⟩ := hV_q_15.refn (n := 6) (t := 128) ha0 ka0 18 rfl (by decide) rfl (by decide)
            refine wa_getR B (C := RX12) (T := TX12) (N := 51) iq_X12_system_X12 ha0 ka0 (by decide) rfl 18 (by decide) (by decide) (by decide +kernel) rfl (fun _ _ _ => rfl) (v := a_18) ea_18 dX12_system_46 ?_
            refine wa_iload_n B dX12_system_49 rfl 1 rfl ?_
            refine wa_iaload B ha_18 ka_18 (by decide) (by decide) (show 0 ≤ n1.toInt by omega) (show n1.toInt < (h.2.1 a_18 : Int) by omega) (v := (q_15.2.2.2.1 a_18 (n1 : Int32).toNatClampNeg)) rfl dX12_system_50 ?_
            have g_19 : (0 : Int) ≤ ((q_15.2.2.2.1 a_18 (n1 : Int32).toNatClampNeg)).toInt ∧ ((q_15.2.2.2.1 a_18 (n1 : Int32).toNatClampNeg)).toInt ≤ 5 := hV_q_15.cnt ha_18 ka_18 _
            refine wa_icmp_ge B 67 dX12_system_51 (by decide) (fun (t_20 : ((q_15.2.2.2.1 a_18 (n1 : Int32).toNatClampNeg)).toInt ≤ n2.toInt) => ?_) (fun (t_20 : ¬ ((q_15.2.2.2.1 a_18 (n1 : Int32).toNatClampNeg)).toInt ≤ n2.toInt) => ?_)
            · refine wa_iconst B (-1) dX12_system_67 (by decide) ?_
              exact hret _ _ _ _ dX12_system_68 ⟨hV_q_15, hF_q_15, hK_q_15⟩
            · refine wa_aload_n B dX12_system_54 rfl 0 rfl ?_
              obtain ⟨a_21, ea_21, ha_21, ka_21, la_21⟩ := hV_q_15.refn (n := 30) (t := 129) ha0 ka0 19 rfl (by decide) rfl (by decide)
              refine wa_getR B (C := RX12) (T := TX12) (N := 51) iq_X12_system_X12 ha0 ka0 (by decide) rfl 19 (by decide) (by decide) (by decide +kernel) rfl (fun _ _ _ => rfl) (v := a_21) ea_21 dX12_system_55 ?_
              refine wa_iconst B 5 dX12_system_58 (by decide) ?_
              refine wa_iload_n B dX12_system_59 rfl 1 rfl ?_
              refine wa_imul B dX12_system_60 (fun v_22 ev_22 => ?_)
              refine wa_iload_n B dX12_system_61 rfl 2 rfl ?_
              refine wa_iadd B dX12_system_62 (fun v_23 ev_23 => ?_)
              have tv_22 : v_22.toInt = 5 * n1.toInt := by have b1 := zx_bd n1; rw [ev_22]; exact zx_mul (show (-2147483648 : Int) ≤ 5 * n1.toInt by omega) (show 5 * n1.toInt < (2147483648 : Int) by omega)
              have tv_23 : v_23.toInt = v_22.toInt + n2.toInt := by have b0 := zx_bd v_22; have b1 := zx_bd n2; rw [ev_23]; exact zx_add (show (-2147483648 : Int) ≤ v_22.toInt + n2.toInt by omega) (show v_22.toInt + n2.toInt < (2147483648 : Int) by omega)
              refine wa_iaload B ha_21 ka_21 (by decide) (by decide) (show 0 ≤ v_23.toInt by omega) (show v_23.toInt < (h.2.1 a_21 : Int) by omega) (v := (q_15.2.2.2.1 a_21 (v_23 : Int32).toNatClampNeg)) rfl dX12_system_63 ?_
              refine wa_goto B 68 dX12_system_64 (by decide) ?_
              exact hret _ _ _ _ dX12_system_68 ⟨hV_q_15, hF_q_15, hK_q_15⟩
          · refine wa_aload_n B dX12_system_35 rfl 0 rfl ?_
            obtain ⟨a_24, ea_24, ha_24, ka_24, la_24⟩ := hV_q_15.refn (n := 6) (t := 128) ha0 ka0 18 rfl (by decide) rfl (by decide)
            refine wa_getR B (C := RX12) (T := TX12) (N := 51) iq_X12_system_X12 ha0 ka0 (by decide) rfl 18 (by decide) (by decide) (by decide +kernel) rfl (fun _ _ _ => rfl) (v := a_24) ea_24 dX12_system_36 ?_
            refine wa_iload_n B dX12_system_39 rfl 1 rfl ?_
            refine wa_iaload B ha_24 ka_24 (by decide) (by decide) (show 0 ≤ n1.toInt by omega) (show n1.toInt < (h.2.1 a_24 : Int) by omega) (v := (q_15.2.2.2.1 a_24 (n1 : Int32).toNatClampNeg)) rfl dX12_system_40 ?_
            have g_25 : (0 : Int) ≤ ((q_15.2.2.2.1 a_24 (n1 : Int32).toNatClampNeg)).toInt ∧ ((q_15.2.2.2.1 a_24 (n1 : Int32).toNatClampNeg)).toInt ≤ 5 := hV_q_15.cnt ha_24 ka_24 _
            refine wa_goto B 68 dX12_system_41 (by decide) ?_
            exact hret _ _ _ _ dX12_system_68 ⟨hV_q_15, hF_q_15, hK_q_15⟩
        · refine wa_aload_n B dX12_system_21 rfl 0 rfl ?_
          refine wa_callVi B (x := (RX12, TX12, 51)) (As := []) (rest := []) (k_X12_refuse l dC dI h L hN q hV (a0 := a0) ha0 ka0  ) (cwV 0 B.1.2.2.2.2 gX12_system_X12_refuse rfl rfl rfl (by decide +kernel) ⟨Nat.le_of_ble_eq_true rfl, Nat.le_of_ble_eq_true rfl⟩) ha0 ka0 (by decide) rfl rfl rfl (Nat.le_of_ble_eq_true rfl) dX12_system_22 (fun r_27 q_26 w_28 => ?_)
          obtain ⟨hV_q_26, h2_q_26, h3_q_26⟩ := w_28
          have hF_q_26 : sx_fr h L (fun a => h.1 a = 12) q q_26 := hF.tr (h2_q_26.mono (fun a (z : h.1 a = 12) => (show h.1 a = 12 from by omega)))
          have hK_q_26 : sx_kf a0 [0] q q_26 := hK.tr (h3_q_26.mono (by decide))
          exact hret _ _ _ _ dX12_system_25 ⟨hV_q_26, hF_q_26, hK_q_26⟩
theorem iq_X12_octet_X12 : ∀ w ∈ wsX120, w ∈ wsX12_octet := fun _ h => List.mem_cons_of_mem _ (List.mem_append_right _ h)
set_option maxHeartbeats 4000000 in
set_option maxRecDepth 100000 in
theorem k_X12_octet (l : Launch) (dC : Nat → ClassId) (dI : Nat → Nat → Nat) (h : Sh) (L : List Nat) (hN : sx_nd L) (q : Sg) (hV : sx_V h L q) {a0 : Nat} (ha0 : a0 ∈ L) (ka0 : h.1 a0 = 12) (n1 : Int32)    : CMi l dC dI h L yX12_octet wsX12_octet ({ frames := 1, cells := 0, slots := 0, locals := 20 } : Room) q [.ref a0, .int n1] (fun r q' => sx_V h L q' ∧ sx_fr h L (fun a => h.1 a = 12) q q' ∧ sx_kf a0 [0] q q') := by
  refine cm_i (cc := cX12_octet) (mL := 2) (own := RX12) hN (by decide) rfl rfl (Nat.le_of_ble_eq_true rfl) (fun Z B hret => ?_)
  have hF : sx_fr h L (fun a => h.1 a = 12) q q := sx_fr.rf
  have hK : sx_kf a0 [0] q q := sx_kf.rf
  show WA l dC dI h L ({ frames := 1, cells := 0, slots := 0, locals := 20 } : Room) 2 Z q 0 [(0, .ref a0), (1, .int n1)] []
  refine wa_iload_n B dX12_octet_0 rfl 1 rfl ?_
  refine wa_if_lt B 12 dX12_octet_1 (by decide) (fun (t_1 : n1.toInt < 0) => ?_) (fun (t_1 : ¬ n1.toInt < 0) => ?_)
  · refine wa_aload_n B dX12_octet_12 rfl 0 rfl ?_
    refine wa_callVi B (x := (RX12, TX12, 51)) (As := []) (rest := []) (k_X12_refuse l dC dI h L hN q hV (a0 := a0) ha0 ka0  ) (cwV 0 B.1.2.2.2.2 gX12_octet_X12_refuse rfl rfl rfl (by decide +kernel) ⟨Nat.le_of_ble_eq_true rfl, Nat.le_of_ble_eq_true rfl⟩) ha0 ka0 (by decide) rfl rfl rfl (Nat.le_of_ble_eq_true rfl) dX12_octet_13 (fun r_3 q_2 w_4 => ?_)
    obtain ⟨hV_q_2, h2_q_2, h3_q_2⟩ := w_4
    have hF_q_2 : sx_fr h L (fun a => h.1 a = 12) q q_2 := hF.tr (h2_q_2.mono (fun a (z : h.1 a = 12) => (show h.1 a = 12 from by omega)))
    have hK_q_2 : sx_kf a0 [0] q q_2 := hK.tr (h3_q_2.mono (by decide))
    exact hret _ _ _ _ dX12_octet_16 ⟨hV_q_2, hF_q_2, hK_q_2⟩
  · refine wa_iload_n B dX12_octet_4 rfl 1 rfl ?_
    refine wa_aload_n B dX12_octet_5 rfl 0 rfl ?_
    refine wa_getI B (C := RX12) (T := TX12) (N := 51) iq_X12_octet_X12 ha0 ka0 (by decide) rfl 22 (by decide) (by decide) (by decide +kernel) rfl (by decide) (v := (q.1 a0 22)) rfl dX12_octet_6 ?_
    have g_5 : (0 : Int) ≤ (q.1 a0 22).toInt ∧ (q.1 a0 22).toInt ≤ 80 := hV.int ha0 ka0 22
    refine wa_icmp_lt B 17 dX12_octet_9 (by decide) (fun (t_6 : n1.toInt < (q.1 a0 22).toInt) => ?_) (fun (t_6 : ¬ n1.toInt < (q.1 a0 22).toInt) => ?_)
    · refine wa_aload_n B dX12_octet_17 rfl 0 rfl ?_
      refine wa_iconst B 0 dX12_octet_18 (by decide) ?_
      refine wa_putI B (C := RX12) (T := TX12) (N := 51) iq_X12_octet_X12 ha0 ka0 (by decide) rfl 0 (by decide) (by decide) (by decide +kernel) rfl (by decide) (v := 0) (ty := .int) tyX12 tyX12_ok nmX12 rfl (by decide +kernel) rfl rfl dX12_octet_19 (fun q_7 eq_7 => ?_)
      have hV_q_7 : sx_V h L q_7 := by rw [eq_7]; exact hV.pI ka0 trivial
      have hF_q_7 : sx_fr h L (fun a => h.1 a = 12) q q_7 := hF.tr (by rw [eq_7]; exact sx_fr.pI (show h.1 a0 = 12 from by omega))
      have z_8 : q_7.1 a0 0 = 0 := by rw [eq_7]; exact sg_pI_e
      have hK_q_7 : sx_kf a0 [0] q q_7 := hK.tr (by rw [eq_7]; exact sx_kf.pI (by decide))
      refine wa_aload_n B dX12_octet_22 rfl 0 rfl ?_
      obtain ⟨a_9, ea_9, ha_9, ka_9, la_9⟩ := hV_q_7.refn (n := 80) (t := 131) ha0 ka0 21 rfl (by decide) rfl (by decide)
      refine wa_getR B (C := RX12) (T := TX12) (N := 51) iq_X12_octet_X12 ha0 ka0 (by decide) rfl 21 (by decide) (by decide) (by decide +kernel) rfl (fun _ _ _ => rfl) (v := a_9) ea_9 dX12_octet_23 ?_
      refine wa_iload_n B dX12_octet_26 rfl 1 rfl ?_
      refine wa_iaload B ha_9 ka_9 (by decide) (by decide) (show 0 ≤ n1.toInt by omega) (show n1.toInt < (h.2.1 a_9 : Int) by omega) (v := (q_7.2.2.2.1 a_9 (n1 : Int32).toNatClampNeg)) rfl dX12_octet_27 ?_
      exact hret _ _ _ _ dX12_octet_28 ⟨hV_q_7, hF_q_7, hK_q_7⟩
    · refine wa_aload_n B dX12_octet_12 rfl 0 rfl ?_
      refine wa_callVi B (x := (RX12, TX12, 51)) (As := []) (rest := []) (k_X12_refuse l dC dI h L hN q hV (a0 := a0) ha0 ka0  ) (cwV 0 B.1.2.2.2.2 gX12_octet_X12_refuse rfl rfl rfl (by decide +kernel) ⟨Nat.le_of_ble_eq_true rfl, Nat.le_of_ble_eq_true rfl⟩) ha0 ka0 (by decide) rfl rfl rfl (Nat.le_of_ble_eq_true rfl) dX12_octet_13 (fun r_11 q_10 w_12 => ?_)
      obtain ⟨hV_q_10, h2_q_10, h3_q_10⟩ := w_12
      have hF_q_10 : sx_fr h L (fun a => h.1 a = 12) q q_10 := hF.tr (h2_q_10.mono (fun a (z : h.1 a = 12) => (show h.1 a = 12 from by omega)))
      have hK_q_10 : sx_kf a0 [0] q q_10 := hK.tr (h3_q_10.mono (by decide))
      exact hret _ _ _ _ dX12_octet_16 ⟨hV_q_10, hF_q_10, hK_q_10⟩
theorem iq_X12_lines_X12 : ∀ w ∈ wsX120, w ∈ wsX12_lines := fun _ h => List.mem_cons_of_mem _ (List.mem_append_right _ h)
set_option maxHeartbeats 4000000 in
set_option maxRecDepth 100000 in
theorem k_X12_lines (l : Launch) (dC : Nat → ClassId) (dI : Nat → Nat → Nat) (h : Sh) (L : List Nat) (hN : sx_nd L) (q : Sg) (hV : sx_V h L q) {a0 : Nat} (ha0 : a0 ∈ L) (ka0 : h.1 a0 = 12) (n1 : Int32)    : CMi l dC dI h L yX12_lines wsX12_lines ({ frames := 1, cells := 0, slots := 0, locals := 21 } : Room) q [.ref a0, .int n1] (fun r q' => sx_V h L q' ∧ sx_fr h L (fun a => h.1 a = 12) q q' ∧ sx_kf a0 [0] q q') := by
  refine cm_i (cc := cX12_lines) (mL := 2) (own := RX12) hN (by decide) rfl rfl (Nat.le_of_ble_eq_true rfl) (fun Z B hret => ?_)
  have hF : sx_fr h L (fun a => h.1 a = 12) q q := sx_fr.rf
  have hK : sx_kf a0 [0] q q := sx_kf.rf
  show WA l dC dI h L ({ frames := 1, cells := 0, slots := 0, locals := 21 } : Room) 2 Z q 0 [(0, .ref a0), (1, .int n1)] []
  refine wa_aload_n B dX12_lines_0 rfl 0 rfl ?_
  refine wa_iconst B 0 dX12_lines_1 (by decide) ?_
  refine wa_putI B (C := RX12) (T := TX12) (N := 51) iq_X12_lines_X12 ha0 ka0 (by decide) rfl 0 (by decide) (by decide) (by decide +kernel) rfl (by decide) (v := 0) (ty := .int) tyX12 tyX12_ok nmX12 rfl (by decide +kernel) rfl rfl dX12_lines_2 (fun q_1 eq_1 => ?_)
  have hV_q_1 : sx_V h L q_1 := by rw [eq_1]; exact hV.pI ka0 trivial
  have hF_q_1 : sx_fr h L (fun a => h.1 a = 12) q q_1 := hF.tr (by rw [eq_1]; exact sx_fr.pI (show h.1 a0 = 12 from by omega))
  have z_2 : q_1.1 a0 0 = 0 := by rw [eq_1]; exact sg_pI_e
  have hK_q_1 : sx_kf a0 [0] q q_1 := hK.tr (by rw [eq_1]; exact sx_kf.pI (by decide))
  refine wa_aload_n B dX12_lines_5 rfl 0 rfl ?_
  refine wa_iload_n B dX12_lines_6 rfl 1 rfl ?_
  refine wa_callVi B (x := (RX12, TX12, 51)) (As := [.int n1]) (rest := []) (k_X12_isTablet l dC dI h L hN q_1 hV_q_1 (a0 := a0) ha0 ka0 n1  ) (cwV 1 B.1.2.2.2.2 gX12_lines_X12_isTablet rfl rfl rfl (by decide +kernel) ⟨Nat.le_of_ble_eq_true rfl, Nat.le_of_ble_eq_true rfl⟩) ha0 ka0 (by decide) rfl rfl rfl (Nat.le_of_ble_eq_true rfl) dX12_lines_7 (fun r_4 q_3 w_5 => ?_)
  obtain ⟨ew_5, hw_5⟩ := w_5
  subst ew_5
  refine wa_if_eq B 22 dX12_lines_10 (by decide) (fun (t_6 : r_4.toInt = 0) => ?_) (fun (t_6 : ¬ r_4.toInt = 0) => ?_)
  · refine wa_iconst B (-1) dX12_lines_22 (by decide) ?_
    exact hret _ _ _ _ dX12_lines_23 ⟨hV_q_1, hF_q_1, hK_q_1⟩
  · refine wa_aload_n B dX12_lines_13 rfl 0 rfl ?_
    obtain ⟨a_7, ea_7, ha_7, ka_7, la_7⟩ := hV_q_1.refn (n := 9) (t := 133) ha0 ka0 23 rfl (by decide) rfl (by decide)
    refine wa_getR B (C := RX12) (T := TX12) (N := 51) iq_X12_lines_X12 ha0 ka0 (by decide) rfl 23 (by decide) (by decide) (by decide +kernel) rfl (fun _ _ _ => rfl) (v := a_7) ea_7 dX12_lines_14 ?_
    refine wa_iload_n B dX12_lines_17 rfl 1 rfl ?_
    refine wa_iaload B ha_7 ka_7 (by decide) (by decide) (show 0 ≤ n1.toInt by omega) (show n1.toInt < (h.2.1 a_7 : Int) by omega) (v := (q_1.2.2.2.1 a_7 (n1 : Int32).toNatClampNeg)) rfl dX12_lines_18 ?_
    have g_8 : (0 : Int) ≤ ((q_1.2.2.2.1 a_7 (n1 : Int32).toNatClampNeg)).toInt ∧ ((q_1.2.2.2.1 a_7 (n1 : Int32).toNatClampNeg)).toInt ≤ 12 := hV_q_1.cnt ha_7 ka_7 _
    refine wa_goto B 23 dX12_lines_19 (by decide) ?_
    exact hret _ _ _ _ dX12_lines_23 ⟨hV_q_1, hF_q_1, hK_q_1⟩
theorem iq_X12_rows_X12 : ∀ w ∈ wsX120, w ∈ wsX12_rows := fun _ h => List.mem_cons_of_mem _ (List.mem_append_right _ h)
set_option maxHeartbeats 4000000 in
set_option maxRecDepth 100000 in
theorem k_X12_rows (l : Launch) (dC : Nat → ClassId) (dI : Nat → Nat → Nat) (h : Sh) (L : List Nat) (hN : sx_nd L) (q : Sg) (hV : sx_V h L q) {a0 : Nat} (ha0 : a0 ∈ L) (ka0 : h.1 a0 = 12) (n1 : Int32)    : CMi l dC dI h L yX12_rows wsX12_rows ({ frames := 1, cells := 0, slots := 0, locals := 21 } : Room) q [.ref a0, .int n1] (fun r q' => sx_V h L q' ∧ sx_fr h L (fun a => h.1 a = 12) q q' ∧ sx_kf a0 [0] q q') := by
  refine cm_i (cc := cX12_rows) (mL := 2) (own := RX12) hN (by decide) rfl rfl (Nat.le_of_ble_eq_true rfl) (fun Z B hret => ?_)
  have hF : sx_fr h L (fun a => h.1 a = 12) q q := sx_fr.rf
  have hK : sx_kf a0 [0] q q := sx_kf.rf
  show WA l dC dI h L ({ frames := 1, cells := 0, slots := 0, locals := 21 } : Room) 2 Z q 0 [(0, .ref a0), (1, .int n1)] []
  refine wa_aload_n B dX12_rows_0 rfl 0 rfl ?_
  refine wa_iconst B 0 dX12_rows_1 (by decide) ?_
  refine wa_putI B (C := RX12) (T := TX12) (N := 51) iq_X12_rows_X12 ha0 ka0 (by decide) rfl 0 (by decide) (by decide) (by decide +kernel) rfl (by decide) (v := 0) (ty := .int) tyX12 tyX12_ok nmX12 rfl (by decide +kernel) rfl rfl dX12_rows_2 (fun q_1 eq_1 => ?_)
  have hV_q_1 : sx_V h L q_1 := by rw [eq_1]; exact hV.pI ka0 trivial
  have hF_q_1 : sx_fr h L (fun a => h.1 a = 12) q q_1 := hF.tr (by rw [eq_1]; exact sx_fr.pI (show h.1 a0 = 12 from by omega))
  have z_2 : q_1.1 a0 0 = 0 := by rw [eq_1]; exact sg_pI_e
  have hK_q_1 : sx_kf a0 [0] q q_1 := hK.tr (by rw [eq_1]; exact sx_kf.pI (by decide))
  refine wa_aload_n B dX12_rows_5 rfl 0 rfl ?_
  refine wa_iload_n B dX12_rows_6 rfl 1 rfl ?_
  refine wa_callVi B (x := (RX12, TX12, 51)) (As := [.int n1]) (rest := []) (k_X12_isFragment l dC dI h L hN q_1 hV_q_1 (a0 := a0) ha0 ka0 n1  ) (cwV 1 B.1.2.2.2.2 gX12_rows_X12_isFragment rfl rfl rfl (by decide +kernel) ⟨Nat.le_of_ble_eq_true rfl, Nat.le_of_ble_eq_true rfl⟩) ha0 ka0 (by decide) rfl rfl rfl (Nat.le_of_ble_eq_true rfl) dX12_rows_7 (fun r_4 q_3 w_5 => ?_)
  obtain ⟨ew_5, hw_5⟩ := w_5
  subst ew_5
  refine wa_if_eq B 22 dX12_rows_10 (by decide) (fun (t_6 : r_4.toInt = 0) => ?_) (fun (t_6 : ¬ r_4.toInt = 0) => ?_)
  · refine wa_iconst B (-1) dX12_rows_22 (by decide) ?_
    exact hret _ _ _ _ dX12_rows_23 ⟨hV_q_1, hF_q_1, hK_q_1⟩
  · refine wa_aload_n B dX12_rows_13 rfl 0 rfl ?_
    obtain ⟨a_7, ea_7, ha_7, ka_7, la_7⟩ := hV_q_1.refn (n := 12) (t := 154) ha0 ka0 44 rfl (by decide) rfl (by decide)
    refine wa_getR B (C := RX12) (T := TX12) (N := 51) iq_X12_rows_X12 ha0 ka0 (by decide) rfl 44 (by decide) (by decide) (by decide +kernel) rfl (fun _ _ _ => rfl) (v := a_7) ea_7 dX12_rows_14 ?_
    refine wa_iload_n B dX12_rows_17 rfl 1 rfl ?_
    refine wa_iaload B ha_7 ka_7 (by decide) (by decide) (show 0 ≤ n1.toInt by omega) (show n1.toInt < (h.2.1 a_7 : Int) by omega) (v := (q_1.2.2.2.1 a_7 (n1 : Int32).toNatClampNeg)) rfl dX12_rows_18 ?_
    have g_8 : (0 : Int) ≤ ((q_1.2.2.2.1 a_7 (n1 : Int32).toNatClampNeg)).toInt ∧ ((q_1.2.2.2.1 a_7 (n1 : Int32).toNatClampNeg)).toInt ≤ 201 := hV_q_1.cnt ha_7 ka_7 _
    refine wa_goto B 23 dX12_rows_19 (by decide) ?_
    exact hret _ _ _ _ dX12_rows_23 ⟨hV_q_1, hF_q_1, hK_q_1⟩
theorem iq_X12_matched_X12 : ∀ w ∈ wsX120, w ∈ wsX12_matched := fun _ h => List.mem_cons_of_mem _ (List.mem_append_right _ h)
set_option maxHeartbeats 4000000 in
set_option maxRecDepth 100000 in
theorem k_X12_matched (l : Launch) (dC : Nat → ClassId) (dI : Nat → Nat → Nat) (h : Sh) (L : List Nat) (hN : sx_nd L) (q : Sg) (hV : sx_V h L q) {a0 : Nat} (ha0 : a0 ∈ L) (ka0 : h.1 a0 = 12) (n1 : Int32)    : CMi l dC dI h L yX12_matched wsX12_matched ({ frames := 1, cells := 0, slots := 0, locals := 21 } : Room) q [.ref a0, .int n1] (fun r q' => sx_V h L q' ∧ sx_fr h L (fun a => h.1 a = 12) q q' ∧ sx_kf a0 [0] q q') := by
  refine cm_i (cc := cX12_matched) (mL := 2) (own := RX12) hN (by decide) rfl rfl (Nat.le_of_ble_eq_true rfl) (fun Z B hret => ?_)
  have hF : sx_fr h L (fun a => h.1 a = 12) q q := sx_fr.rf
  have hK : sx_kf a0 [0] q q := sx_kf.rf
  show WA l dC dI h L ({ frames := 1, cells := 0, slots := 0, locals := 21 } : Room) 2 Z q 0 [(0, .ref a0), (1, .int n1)] []
  refine wa_aload_n B dX12_matched_0 rfl 0 rfl ?_
  refine wa_iconst B 0 dX12_matched_1 (by decide) ?_
  refine wa_putI B (C := RX12) (T := TX12) (N := 51) iq_X12_matched_X12 ha0 ka0 (by decide) rfl 0 (by decide) (by decide) (by decide +kernel) rfl (by decide) (v := 0) (ty := .int) tyX12 tyX12_ok nmX12 rfl (by decide +kernel) rfl rfl dX12_matched_2 (fun q_1 eq_1 => ?_)
  have hV_q_1 : sx_V h L q_1 := by rw [eq_1]; exact hV.pI ka0 trivial
  have hF_q_1 : sx_fr h L (fun a => h.1 a = 12) q q_1 := hF.tr (by rw [eq_1]; exact sx_fr.pI (show h.1 a0 = 12 from by omega))
  have z_2 : q_1.1 a0 0 = 0 := by rw [eq_1]; exact sg_pI_e
  have hK_q_1 : sx_kf a0 [0] q q_1 := hK.tr (by rw [eq_1]; exact sx_kf.pI (by decide))
  refine wa_aload_n B dX12_matched_5 rfl 0 rfl ?_
  refine wa_getI B (C := RX12) (T := TX12) (N := 51) iq_X12_matched_X12 ha0 ka0 (by decide) rfl 50 (by decide) (by decide) (by decide +kernel) rfl (by decide) (v := (q_1.1 a0 50)) rfl dX12_matched_6 ?_
  refine wa_if_eq B 29 dX12_matched_9 (by decide) (fun (t_3 : (q_1.1 a0 50).toInt = 0) => ?_) (fun (t_3 : ¬ (q_1.1 a0 50).toInt = 0) => ?_)
  · refine wa_iconst B (-1) dX12_matched_29 (by decide) ?_
    exact hret _ _ _ _ dX12_matched_30 ⟨hV_q_1, hF_q_1, hK_q_1⟩
  · refine wa_aload_n B dX12_matched_12 rfl 0 rfl ?_
    refine wa_iload_n B dX12_matched_13 rfl 1 rfl ?_
    refine wa_callVi B (x := (RX12, TX12, 51)) (As := [.int n1]) (rest := []) (k_X12_isFragment l dC dI h L hN q_1 hV_q_1 (a0 := a0) ha0 ka0 n1  ) (cwV 1 B.1.2.2.2.2 gX12_matched_X12_isFragment rfl rfl rfl (by decide +kernel) ⟨Nat.le_of_ble_eq_true rfl, Nat.le_of_ble_eq_true rfl⟩) ha0 ka0 (by decide) rfl rfl rfl (Nat.le_of_ble_eq_true rfl) dX12_matched_14 (fun r_5 q_4 w_6 => ?_)
    obtain ⟨ew_6, hw_6⟩ := w_6
    subst ew_6
    refine wa_if_eq B 29 dX12_matched_17 (by decide) (fun (t_7 : r_5.toInt = 0) => ?_) (fun (t_7 : ¬ r_5.toInt = 0) => ?_)
    · refine wa_iconst B (-1) dX12_matched_29 (by decide) ?_
      exact hret _ _ _ _ dX12_matched_30 ⟨hV_q_1, hF_q_1, hK_q_1⟩
    · refine wa_aload_n B dX12_matched_20 rfl 0 rfl ?_
      obtain ⟨a_8, ea_8, ha_8, ka_8, la_8⟩ := hV_q_1.refn (n := 12) (t := 158) ha0 ka0 48 rfl (by decide) rfl (by decide)
      refine wa_getR B (C := RX12) (T := TX12) (N := 51) iq_X12_matched_X12 ha0 ka0 (by decide) rfl 48 (by decide) (by decide) (by decide +kernel) rfl (fun _ _ _ => rfl) (v := a_8) ea_8 dX12_matched_21 ?_
      refine wa_iload_n B dX12_matched_24 rfl 1 rfl ?_
      refine wa_iaload B ha_8 ka_8 (by decide) (by decide) (show 0 ≤ n1.toInt by omega) (show n1.toInt < (h.2.1 a_8 : Int) by omega) (v := (q_1.2.2.2.1 a_8 (n1 : Int32).toNatClampNeg)) rfl dX12_matched_25 ?_
      refine wa_goto B 30 dX12_matched_26 (by decide) ?_
      exact hret _ _ _ _ dX12_matched_30 ⟨hV_q_1, hF_q_1, hK_q_1⟩
theorem iq_X12_isTaken_X12 : ∀ w ∈ wsX120, w ∈ wsX12_isTaken := fun _ h => List.mem_cons_of_mem _ (List.mem_append_right _ h)
set_option maxHeartbeats 4000000 in
set_option maxRecDepth 100000 in
theorem k_X12_isTaken (l : Launch) (dC : Nat → ClassId) (dI : Nat → Nat → Nat) (h : Sh) (L : List Nat) (hN : sx_nd L) (q : Sg) (hV : sx_V h L q) {a0 : Nat} (ha0 : a0 ∈ L) (ka0 : h.1 a0 = 12) (n1 : Int32)   (hy0 : 0 ≤ n1.toInt) (hy1 : n1.toInt ≤ 2) : CMi l dC dI h L yX12_isTaken wsX12_isTaken ({ frames := 0, cells := 0, slots := 0, locals := 0 } : Room) q [.ref a0, .int n1] (fun r q' => q = q' ∧ (r.toInt = 0 ∨ r.toInt = 1)) := by
  refine cm_z (cc := cX12_isTaken) (mL := 4) (own := RX12) hN (by decide) rfl rfl (Nat.le_of_ble_eq_true rfl) (fun Z B hret => ?_)
  show WA l dC dI h L ({ frames := 0, cells := 0, slots := 0, locals := 0 } : Room) 4 Z q 0 [(0, .ref a0), (1, .int n1)] []
  refine wa_iconst B 3 dX12_isTaken_0 (by decide) ?_
  refine wa_istore_n B [(2, .int 3), (0, .ref a0), (1, .int n1)] dX12_isTaken_1 rfl (by decide) rfl ?_
  have Lp_2_3 : ∀ (n : Nat) (v_1 : Int32), 3 ≤ v_1.toInt → (6 - v_1.toInt : Int).toNat < n → WA l dC dI h L ({ frames := 0, cells := 0, slots := 0, locals := 0 } : Room) 4 Z q 2 [(2, .int v_1), (0, .ref a0), (1, .int n1)] [] := by
    intro n
    induction n with
    | zero =>
      intro v_1 x_2 hn
      exact absurd hn (Nat.not_lt_zero _)
    | succ n ih_4 =>
      intro v_1 x_2 hn
      refine wa_iload_n B dX12_isTaken_2 rfl 0 rfl ?_
      refine wa_iconst B 3 dX12_isTaken_3 (by decide) ?_
      refine wa_iload_n B dX12_isTaken_4 rfl 2 rfl ?_
      refine wa_iadd B dX12_isTaken_5 (fun v_5 ev_5 => ?_)
      have tv_5 : v_5.toInt = 3 + n1.toInt := by have b1 := zx_bd n1; rw [ev_5]; exact zx_add (show (-2147483648 : Int) ≤ 3 + n1.toInt by omega) (show 3 + n1.toInt < (2147483648 : Int) by omega)
      refine wa_icmp_gt B 69 dX12_isTaken_6 (by decide) (fun (t_6 : v_5.toInt < v_1.toInt) => ?_) (fun (t_6 : ¬ v_5.toInt < v_1.toInt) => ?_)
      · refine wa_iconst B 0 dX12_isTaken_69 (by decide) ?_
        exact hret _ _ _ _ dX12_isTaken_70 (Or.inl rfl) ⟨rfl, (by have h9 : (0 : Int32).toInt = 0 := rfl; first | omega | (refine ⟨?_, ?_⟩ <;> omega) | trivial)⟩
      · refine wa_aload_n B dX12_isTaken_9 rfl 1 rfl ?_
        obtain ⟨a_7, ea_7, ha_7, ka_7, la_7⟩ := hV.refn (n := 6) (t := 226) ha0 ka0 16 rfl (by decide) rfl (by decide)
        refine wa_getR B (C := RX12) (T := TX12) (N := 51) iq_X12_isTaken_X12 ha0 ka0 (by decide) rfl 16 (by decide) (by decide) (by decide +kernel) rfl (fun _ _ _ => rfl) (v := a_7) ea_7 dX12_isTaken_10 ?_
        refine wa_iload_n B dX12_isTaken_13 rfl 0 rfl ?_
        refine wa_laload B ha_7 ka_7 (by decide) (by decide) (show 0 ≤ v_1.toInt by omega) (show v_1.toInt < (h.2.1 a_7 : Int) by omega) (v := (q.2.2.2.2 a_7 (v_1 : Int32).toNatClampNeg)) rfl dX12_isTaken_14 ?_
        refine wa_aload_n B dX12_isTaken_15 rfl 1 rfl ?_
        refine wa_getJ B (C := RX12) (T := TX12) (N := 51) iq_X12_isTaken_X12 ha0 ka0 (by decide) rfl 11 (by decide) (by decide) (by decide +kernel) rfl (by decide) (v := (q.2.1 a0 11)) rfl dX12_isTaken_16 ?_
        refine wa_lcmp B dX12_isTaken_19 (fun v_8 ev_8 => ?_)
        refine wa_if_ne B 25 dX12_isTaken_20 (by decide) (fun (t_9 : ¬ v_8.toInt = 0) => ?_) (fun (t_9 : v_8.toInt = 0) => ?_)
        · refine wa_iconst B 0 dX12_isTaken_25 (by decide) ?_
          refine wa_istore_n B [(3, .int 0), (2, .int v_1), (0, .ref a0), (1, .int n1)] dX12_isTaken_26 rfl (by decide) rfl ?_
          have Lp_27_12 : ∀ (n : Nat) (v_10 : Int32), 0 ≤ v_10.toInt → (5 - v_10.toInt : Int).toNat < n → WA l dC dI h L ({ frames := 0, cells := 0, slots := 0, locals := 0 } : Room) 4 Z q 27 [(3, .int v_10), (2, .int v_1), (0, .ref a0), (1, .int n1)] [] := by
            intro n
            induction n with
            | zero =>
              intro v_10 x_11 hn
              exact absurd hn (Nat.not_lt_zero _)
            | succ n ih_13 =>
              intro v_10 x_11 hn
              refine wa_iload_n B dX12_isTaken_27 rfl 0 rfl ?_
              refine wa_aload_n B dX12_isTaken_28 rfl 2 rfl ?_
              obtain ⟨a_14, ea_14, ha_14, ka_14, la_14⟩ := hV.refn (n := 6) (t := 128) ha0 ka0 18 rfl (by decide) rfl (by decide)
              refine wa_getR B (C := RX12) (T := TX12) (N := 51) iq_X12_isTaken_X12 ha0 ka0 (by decide) rfl 18 (by decide) (by decide) (by decide +kernel) rfl (fun _ _ _ => rfl) (v := a_14) ea_14 dX12_isTaken_29 ?_
              refine wa_iload_n B dX12_isTaken_32 rfl 1 rfl ?_
              refine wa_iaload B ha_14 ka_14 (by decide) (by decide) (show 0 ≤ v_1.toInt by omega) (show v_1.toInt < (h.2.1 a_14 : Int) by omega) (v := (q.2.2.2.1 a_14 (v_1 : Int32).toNatClampNeg)) rfl dX12_isTaken_33 ?_
              have g_15 : (0 : Int) ≤ ((q.2.2.2.1 a_14 (v_1 : Int32).toNatClampNeg)).toInt ∧ ((q.2.2.2.1 a_14 (v_1 : Int32).toNatClampNeg)).toInt ≤ 5 := hV.cnt ha_14 ka_14 _
              refine wa_icmp_ge B 63 dX12_isTaken_34 (by decide) (fun (t_16 : ((q.2.2.2.1 a_14 (v_1 : Int32).toNatClampNeg)).toInt ≤ v_10.toInt) => ?_) (fun (t_16 : ¬ ((q.2.2.2.1 a_14 (v_1 : Int32).toNatClampNeg)).toInt ≤ v_10.toInt) => ?_)
              · obtain ⟨v_17, ev_17⟩ : ∃ z : Int32, z = v_1 + 1 := ⟨_, rfl⟩
                refine wa_iinc B [(2, .int v_17), (3, .int v_10), (0, .ref a0), (1, .int n1)] v_17 dX12_isTaken_63 1 rfl (by rw [ev_17]; rfl) (by decide) rfl ?_
                refine wa_goto B 2 dX12_isTaken_66 (by decide) ?_
                have tv_17 : v_17.toInt = v_1.toInt + 1 := by have b0 := zx_bd v_1; rw [ev_17]; exact zx_add (show (-2147483648 : Int) ≤ v_1.toInt + 1 by omega) (show v_1.toInt + 1 < (2147483648 : Int) by omega)
                refine WA.sub [0, 2, 3] rfl ?_
                exact ih_4 v_17 (show 3 ≤ v_17.toInt from by first | assumption | omega | decide) (show (6 - v_17.toInt : Int).toNat < _ from by omega)
              · refine wa_aload_n B dX12_isTaken_37 rfl 2 rfl ?_
                obtain ⟨a_18, ea_18, ha_18, ka_18, la_18⟩ := hV.refn (n := 30) (t := 227) ha0 ka0 17 rfl (by decide) rfl (by decide)
                refine wa_getR B (C := RX12) (T := TX12) (N := 51) iq_X12_isTaken_X12 ha0 ka0 (by decide) rfl 17 (by decide) (by decide) (by decide +kernel) rfl (fun _ _ _ => rfl) (v := a_18) ea_18 dX12_isTaken_38 ?_
                refine wa_iconst B 5 dX12_isTaken_41 (by decide) ?_
                refine wa_iload_n B dX12_isTaken_42 rfl 1 rfl ?_
                refine wa_imul B dX12_isTaken_43 (fun v_19 ev_19 => ?_)
                refine wa_iload_n B dX12_isTaken_44 rfl 0 rfl ?_
                refine wa_iadd B dX12_isTaken_45 (fun v_20 ev_20 => ?_)
                have tv_19 : v_19.toInt = 5 * v_1.toInt := by have b1 := zx_bd v_1; rw [ev_19]; exact zx_mul (show (-2147483648 : Int) ≤ 5 * v_1.toInt by omega) (show 5 * v_1.toInt < (2147483648 : Int) by omega)
                have tv_20 : v_20.toInt = v_19.toInt + v_10.toInt := by have b0 := zx_bd v_19; have b1 := zx_bd v_10; rw [ev_20]; exact zx_add (show (-2147483648 : Int) ≤ v_19.toInt + v_10.toInt by omega) (show v_19.toInt + v_10.toInt < (2147483648 : Int) by omega)
                refine wa_laload B ha_18 ka_18 (by decide) (by decide) (show 0 ≤ v_20.toInt by omega) (show v_20.toInt < (h.2.1 a_18 : Int) by omega) (v := (q.2.2.2.2 a_18 (v_20 : Int32).toNatClampNeg)) rfl dX12_isTaken_46 ?_
                refine wa_aload_n B dX12_isTaken_47 rfl 2 rfl ?_
                refine wa_getJ B (C := RX12) (T := TX12) (N := 51) iq_X12_isTaken_X12 ha0 ka0 (by decide) rfl 11 (by decide) (by decide) (by decide +kernel) rfl (by decide) (v := (q.2.1 a0 11)) rfl dX12_isTaken_48 ?_
                refine wa_lcmp B dX12_isTaken_51 (fun v_21 ev_21 => ?_)
                refine wa_if_ne B 57 dX12_isTaken_52 (by decide) (fun (t_22 : ¬ v_21.toInt = 0) => ?_) (fun (t_22 : v_21.toInt = 0) => ?_)
                · obtain ⟨v_23, ev_23⟩ : ∃ z : Int32, z = v_10 + 1 := ⟨_, rfl⟩
                  refine wa_iinc B [(3, .int v_23), (2, .int v_1), (0, .ref a0), (1, .int n1)] v_23 dX12_isTaken_57 0 rfl (by rw [ev_23]; rfl) (by decide) rfl ?_
                  refine wa_goto B 27 dX12_isTaken_60 (by decide) ?_
                  have tv_23 : v_23.toInt = v_10.toInt + 1 := by have b0 := zx_bd v_10; rw [ev_23]; exact zx_add (show (-2147483648 : Int) ≤ v_10.toInt + 1 by omega) (show v_10.toInt + 1 < (2147483648 : Int) by omega)
                  exact ih_13 v_23 (show 0 ≤ v_23.toInt from by first | assumption | omega | decide) (show (5 - v_23.toInt : Int).toNat < _ from by omega)
                · refine wa_iconst B 1 dX12_isTaken_55 (by decide) ?_
                  exact hret _ _ _ _ dX12_isTaken_56 (Or.inr rfl) ⟨rfl, (by have h9 : (1 : Int32).toInt = 1 := rfl; first | omega | (refine ⟨?_, ?_⟩ <;> omega) | trivial)⟩
          exact Lp_27_12 _ 0 (show 0 ≤ 0 from by first | assumption | omega | decide) (Nat.lt_succ_self _)
        · refine wa_iconst B 1 dX12_isTaken_23 (by decide) ?_
          exact hret _ _ _ _ dX12_isTaken_24 (Or.inr rfl) ⟨rfl, (by have h9 : (1 : Int32).toInt = 1 := rfl; first | omega | (refine ⟨?_, ?_⟩ <;> omega) | trivial)⟩
  exact Lp_2_3 _ 3 (show 3 ≤ 3 from by first | assumption | omega | decide) (Nat.lt_succ_self _)
theorem iq_X12_mostOf_X12 : ∀ w ∈ wsX120, w ∈ wsX12_mostOf := fun _ h => List.mem_cons_of_mem _ (List.mem_append_right _ h)
set_option maxHeartbeats 4000000 in
set_option maxRecDepth 100000 in
theorem k_X12_mostOf (l : Launch) (dC : Nat → ClassId) (dI : Nat → Nat → Nat) (h : Sh) (L : List Nat) (hN : sx_nd L) (q : Sg) (hV : sx_V h L q) {a0 : Nat} (ha0 : a0 ∈ L) (ka0 : h.1 a0 = 12) (n1 : Int32) (n2 : Int32)   (hy0 : 0 ≤ n1.toInt) (hy1 : n1.toInt ≤ 2) (hy2 : 0 ≤ n2.toInt) (hy3 : n2.toInt ≤ 4) : CMi l dC dI h L yX12_mostOf wsX12_mostOf ({ frames := 0, cells := 0, slots := 0, locals := 0 } : Room) q [.ref a0, .int n1, .int n2] (fun r q' => q = q') := by
  refine cm_i (cc := cX12_mostOf) (mL := 3) (own := RX12) hN (by decide) rfl rfl (Nat.le_of_ble_eq_true rfl) (fun Z B hret => ?_)
  show WA l dC dI h L ({ frames := 0, cells := 0, slots := 0, locals := 0 } : Room) 3 Z q 0 [(0, .ref a0), (1, .int n1), (2, .int n2)] []
  refine wa_iload_n B dX12_mostOf_0 rfl 2 rfl ?_
  refine wa_aload_n B dX12_mostOf_1 rfl 0 rfl ?_
  obtain ⟨a_1, ea_1, ha_1, ka_1, la_1⟩ := hV.refn (n := 6) (t := 128) ha0 ka0 18 rfl (by decide) rfl (by decide)
  refine wa_getR B (C := RX12) (T := TX12) (N := 51) iq_X12_mostOf_X12 ha0 ka0 (by decide) rfl 18 (by decide) (by decide) (by decide +kernel) rfl (fun _ _ _ => rfl) (v := a_1) ea_1 dX12_mostOf_2 ?_
  refine wa_iload_n B dX12_mostOf_5 rfl 1 rfl ?_
  refine wa_iaload B ha_1 ka_1 (by decide) (by decide) (show 0 ≤ n1.toInt by omega) (show n1.toInt < (h.2.1 a_1 : Int) by omega) (v := (q.2.2.2.1 a_1 (n1 : Int32).toNatClampNeg)) rfl dX12_mostOf_6 ?_
  have g_2 : (0 : Int) ≤ ((q.2.2.2.1 a_1 (n1 : Int32).toNatClampNeg)).toInt ∧ ((q.2.2.2.1 a_1 (n1 : Int32).toNatClampNeg)).toInt ≤ 5 := hV.cnt ha_1 ka_1 _
  refine wa_iconst B 1 dX12_mostOf_7 (by decide) ?_
  refine wa_isub B dX12_mostOf_8 (fun v_3 ev_3 => ?_)
  refine wa_icmp_ne B 17 dX12_mostOf_9 (by decide) (fun (t_4 : ¬ n2.toInt = v_3.toInt) => ?_) (fun (t_4 : n2.toInt = v_3.toInt) => ?_)
  · refine wa_aload_n B dX12_mostOf_17 rfl 0 rfl ?_
    obtain ⟨a_5, ea_5, ha_5, ka_5, la_5⟩ := hV.refn (n := 30) (t := 129) ha0 ka0 19 rfl (by decide) rfl (by decide)
    refine wa_getR B (C := RX12) (T := TX12) (N := 51) iq_X12_mostOf_X12 ha0 ka0 (by decide) rfl 19 (by decide) (by decide) (by decide +kernel) rfl (fun _ _ _ => rfl) (v := a_5) ea_5 dX12_mostOf_18 ?_
    refine wa_iconst B 5 dX12_mostOf_21 (by decide) ?_
    refine wa_iload_n B dX12_mostOf_22 rfl 1 rfl ?_
    refine wa_imul B dX12_mostOf_23 (fun v_6 ev_6 => ?_)
    refine wa_iload_n B dX12_mostOf_24 rfl 2 rfl ?_
    refine wa_iadd B dX12_mostOf_25 (fun v_7 ev_7 => ?_)
    refine wa_iconst B 1 dX12_mostOf_26 (by decide) ?_
    refine wa_iadd B dX12_mostOf_27 (fun v_8 ev_8 => ?_)
    have tv_6 : v_6.toInt = 5 * n1.toInt := by have b1 := zx_bd n1; rw [ev_6]; exact zx_mul (show (-2147483648 : Int) ≤ 5 * n1.toInt by omega) (show 5 * n1.toInt < (2147483648 : Int) by omega)
    have tv_7 : v_7.toInt = v_6.toInt + n2.toInt := by have b0 := zx_bd v_6; have b1 := zx_bd n2; rw [ev_7]; exact zx_add (show (-2147483648 : Int) ≤ v_6.toInt + n2.toInt by omega) (show v_6.toInt + n2.toInt < (2147483648 : Int) by omega)
    have tv_8 : v_8.toInt = v_7.toInt + 1 := by have b0 := zx_bd v_7; rw [ev_8]; exact zx_add (show (-2147483648 : Int) ≤ v_7.toInt + 1 by omega) (show v_7.toInt + 1 < (2147483648 : Int) by omega)
    refine wa_iaload B ha_5 ka_5 (by decide) (by decide) (show 0 ≤ v_8.toInt by omega) (show v_8.toInt < (h.2.1 a_5 : Int) by omega) (v := (q.2.2.2.1 a_5 (v_8 : Int32).toNatClampNeg)) rfl dX12_mostOf_28 ?_
    refine wa_iconst B 1 dX12_mostOf_29 (by decide) ?_
    refine wa_isub B dX12_mostOf_30 (fun v_9 ev_9 => ?_)
    exact hret _ _ _ _ dX12_mostOf_31 rfl
  · refine wa_bipush B 99 dX12_mostOf_12 (by decide) ?_
    refine wa_goto B 31 dX12_mostOf_14 (by decide) ?_
    exact hret _ _ _ _ dX12_mostOf_31 rfl
set_option maxHeartbeats 4000000 in
set_option maxRecDepth 100000 in
theorem k_X12_canBe (l : Launch) (dC : Nat → ClassId) (dI : Nat → Nat → Nat) (h : Sh) (L : List Nat) (hN : sx_nd L) (q : Sg) (hV : sx_V h L q) {a0 : Nat} (ha0 : a0 ∈ L) (ka0 : h.1 a0 = 12) (n1 : Int32) (n2 : Int32) (n3 : Int32)   (hy0 : (-48) ≤ n1.toInt) (hy1 : n1.toInt ≤ 207) (hy2 : (-48) ≤ n2.toInt) (hy3 : n2.toInt ≤ 207) : CMi l dC dI h L yX12_canBe wsX12_canBe ({ frames := 1, cells := 0, slots := 0, locals := 24 } : Room) q [.ref a0, .int n1, .int n2, .int n3] (fun r q' => q = q' ∧ (r.toInt = 0 ∨ r.toInt = 1)) := by
  refine cm_z (cc := cX12_canBe) (mL := 6) (own := RX12) hN (by decide) rfl rfl (Nat.le_of_ble_eq_true rfl) (fun Z B hret => ?_)
  show WA l dC dI h L ({ frames := 1, cells := 0, slots := 0, locals := 24 } : Room) 6 Z q 0 [(0, .ref a0), (1, .int n1), (2, .int n2), (3, .int n3)] []
  refine wa_iload_n B dX12_canBe_0 rfl 1 rfl ?_
  refine wa_bipush B 10 dX12_canBe_1 (by decide) ?_
  have Jn_11_4 : ∀  (v_1 : Int32), (-48) ≤ v_1.toInt → v_1.toInt ≤ 300 → WA l dC dI h L ({ frames := 1, cells := 0, slots := 0, locals := 24 } : Room) 6 Z q 11 [(0, .ref a0), (1, .int n1), (2, .int n2), (3, .int n3)] [.int v_1] := by
    intro v_1 x_2 x_3
    refine wa_istore B [(4, .int v_1), (0, .ref a0), (1, .int n1), (2, .int n2), (3, .int n3)] dX12_canBe_11 (by decide) rfl ?_
    have Lp_13_8 : ∀ (n : Nat) (v_5 : Int32), (-48) ≤ v_5.toInt → v_5.toInt ≤ 300 → (300 - v_5.toInt : Int).toNat < n → WA l dC dI h L ({ frames := 1, cells := 0, slots := 0, locals := 24 } : Room) 6 Z q 13 [(4, .int v_5), (0, .ref a0), (1, .int n1), (2, .int n2), (3, .int n3)] [] := by
      intro n
      induction n with
      | zero =>
        intro v_5 x_6 x_7 hn
        exact absurd hn (Nat.not_lt_zero _)
      | succ n ih_9 =>
        intro v_5 x_6 x_7 hn
        refine wa_iload B dX12_canBe_13 0 rfl ?_
        refine wa_iload_n B dX12_canBe_15 rfl 2 rfl ?_
        refine wa_bipush B 10 dX12_canBe_16 (by decide) ?_
        have Jn_27_12 : ∀  (v_10 : Int32), v_10.toInt ≤ 207 → WA l dC dI h L ({ frames := 1, cells := 0, slots := 0, locals := 24 } : Room) 6 Z q 27 [(4, .int v_5), (0, .ref a0), (1, .int n1), (2, .int n2), (3, .int n3)] [.int v_10, .int v_5] := by
          intro v_10 x_11
          refine wa_icmp_gt B 86 dX12_canBe_27 (by decide) (fun (t_13 : v_10.toInt < v_5.toInt) => ?_) (fun (t_13 : ¬ v_10.toInt < v_5.toInt) => ?_)
          · refine wa_iconst B 0 dX12_canBe_86 (by decide) ?_
            exact hret _ _ _ _ dX12_canBe_87 (Or.inl rfl) ⟨rfl, (by have h9 : (0 : Int32).toInt = 0 := rfl; first | omega | (refine ⟨?_, ?_⟩ <;> omega) | trivial)⟩
          · refine wa_iload_n B dX12_canBe_30 rfl 3 rfl ?_
            refine wa_bipush B 10 dX12_canBe_31 (by decide) ?_
            have Jn_41_17 : ∀  (v_14 : Int32), (-48) ≤ v_14.toInt → v_14.toInt ≤ 300 → WA l dC dI h L ({ frames := 1, cells := 0, slots := 0, locals := 24 } : Room) 6 Z q 41 [(4, .int v_5), (0, .ref a0), (1, .int n1), (2, .int n2), (3, .int n3)] [.int v_14] := by
              intro v_14 x_15 x_16
              refine wa_istore B [(5, .int v_14), (4, .int v_5), (0, .ref a0), (1, .int n1), (2, .int n2), (3, .int n3)] dX12_canBe_41 (by decide) rfl ?_
              have Lp_43_21 : ∀ (n : Nat) (v_18 : Int32), (-48) ≤ v_18.toInt → v_18.toInt ≤ 300 → (300 - v_18.toInt : Int).toNat < n → WA l dC dI h L ({ frames := 1, cells := 0, slots := 0, locals := 24 } : Room) 6 Z q 43 [(5, .int v_18), (4, .int v_5), (0, .ref a0), (1, .int n1), (2, .int n2), (3, .int n3)] [] := by
                intro n
                induction n with
                | zero =>
                  intro v_18 x_19 x_20 hn
                  exact absurd hn (Nat.not_lt_zero _)
                | succ n ih_22 =>
                  intro v_18 x_19 x_20 hn
                  refine wa_iload B dX12_canBe_43 0 rfl ?_
                  refine wa_iload_n B dX12_canBe_45 rfl 4 rfl ?_
                  refine wa_bipush B 10 dX12_canBe_46 (by decide) ?_
                  have Jn_57_25 : ∀  (v_23 : Int32), v_23.toInt ≤ 207 → WA l dC dI h L ({ frames := 1, cells := 0, slots := 0, locals := 24 } : Room) 6 Z q 57 [(5, .int v_18), (4, .int v_5), (0, .ref a0), (1, .int n1), (2, .int n2), (3, .int n3)] [.int v_23, .int v_18] := by
                    intro v_23 x_24
                    refine wa_icmp_gt B 80 dX12_canBe_57 (by decide) (fun (t_26 : v_23.toInt < v_18.toInt) => ?_) (fun (t_26 : ¬ v_23.toInt < v_18.toInt) => ?_)
                    · obtain ⟨v_27, ev_27⟩ : ∃ z : Int32, z = v_5 + 1 := ⟨_, rfl⟩
                      refine wa_iinc B [(4, .int v_27), (5, .int v_18), (0, .ref a0), (1, .int n1), (2, .int n2), (3, .int n3)] v_27 dX12_canBe_80 1 rfl (by rw [ev_27]; rfl) (by decide) rfl ?_
                      refine wa_goto B 13 dX12_canBe_83 (by decide) ?_
                      have tv_27 : v_27.toInt = v_5.toInt + 1 := by have b0 := zx_bd v_5; rw [ev_27]; exact zx_add (show (-2147483648 : Int) ≤ v_5.toInt + 1 by omega) (show v_5.toInt + 1 < (2147483648 : Int) by omega)
                      refine WA.sub [0, 2, 3, 4, 5] rfl ?_
                      exact ih_9 v_27 (show (-48) ≤ v_27.toInt from by first | assumption | omega | decide) (show v_27.toInt ≤ 300 from by first | assumption | omega | decide) (show (300 - v_27.toInt : Int).toNat < _ from by omega)
                    · refine wa_aload_n B dX12_canBe_60 rfl 2 rfl ?_
                      refine wa_iload B dX12_canBe_61 1 rfl ?_
                      refine wa_iload B dX12_canBe_63 0 rfl ?_
                      refine wa_iload_n B dX12_canBe_65 rfl 5 rfl ?_
                      refine wa_callVi B (x := (RX12, TX12, 51)) (As := [.int v_5, .int v_18, .int n3]) (rest := []) (k_X12_isGood l dC dI h L hN q hV (a0 := a0) ha0 ka0 v_5 v_18 n3  ) (cwV 3 B.1.2.2.2.2 gX12_canBe_X12_isGood rfl rfl rfl (by decide +kernel) ⟨Nat.le_of_ble_eq_true rfl, Nat.le_of_ble_eq_true rfl⟩) ha0 ka0 (by decide) rfl rfl rfl (Nat.le_of_ble_eq_true rfl) dX12_canBe_66 (fun r_29 q_28 w_30 => ?_)
                      obtain ⟨ew_30, hw_30⟩ := w_30
                      subst ew_30
                      refine wa_if_eq B 74 dX12_canBe_69 (by decide) (fun (t_31 : r_29.toInt = 0) => ?_) (fun (t_31 : ¬ r_29.toInt = 0) => ?_)
                      · obtain ⟨v_32, ev_32⟩ : ∃ z : Int32, z = v_18 + 1 := ⟨_, rfl⟩
                        refine wa_iinc B [(5, .int v_32), (4, .int v_5), (0, .ref a0), (1, .int n1), (2, .int n2), (3, .int n3)] v_32 dX12_canBe_74 0 rfl (by rw [ev_32]; rfl) (by decide) rfl ?_
                        refine wa_goto B 43 dX12_canBe_77 (by decide) ?_
                        have tv_32 : v_32.toInt = v_18.toInt + 1 := by have b0 := zx_bd v_18; rw [ev_32]; exact zx_add (show (-2147483648 : Int) ≤ v_18.toInt + 1 by omega) (show v_18.toInt + 1 < (2147483648 : Int) by omega)
                        exact ih_22 v_32 (show (-48) ≤ v_32.toInt from by first | assumption | omega | decide) (show v_32.toInt ≤ 300 from by first | assumption | omega | decide) (show (300 - v_32.toInt : Int).toNat < _ from by omega)
                      · refine wa_iconst B 1 dX12_canBe_72 (by decide) ?_
                        exact hret _ _ _ _ dX12_canBe_73 (Or.inr rfl) ⟨rfl, (by have h9 : (1 : Int32).toInt = 1 := rfl; first | omega | (refine ⟨?_, ?_⟩ <;> omega) | trivial)⟩
                  refine wa_icmp_ne B 56 dX12_canBe_48 (by decide) (fun (t_33 : ¬ n2.toInt = 10) => ?_) (fun (t_33 : n2.toInt = 10) => ?_)
                  · refine wa_iload_n B dX12_canBe_56 rfl 4 rfl ?_
                    exact Jn_57_25 n2 (show n2.toInt ≤ 207 from by first | assumption | omega | decide)
                  · refine wa_bipush B 9 dX12_canBe_51 (by decide) ?_
                    refine wa_goto B 57 dX12_canBe_53 (by decide) ?_
                    exact Jn_57_25 9 (show 9 ≤ 207 from by first | assumption | omega | decide)
              exact Lp_43_21 _ v_14 (show (-48) ≤ v_14.toInt from by first | assumption | omega | decide) (show v_14.toInt ≤ 300 from by first | assumption | omega | decide) (Nat.lt_succ_self _)
            refine wa_icmp_ne B 40 dX12_canBe_33 (by decide) (fun (t_34 : ¬ n2.toInt = 10) => ?_) (fun (t_34 : n2.toInt = 10) => ?_)
            · refine wa_iload_n B dX12_canBe_40 rfl 3 rfl ?_
              exact Jn_41_17 n2 (show (-48) ≤ n2.toInt from by first | assumption | omega | decide) (show n2.toInt ≤ 300 from by first | assumption | omega | decide)
            · refine wa_iconst B 0 dX12_canBe_36 (by decide) ?_
              refine wa_goto B 41 dX12_canBe_37 (by decide) ?_
              exact Jn_41_17 0 (show (-48) ≤ 0 from by first | assumption | omega | decide) (show 0 ≤ 300 from by first | assumption | omega | decide)
        refine wa_icmp_ne B 26 dX12_canBe_18 (by decide) (fun (t_35 : ¬ n1.toInt = 10) => ?_) (fun (t_35 : n1.toInt = 10) => ?_)
        · refine wa_iload_n B dX12_canBe_26 rfl 2 rfl ?_
          exact Jn_27_12 n1 (show n1.toInt ≤ 207 from by first | assumption | omega | decide)
        · refine wa_bipush B 9 dX12_canBe_21 (by decide) ?_
          refine wa_goto B 27 dX12_canBe_23 (by decide) ?_
          exact Jn_27_12 9 (show 9 ≤ 207 from by first | assumption | omega | decide)
    exact Lp_13_8 _ v_1 (show (-48) ≤ v_1.toInt from by first | assumption | omega | decide) (show v_1.toInt ≤ 300 from by first | assumption | omega | decide) (Nat.lt_succ_self _)
  refine wa_icmp_ne B 10 dX12_canBe_3 (by decide) (fun (t_36 : ¬ n1.toInt = 10) => ?_) (fun (t_36 : n1.toInt = 10) => ?_)
  · refine wa_iload_n B dX12_canBe_10 rfl 1 rfl ?_
    exact Jn_11_4 n1 (show (-48) ≤ n1.toInt from by first | assumption | omega | decide) (show n1.toInt ≤ 300 from by first | assumption | omega | decide)
  · refine wa_iconst B 0 dX12_canBe_6 (by decide) ?_
    refine wa_goto B 11 dX12_canBe_7 (by decide) ?_
    exact Jn_11_4 0 (show (-48) ≤ 0 from by first | assumption | omega | decide) (show 0 ≤ 300 from by first | assumption | omega | decide)
theorem iq_X12_worth_X12 : ∀ w ∈ wsX120, w ∈ wsX12_worth := fun _ h => List.mem_cons_of_mem _ (List.mem_append_right _ h)
set_option maxHeartbeats 4000000 in
set_option maxRecDepth 100000 in
theorem k_X12_worth (l : Launch) (dC : Nat → ClassId) (dI : Nat → Nat → Nat) (h : Sh) (L : List Nat) (hN : sx_nd L) (q : Sg) (hV : sx_V h L q) {a0 : Nat} (ha0 : a0 ∈ L) (ka0 : h.1 a0 = 12) (n1 : Int32) (n2 : Int32)   (hy0 : 0 ≤ n1.toInt) (hy1 : n1.toInt ≤ 5) (hy2 : (-1) ≤ n2.toInt) (hy3 : n2.toInt ≤ 4) : CMi l dC dI h L yX12_worth wsX12_worth ({ frames := 0, cells := 0, slots := 0, locals := 0 } : Room) q [.ref a0, .int n1, .int n2] (fun r q' => q = q') := by
  refine cm_i (cc := cX12_worth) (mL := 5) (own := RX12) hN (by decide) rfl rfl (Nat.le_of_ble_eq_true rfl) (fun Z B hret => ?_)
  show WA l dC dI h L ({ frames := 0, cells := 0, slots := 0, locals := 0 } : Room) 5 Z q 0 [(0, .ref a0), (1, .int n1), (2, .int n2)] []
  refine wa_iconst B 1 dX12_worth_0 (by decide) ?_
  refine wa_istore_n B [(3, .int 1), (0, .ref a0), (1, .int n1), (2, .int n2)] dX12_worth_1 rfl (by decide) rfl ?_
  refine wa_iconst B 1 dX12_worth_2 (by decide) ?_
  refine wa_istore B [(4, .int 1), (3, .int 1), (0, .ref a0), (1, .int n1), (2, .int n2)] dX12_worth_3 (by decide) rfl ?_
  have Lp_5_4 : ∀ (n : Nat) (v_1 : Int32) (v_2 : Int32), 1 ≤ v_1.toInt → (5 - v_1.toInt : Int).toNat < n → WA l dC dI h L ({ frames := 0, cells := 0, slots := 0, locals := 0 } : Room) 5 Z q 5 [(4, .int v_1), (3, .int v_2), (0, .ref a0), (1, .int n1), (2, .int n2)] [] := by
    intro n
    induction n with
    | zero =>
      intro v_1 v_2 x_3 hn
      exact absurd hn (Nat.not_lt_zero _)
    | succ n ih_5 =>
      intro v_1 v_2 x_3 hn
      refine wa_iload B dX12_worth_5 0 rfl ?_
      refine wa_iload_n B dX12_worth_7 rfl 4 rfl ?_
      refine wa_icmp_gt B 31 dX12_worth_8 (by decide) (fun (t_6 : n2.toInt < v_1.toInt) => ?_) (fun (t_6 : ¬ n2.toInt < v_1.toInt) => ?_)
      · refine wa_iload_n B dX12_worth_31 rfl 1 rfl ?_
        exact hret _ _ _ _ dX12_worth_32 rfl
      · refine wa_iload_n B dX12_worth_11 rfl 1 rfl ?_
        refine wa_aload_n B dX12_worth_12 rfl 2 rfl ?_
        obtain ⟨a_7, ea_7, ha_7, ka_7, la_7⟩ := hV.refn (n := 30) (t := 129) ha0 ka0 19 rfl (by decide) rfl (by decide)
        refine wa_getR B (C := RX12) (T := TX12) (N := 51) iq_X12_worth_X12 ha0 ka0 (by decide) rfl 19 (by decide) (by decide) (by decide +kernel) rfl (fun _ _ _ => rfl) (v := a_7) ea_7 dX12_worth_13 ?_
        refine wa_iconst B 5 dX12_worth_16 (by decide) ?_
        refine wa_iload_n B dX12_worth_17 rfl 3 rfl ?_
        refine wa_imul B dX12_worth_18 (fun v_8 ev_8 => ?_)
        refine wa_iload B dX12_worth_19 0 rfl ?_
        refine wa_iadd B dX12_worth_21 (fun v_9 ev_9 => ?_)
        have tv_8 : v_8.toInt = 5 * n1.toInt := by have b1 := zx_bd n1; rw [ev_8]; exact zx_mul (show (-2147483648 : Int) ≤ 5 * n1.toInt by omega) (show 5 * n1.toInt < (2147483648 : Int) by omega)
        have tv_9 : v_9.toInt = v_8.toInt + v_1.toInt := by have b0 := zx_bd v_8; have b1 := zx_bd v_1; rw [ev_9]; exact zx_add (show (-2147483648 : Int) ≤ v_8.toInt + v_1.toInt by omega) (show v_8.toInt + v_1.toInt < (2147483648 : Int) by omega)
        refine wa_iaload B ha_7 ka_7 (by decide) (by decide) (show 0 ≤ v_9.toInt by omega) (show v_9.toInt < (h.2.1 a_7 : Int) by omega) (v := (q.2.2.2.1 a_7 (v_9 : Int32).toNatClampNeg)) rfl dX12_worth_22 ?_
        refine wa_imul B dX12_worth_23 (fun v_10 ev_10 => ?_)
        refine wa_istore_n B [(3, .int v_10), (4, .int v_1), (0, .ref a0), (1, .int n1), (2, .int n2)] dX12_worth_24 rfl (by decide) rfl ?_
        obtain ⟨v_11, ev_11⟩ : ∃ z : Int32, z = v_1 + 1 := ⟨_, rfl⟩
        refine wa_iinc B [(4, .int v_11), (3, .int v_10), (0, .ref a0), (1, .int n1), (2, .int n2)] v_11 dX12_worth_25 1 rfl (by rw [ev_11]; rfl) (by decide) rfl ?_
        refine wa_goto B 5 dX12_worth_28 (by decide) ?_
        have tv_11 : v_11.toInt = v_1.toInt + 1 := by have b0 := zx_bd v_1; rw [ev_11]; exact zx_add (show (-2147483648 : Int) ≤ v_1.toInt + 1 by omega) (show v_1.toInt + 1 < (2147483648 : Int) by omega)
        exact ih_5 v_11 v_10 (show 1 ≤ v_11.toInt from by first | assumption | omega | decide) (show (5 - v_11.toInt : Int).toNat < _ from by omega)
  exact Lp_5_4 _ 1 1 (show 1 ≤ 1 from by first | assumption | omega | decide) (Nat.lt_succ_self _)
theorem iq_X12_isUnit_X12 : ∀ w ∈ wsX120, w ∈ wsX12_isUnit := fun _ h => List.mem_cons_of_mem _ (List.mem_append_right _ h)
set_option maxHeartbeats 4000000 in
set_option maxRecDepth 100000 in
theorem k_X12_isUnit (l : Launch) (dC : Nat → ClassId) (dI : Nat → Nat → Nat) (h : Sh) (L : List Nat) (hN : sx_nd L) (q : Sg) (hV : sx_V h L q) {a0 : Nat} (ha0 : a0 ∈ L) (ka0 : h.1 a0 = 12)    : CMi l dC dI h L yX12_isUnit wsX12_isUnit ({ frames := 0, cells := 0, slots := 0, locals := 0 } : Room) q [.ref a0] (fun r q' => sx_V h L q' ∧ sx_fr h L (fun a => h.1 a = 12) q q' ∧ sx_kf a0 [32, 33] q q' ∧ (r.toInt = 0 ∨ r.toInt = 1)) := by
  refine cm_z (cc := cX12_isUnit) (mL := 3) (own := RX12) hN (by decide) rfl rfl (Nat.le_of_ble_eq_true rfl) (fun Z B hret => ?_)
  have hF : sx_fr h L (fun a => h.1 a = 12) q q := sx_fr.rf
  have hK : sx_kf a0 [32, 33] q q := sx_kf.rf
  show WA l dC dI h L ({ frames := 0, cells := 0, slots := 0, locals := 0 } : Room) 3 Z q 0 [(0, .ref a0)] []
  refine wa_iconst B 0 dX12_isUnit_0 (by decide) ?_
  refine wa_istore_n B [(1, .int 0), (0, .ref a0)] dX12_isUnit_1 rfl (by decide) rfl ?_
  have Lp_2_3 : ∀ (n : Nat) (v_1 : Int32), 0 ≤ v_1.toInt → (3 - v_1.toInt : Int).toNat < n → WA l dC dI h L ({ frames := 0, cells := 0, slots := 0, locals := 0 } : Room) 3 Z q 2 [(1, .int v_1), (0, .ref a0)] [] := by
    intro n
    induction n with
    | zero =>
      intro v_1 x_2 hn
      exact absurd hn (Nat.not_lt_zero _)
    | succ n ih_4 =>
      intro v_1 x_2 hn
      refine wa_iload_n B dX12_isUnit_2 rfl 0 rfl ?_
      refine wa_aload_n B dX12_isUnit_3 rfl 1 rfl ?_
      refine wa_getI B (C := RX12) (T := TX12) (N := 51) iq_X12_isUnit_X12 ha0 ka0 (by decide) rfl 20 (by decide) (by decide) (by decide +kernel) rfl (by decide) (v := (q.1 a0 20)) rfl dX12_isUnit_4 ?_
      have g_5 : (0 : Int) ≤ (q.1 a0 20).toInt ∧ (q.1 a0 20).toInt ≤ 3 := hV.int ha0 ka0 20
      refine wa_icmp_ge B 75 dX12_isUnit_7 (by decide) (fun (t_6 : (q.1 a0 20).toInt ≤ v_1.toInt) => ?_) (fun (t_6 : ¬ (q.1 a0 20).toInt ≤ v_1.toInt) => ?_)
      · refine wa_iconst B 0 dX12_isUnit_75 (by decide) ?_
        exact hret _ _ _ _ dX12_isUnit_76 (Or.inl rfl) ⟨hV, hF, hK, (by have h9 : (0 : Int32).toInt = 0 := rfl; first | omega | (refine ⟨?_, ?_⟩ <;> omega) | trivial)⟩
      · refine wa_iconst B 0 dX12_isUnit_10 (by decide) ?_
        refine wa_istore_n B [(2, .int 0), (1, .int v_1), (0, .ref a0)] dX12_isUnit_11 rfl (by decide) rfl ?_
        have Lp_12_9 : ∀ (n : Nat) (v_7 : Int32), 0 ≤ v_7.toInt → (5 - v_7.toInt : Int).toNat < n → WA l dC dI h L ({ frames := 0, cells := 0, slots := 0, locals := 0 } : Room) 3 Z q 12 [(2, .int v_7), (1, .int v_1), (0, .ref a0)] [] := by
          intro n
          induction n with
          | zero =>
            intro v_7 x_8 hn
            exact absurd hn (Nat.not_lt_zero _)
          | succ n ih_10 =>
            intro v_7 x_8 hn
            refine wa_iload_n B dX12_isUnit_12 rfl 0 rfl ?_
            refine wa_aload_n B dX12_isUnit_13 rfl 2 rfl ?_
            obtain ⟨a_11, ea_11, ha_11, ka_11, la_11⟩ := hV.refn (n := 6) (t := 128) ha0 ka0 18 rfl (by decide) rfl (by decide)
            refine wa_getR B (C := RX12) (T := TX12) (N := 51) iq_X12_isUnit_X12 ha0 ka0 (by decide) rfl 18 (by decide) (by decide) (by decide +kernel) rfl (fun _ _ _ => rfl) (v := a_11) ea_11 dX12_isUnit_14 ?_
            refine wa_iload_n B dX12_isUnit_17 rfl 1 rfl ?_
            refine wa_iaload B ha_11 ka_11 (by decide) (by decide) (show 0 ≤ v_1.toInt by omega) (show v_1.toInt < (h.2.1 a_11 : Int) by omega) (v := (q.2.2.2.1 a_11 (v_1 : Int32).toNatClampNeg)) rfl dX12_isUnit_18 ?_
            have g_12 : (0 : Int) ≤ ((q.2.2.2.1 a_11 (v_1 : Int32).toNatClampNeg)).toInt ∧ ((q.2.2.2.1 a_11 (v_1 : Int32).toNatClampNeg)).toInt ≤ 5 := hV.cnt ha_11 ka_11 _
            refine wa_icmp_ge B 69 dX12_isUnit_19 (by decide) (fun (t_13 : ((q.2.2.2.1 a_11 (v_1 : Int32).toNatClampNeg)).toInt ≤ v_7.toInt) => ?_) (fun (t_13 : ¬ ((q.2.2.2.1 a_11 (v_1 : Int32).toNatClampNeg)).toInt ≤ v_7.toInt) => ?_)
            · obtain ⟨v_14, ev_14⟩ : ∃ z : Int32, z = v_1 + 1 := ⟨_, rfl⟩
              refine wa_iinc B [(1, .int v_14), (2, .int v_7), (0, .ref a0)] v_14 dX12_isUnit_69 1 rfl (by rw [ev_14]; rfl) (by decide) rfl ?_
              refine wa_goto B 2 dX12_isUnit_72 (by decide) ?_
              have tv_14 : v_14.toInt = v_1.toInt + 1 := by have b0 := zx_bd v_1; rw [ev_14]; exact zx_add (show (-2147483648 : Int) ≤ v_1.toInt + 1 by omega) (show v_1.toInt + 1 < (2147483648 : Int) by omega)
              refine WA.sub [0, 2] rfl ?_
              exact ih_4 v_14 (show 0 ≤ v_14.toInt from by first | assumption | omega | decide) (show (3 - v_14.toInt : Int).toNat < _ from by omega)
            · refine wa_aload_n B dX12_isUnit_22 rfl 2 rfl ?_
              refine wa_getI B (C := RX12) (T := TX12) (N := 51) iq_X12_isUnit_X12 ha0 ka0 (by decide) rfl 8 (by decide) (by decide) (by decide +kernel) rfl (by decide) (v := (q.1 a0 8)) rfl dX12_isUnit_23 ?_
              refine wa_iconst B 2 dX12_isUnit_26 (by decide) ?_
              refine wa_icmp_ne B 63 dX12_isUnit_27 (by decide) (fun (t_15 : ¬ (q.1 a0 8).toInt = 2) => ?_) (fun (t_15 : (q.1 a0 8).toInt = 2) => ?_)
              · obtain ⟨v_16, ev_16⟩ : ∃ z : Int32, z = v_7 + 1 := ⟨_, rfl⟩
                refine wa_iinc B [(2, .int v_16), (1, .int v_1), (0, .ref a0)] v_16 dX12_isUnit_63 0 rfl (by rw [ev_16]; rfl) (by decide) rfl ?_
                refine wa_goto B 12 dX12_isUnit_66 (by decide) ?_
                have tv_16 : v_16.toInt = v_7.toInt + 1 := by have b0 := zx_bd v_7; rw [ev_16]; exact zx_add (show (-2147483648 : Int) ≤ v_7.toInt + 1 by omega) (show v_7.toInt + 1 < (2147483648 : Int) by omega)
                exact ih_10 v_16 (show 0 ≤ v_16.toInt from by first | assumption | omega | decide) (show (5 - v_16.toInt : Int).toNat < _ from by omega)
              · refine wa_aload_n B dX12_isUnit_30 rfl 2 rfl ?_
                obtain ⟨a_17, ea_17, ha_17, ka_17, la_17⟩ := hV.refn (n := 30) (t := 227) ha0 ka0 17 rfl (by decide) rfl (by decide)
                refine wa_getR B (C := RX12) (T := TX12) (N := 51) iq_X12_isUnit_X12 ha0 ka0 (by decide) rfl 17 (by decide) (by decide) (by decide +kernel) rfl (fun _ _ _ => rfl) (v := a_17) ea_17 dX12_isUnit_31 ?_
                refine wa_iconst B 5 dX12_isUnit_34 (by decide) ?_
                refine wa_iload_n B dX12_isUnit_35 rfl 1 rfl ?_
                refine wa_imul B dX12_isUnit_36 (fun v_18 ev_18 => ?_)
                refine wa_iload_n B dX12_isUnit_37 rfl 0 rfl ?_
                refine wa_iadd B dX12_isUnit_38 (fun v_19 ev_19 => ?_)
                have tv_18 : v_18.toInt = 5 * v_1.toInt := by have b1 := zx_bd v_1; rw [ev_18]; exact zx_mul (show (-2147483648 : Int) ≤ 5 * v_1.toInt by omega) (show 5 * v_1.toInt < (2147483648 : Int) by omega)
                have tv_19 : v_19.toInt = v_18.toInt + v_7.toInt := by have b0 := zx_bd v_18; have b1 := zx_bd v_7; rw [ev_19]; exact zx_add (show (-2147483648 : Int) ≤ v_18.toInt + v_7.toInt by omega) (show v_18.toInt + v_7.toInt < (2147483648 : Int) by omega)
                refine wa_laload B ha_17 ka_17 (by decide) (by decide) (show 0 ≤ v_19.toInt by omega) (show v_19.toInt < (h.2.1 a_17 : Int) by omega) (v := (q.2.2.2.2 a_17 (v_19 : Int32).toNatClampNeg)) rfl dX12_isUnit_39 ?_
                refine wa_aload_n B dX12_isUnit_40 rfl 2 rfl ?_
                refine wa_getJ B (C := RX12) (T := TX12) (N := 51) iq_X12_isUnit_X12 ha0 ka0 (by decide) rfl 11 (by decide) (by decide) (by decide +kernel) rfl (by decide) (v := (q.2.1 a0 11)) rfl dX12_isUnit_41 ?_
                refine wa_lcmp B dX12_isUnit_44 (fun v_20 ev_20 => ?_)
                refine wa_if_eq B 51 dX12_isUnit_45 (by decide) (fun (t_21 : v_20.toInt = 0) => ?_) (fun (t_21 : ¬ v_20.toInt = 0) => ?_)
                · refine wa_aload_n B dX12_isUnit_51 rfl 2 rfl ?_
                  refine wa_iload_n B dX12_isUnit_52 rfl 1 rfl ?_
                  refine wa_putI B (C := RX12) (T := TX12) (N := 51) iq_X12_isUnit_X12 ha0 ka0 (by decide) rfl 32 (by decide) (by decide) (by decide +kernel) rfl (by decide) (v := v_1) (ty := .int) tyX12 tyX12_ok nmX12 rfl (by decide +kernel) rfl rfl dX12_isUnit_53 (fun q_22 eq_22 => ?_)
                  have hV_q_22 : sx_V h L q_22 := by rw [eq_22]; exact hV.pI ka0 (show sx_in v_1 (0) 2 from ⟨by omega, by omega⟩)
                  have hF_q_22 : sx_fr h L (fun a => h.1 a = 12) q q_22 := hF.tr (by rw [eq_22]; exact sx_fr.pI (show h.1 a0 = 12 from by omega))
                  have z_23 : q_22.1 a0 32 = v_1 := by rw [eq_22]; exact sg_pI_e
                  have hK_q_22 : sx_kf a0 [32, 33] q q_22 := hK.tr (by rw [eq_22]; exact sx_kf.pI (by decide))
                  refine wa_aload_n B dX12_isUnit_56 rfl 2 rfl ?_
                  refine wa_iload_n B dX12_isUnit_57 rfl 0 rfl ?_
                  refine wa_putI B (C := RX12) (T := TX12) (N := 51) iq_X12_isUnit_X12 ha0 ka0 (by decide) rfl 33 (by decide) (by decide) (by decide +kernel) rfl (by decide) (v := v_7) (ty := .int) tyX12 tyX12_ok nmX12 rfl (by decide +kernel) rfl rfl dX12_isUnit_58 (fun q_24 eq_24 => ?_)
                  have hV_q_24 : sx_V h L q_24 := by rw [eq_24]; exact hV_q_22.pI ka0 (show sx_in v_7 (0) 4 from ⟨by omega, by omega⟩)
                  have hF_q_24 : sx_fr h L (fun a => h.1 a = 12) q q_24 := hF_q_22.tr (by rw [eq_24]; exact sx_fr.pI (show h.1 a0 = 12 from by omega))
                  have z_25 : q_24.1 a0 33 = v_7 := by rw [eq_24]; exact sg_pI_e
                  have hK_q_24 : sx_kf a0 [32, 33] q q_24 := hK_q_22.tr (by rw [eq_24]; exact sx_kf.pI (by decide))
                  refine wa_iconst B 1 dX12_isUnit_61 (by decide) ?_
                  exact hret _ _ _ _ dX12_isUnit_62 (Or.inr rfl) ⟨hV_q_24, hF_q_24, hK_q_24, (by have h9 : (1 : Int32).toInt = 1 := rfl; first | omega | (refine ⟨?_, ?_⟩ <;> omega) | trivial)⟩
                · refine wa_goto B 63 dX12_isUnit_48 (by decide) ?_
                  obtain ⟨v_26, ev_26⟩ : ∃ z : Int32, z = v_7 + 1 := ⟨_, rfl⟩
                  refine wa_iinc B [(2, .int v_26), (1, .int v_1), (0, .ref a0)] v_26 dX12_isUnit_63 0 rfl (by rw [ev_26]; rfl) (by decide) rfl ?_
                  refine wa_goto B 12 dX12_isUnit_66 (by decide) ?_
                  have tv_26 : v_26.toInt = v_7.toInt + 1 := by have b0 := zx_bd v_7; rw [ev_26]; exact zx_add (show (-2147483648 : Int) ≤ v_7.toInt + 1 by omega) (show v_7.toInt + 1 < (2147483648 : Int) by omega)
                  exact ih_10 v_26 (show 0 ≤ v_26.toInt from by first | assumption | omega | decide) (show (5 - v_26.toInt : Int).toNat < _ from by omega)
        exact Lp_12_9 _ 0 (show 0 ≤ 0 from by first | assumption | omega | decide) (Nat.lt_succ_self _)
  exact Lp_2_3 _ 0 (show 0 ≤ 0 from by first | assumption | omega | decide) (Nat.lt_succ_self _)
theorem iq_X12_ways_X12 : ∀ w ∈ wsX120, w ∈ wsX12_ways := fun _ h => List.mem_cons_of_mem _ (List.mem_append_right _ h)
set_option maxHeartbeats 4000000 in
set_option maxRecDepth 100000 in
theorem k_X12_ways (l : Launch) (dC : Nat → ClassId) (dI : Nat → Nat → Nat) (h : Sh) (L : List Nat) (hN : sx_nd L) (q : Sg) (hV : sx_V h L q) {a0 : Nat} (ha0 : a0 ∈ L) (ka0 : h.1 a0 = 12) (n1 : Int32)   (hy0 : 0 ≤ n1.toInt) (hy1 : n1.toInt ≤ 8) : CMi l dC dI h L yX12_ways wsX12_ways ({ frames := 0, cells := 0, slots := 0, locals := 0 } : Room) q [.ref a0, .int n1] (fun r q' => q = q' ∧ r.toInt ≤ 10000) := by
  refine cm_i (cc := cX12_ways) (mL := 4) (own := RX12) hN (by decide) rfl rfl (Nat.le_of_ble_eq_true rfl) (fun Z B hret => ?_)
  show WA l dC dI h L ({ frames := 0, cells := 0, slots := 0, locals := 0 } : Room) 4 Z q 0 [(0, .ref a0), (1, .int n1)] []
  refine wa_iconst B 1 dX12_ways_0 (by decide) ?_
  refine wa_istore_n B [(2, .int 1), (0, .ref a0), (1, .int n1)] dX12_ways_1 rfl (by decide) rfl ?_
  refine wa_iconst B 0 dX12_ways_2 (by decide) ?_
  refine wa_istore_n B [(3, .int 0), (2, .int 1), (0, .ref a0), (1, .int n1)] dX12_ways_3 rfl (by decide) rfl ?_
  have Lp_4_11 : ∀ (n : Nat) (v_1 : Int32) (v_2 : Int32), 0 ≤ v_1.toInt → v_1.toInt ≤ 4 → 1 ≤ v_2.toInt → v_2.toInt ≤ 10000 → (v_1.toInt ≤ 3 → v_2.toInt ≤ 1000) → (v_1.toInt ≤ 2 → v_2.toInt ≤ 100) → (v_1.toInt ≤ 1 → v_2.toInt ≤ 10) → (v_1.toInt ≤ 0 → v_2.toInt ≤ 1) → (5 - v_1.toInt : Int).toNat < n → WA l dC dI h L ({ frames := 0, cells := 0, slots := 0, locals := 0 } : Room) 4 Z q 4 [(3, .int v_1), (2, .int v_2), (0, .ref a0), (1, .int n1)] [] := by
    intro n
    induction n with
    | zero =>
      intro v_1 v_2 x_3 x_4 x_5 x_6 x_7 x_8 x_9 x_10 hn
      exact absurd hn (Nat.not_lt_zero _)
    | succ n ih_12 =>
      intro v_1 v_2 x_3 x_4 x_5 x_6 x_7 x_8 x_9 x_10 hn
      refine wa_iload_n B dX12_ways_4 rfl 0 rfl ?_
      refine wa_aload_n B dX12_ways_5 rfl 2 rfl ?_
      obtain ⟨a_13, ea_13, ha_13, ka_13, la_13⟩ := hV.refn (n := 9) (t := 137) ha0 ka0 27 rfl (by decide) rfl (by decide)
      refine wa_getR B (C := RX12) (T := TX12) (N := 51) iq_X12_ways_X12 ha0 ka0 (by decide) rfl 27 (by decide) (by decide) (by decide +kernel) rfl (fun _ _ _ => rfl) (v := a_13) ea_13 dX12_ways_6 ?_
      refine wa_iload_n B dX12_ways_9 rfl 3 rfl ?_
      refine wa_iaload B ha_13 ka_13 (by decide) (by decide) (show 0 ≤ n1.toInt by omega) (show n1.toInt < (h.2.1 a_13 : Int) by omega) (v := (q.2.2.2.1 a_13 (n1 : Int32).toNatClampNeg)) rfl dX12_ways_10 ?_
      have g_14 : (0 : Int) ≤ ((q.2.2.2.1 a_13 (n1 : Int32).toNatClampNeg)).toInt ∧ ((q.2.2.2.1 a_13 (n1 : Int32).toNatClampNeg)).toInt ≤ 4 := hV.cnt ha_13 ka_13 _
      refine wa_icmp_ge B 25 dX12_ways_11 (by decide) (fun (t_15 : ((q.2.2.2.1 a_13 (n1 : Int32).toNatClampNeg)).toInt ≤ v_1.toInt) => ?_) (fun (t_15 : ¬ ((q.2.2.2.1 a_13 (n1 : Int32).toNatClampNeg)).toInt ≤ v_1.toInt) => ?_)
      · refine wa_iload_n B dX12_ways_25 rfl 1 rfl ?_
        exact hret _ _ _ _ dX12_ways_26 ⟨rfl, (by first | omega | (refine ⟨?_, ?_⟩ <;> omega) | trivial)⟩
      · refine wa_iload_n B dX12_ways_14 rfl 1 rfl ?_
        refine wa_bipush B 10 dX12_ways_15 (by decide) ?_
        refine wa_imul B dX12_ways_17 (fun v_16 ev_16 => ?_)
        refine wa_istore_n B [(2, .int v_16), (3, .int v_1), (0, .ref a0), (1, .int n1)] dX12_ways_18 rfl (by decide) rfl ?_
        obtain ⟨v_17, ev_17⟩ : ∃ z : Int32, z = v_1 + 1 := ⟨_, rfl⟩
        refine wa_iinc B [(3, .int v_17), (2, .int v_16), (0, .ref a0), (1, .int n1)] v_17 dX12_ways_19 1 rfl (by rw [ev_17]; rfl) (by decide) rfl ?_
        refine wa_goto B 4 dX12_ways_22 (by decide) ?_
        have tv_17 : v_17.toInt = v_1.toInt + 1 := by have b0 := zx_bd v_1; rw [ev_17]; exact zx_add (show (-2147483648 : Int) ≤ v_1.toInt + 1 by omega) (show v_1.toInt + 1 < (2147483648 : Int) by omega)
        have tv_16 : v_16.toInt = v_2.toInt * 10 := by have b0 := zx_bd v_2; rw [ev_16]; exact zx_mul (show (-2147483648 : Int) ≤ v_2.toInt * 10 by omega) (show v_2.toInt * 10 < (2147483648 : Int) by omega)
        exact ih_12 v_17 v_16 (show 0 ≤ v_17.toInt from by first | assumption | omega | decide) (show v_17.toInt ≤ 4 from by first | assumption | omega | decide) (show 1 ≤ v_16.toInt from by first | assumption | omega | decide) (show v_16.toInt ≤ 10000 from by first | assumption | omega | decide) (show v_17.toInt ≤ 3 → v_16.toInt ≤ 1000 from by first | assumption | omega | decide) (show v_17.toInt ≤ 2 → v_16.toInt ≤ 100 from by first | assumption | omega | decide) (show v_17.toInt ≤ 1 → v_16.toInt ≤ 10 from by first | assumption | omega | decide) (show v_17.toInt ≤ 0 → v_16.toInt ≤ 1 from by first | assumption | omega | decide) (show (5 - v_17.toInt : Int).toNat < _ from by omega)
  exact Lp_4_11 _ 0 1 (show 0 ≤ 0 from by first | assumption | omega | decide) (show 0 ≤ 4 from by first | assumption | omega | decide) (show 1 ≤ 1 from by first | assumption | omega | decide) (show 1 ≤ 10000 from by first | assumption | omega | decide) (show 0 ≤ 3 → 1 ≤ 1000 from by first | assumption | omega | decide) (show 0 ≤ 2 → 1 ≤ 100 from by first | assumption | omega | decide) (show 0 ≤ 1 → 1 ≤ 10 from by first | assumption | omega | decide) (show 0 ≤ 0 → 1 ≤ 1 from by first | assumption | omega | decide) (Nat.lt_succ_self _)
theorem iq_X12_wrongs_X12 : ∀ w ∈ wsX120, w ∈ wsX12_wrongs := fun _ h => List.mem_cons_of_mem _ (List.mem_append_right _ h)
set_option maxHeartbeats 4000000 in
set_option maxRecDepth 100000 in
theorem k_X12_wrongs (l : Launch) (dC : Nat → ClassId) (dI : Nat → Nat → Nat) (h : Sh) (L : List Nat) (hN : sx_nd L) (q : Sg) (hV : sx_V h L q) {a0 : Nat} (ha0 : a0 ∈ L) (ka0 : h.1 a0 = 12) (n1 : Int32)   (hy0 : 0 ≤ n1.toInt) (hy1 : n1.toInt ≤ 8) : CMi l dC dI h L yX12_wrongs wsX12_wrongs ({ frames := 0, cells := 0, slots := 0, locals := 0 } : Room) q [.ref a0, .int n1] (fun r q' => q = q') := by
  refine cm_i (cc := cX12_wrongs) (mL := 10) (own := RX12) hN (by decide) rfl rfl (Nat.le_of_ble_eq_true rfl) (fun Z B hret => ?_)
  show WA l dC dI h L ({ frames := 0, cells := 0, slots := 0, locals := 0 } : Room) 10 Z q 0 [(0, .ref a0), (1, .int n1)] []
  refine wa_iconst B 0 dX12_wrongs_0 (by decide) ?_
  refine wa_istore_n B [(2, .int 0), (0, .ref a0), (1, .int n1)] dX12_wrongs_1 rfl (by decide) rfl ?_
  refine wa_iconst B 0 dX12_wrongs_2 (by decide) ?_
  refine wa_istore_n B [(3, .int 0), (2, .int 0), (0, .ref a0), (1, .int n1)] dX12_wrongs_3 rfl (by decide) rfl ?_
  have Lp_4_4 : ∀ (n : Nat) (v_1 : Int32) (v_2 : Int32), 0 ≤ v_1.toInt → (12 - v_1.toInt : Int).toNat < n → WA l dC dI h L ({ frames := 0, cells := 0, slots := 0, locals := 0 } : Room) 10 Z q 4 [(3, .int v_1), (2, .int v_2), (0, .ref a0), (1, .int n1)] [] := by
    intro n
    induction n with
    | zero =>
      intro v_1 v_2 x_3 hn
      exact absurd hn (Nat.not_lt_zero _)
    | succ n ih_5 =>
      intro v_1 v_2 x_3 hn
      refine wa_iload_n B dX12_wrongs_4 rfl 0 rfl ?_
      refine wa_aload_n B dX12_wrongs_5 rfl 2 rfl ?_
      obtain ⟨a_6, ea_6, ha_6, ka_6, la_6⟩ := hV.refn (n := 9) (t := 133) ha0 ka0 23 rfl (by decide) rfl (by decide)
      refine wa_getR B (C := RX12) (T := TX12) (N := 51) iq_X12_wrongs_X12 ha0 ka0 (by decide) rfl 23 (by decide) (by decide) (by decide +kernel) rfl (fun _ _ _ => rfl) (v := a_6) ea_6 dX12_wrongs_6 ?_
      refine wa_iload_n B dX12_wrongs_9 rfl 3 rfl ?_
      refine wa_iaload B ha_6 ka_6 (by decide) (by decide) (show 0 ≤ n1.toInt by omega) (show n1.toInt < (h.2.1 a_6 : Int) by omega) (v := (q.2.2.2.1 a_6 (n1 : Int32).toNatClampNeg)) rfl dX12_wrongs_10 ?_
      have g_7 : (0 : Int) ≤ ((q.2.2.2.1 a_6 (n1 : Int32).toNatClampNeg)).toInt ∧ ((q.2.2.2.1 a_6 (n1 : Int32).toNatClampNeg)).toInt ≤ 12 := hV.cnt ha_6 ka_6 _
      refine wa_icmp_ge B 188 dX12_wrongs_11 (by decide) (fun (t_8 : ((q.2.2.2.1 a_6 (n1 : Int32).toNatClampNeg)).toInt ≤ v_1.toInt) => ?_) (fun (t_8 : ¬ ((q.2.2.2.1 a_6 (n1 : Int32).toNatClampNeg)).toInt ≤ v_1.toInt) => ?_)
      · refine wa_iload_n B dX12_wrongs_188 rfl 1 rfl ?_
        exact hret _ _ _ _ dX12_wrongs_189 rfl
      · refine wa_bipush B 12 dX12_wrongs_14 (by decide) ?_
        refine wa_iload_n B dX12_wrongs_16 rfl 3 rfl ?_
        refine wa_imul B dX12_wrongs_17 (fun v_9 ev_9 => ?_)
        refine wa_iload_n B dX12_wrongs_18 rfl 0 rfl ?_
        refine wa_iadd B dX12_wrongs_19 (fun v_10 ev_10 => ?_)
        refine wa_istore B [(4, .int v_10), (3, .int v_1), (2, .int v_2), (0, .ref a0), (1, .int n1)] dX12_wrongs_20 (by decide) rfl ?_
        refine wa_aload_n B dX12_wrongs_22 rfl 3 rfl ?_
        obtain ⟨a_11, ea_11, ha_11, ka_11, la_11⟩ := hV.refn (n := 108) (t := 134) ha0 ka0 24 rfl (by decide) rfl (by decide)
        refine wa_getR B (C := RX12) (T := TX12) (N := 51) iq_X12_wrongs_X12 ha0 ka0 (by decide) rfl 24 (by decide) (by decide) (by decide +kernel) rfl (fun _ _ _ => rfl) (v := a_11) ea_11 dX12_wrongs_23 ?_
        refine wa_iload B dX12_wrongs_26 0 rfl ?_
        have tv_9 : v_9.toInt = 12 * n1.toInt := by have b1 := zx_bd n1; rw [ev_9]; exact zx_mul (show (-2147483648 : Int) ≤ 12 * n1.toInt by omega) (show 12 * n1.toInt < (2147483648 : Int) by omega)
        have tv_10 : v_10.toInt = v_9.toInt + v_1.toInt := by have b0 := zx_bd v_9; have b1 := zx_bd v_1; rw [ev_10]; exact zx_add (show (-2147483648 : Int) ≤ v_9.toInt + v_1.toInt by omega) (show v_9.toInt + v_1.toInt < (2147483648 : Int) by omega)
        refine wa_iaload B ha_11 ka_11 (by decide) (by decide) (show 0 ≤ v_10.toInt by omega) (show v_10.toInt < (h.2.1 a_11 : Int) by omega) (v := (q.2.2.2.1 a_11 (v_10 : Int32).toNatClampNeg)) rfl dX12_wrongs_28 ?_
        refine wa_if_ne B 35 dX12_wrongs_29 (by decide) (fun (t_12 : ¬ ((q.2.2.2.1 a_11 (v_10 : Int32).toNatClampNeg)).toInt = 0) => ?_) (fun (t_12 : ((q.2.2.2.1 a_11 (v_10 : Int32).toNatClampNeg)).toInt = 0) => ?_)
        · refine wa_lconst B 0 dX12_wrongs_35 (by decide) ?_
          refine wa_lstore B [(5, .long 0), (4, .int v_10), (3, .int v_1), (2, .int v_2), (0, .ref a0), (1, .int n1)] dX12_wrongs_36 (by decide) rfl ?_
          refine wa_iconst B 1 dX12_wrongs_38 (by decide) ?_
          refine wa_istore B [(7, .int 1), (5, .long 0), (4, .int v_10), (3, .int v_1), (2, .int v_2), (0, .ref a0), (1, .int n1)] dX12_wrongs_39 (by decide) rfl ?_
          refine wa_iload_n B dX12_wrongs_41 rfl 3 rfl ?_
          refine wa_iconst B 1 dX12_wrongs_42 (by decide) ?_
          refine wa_isub B dX12_wrongs_43 (fun v_13 ev_13 => ?_)
          refine wa_istore B [(8, .int v_13), (7, .int 1), (5, .long 0), (4, .int v_10), (3, .int v_1), (2, .int v_2), (0, .ref a0), (1, .int n1)] dX12_wrongs_44 (by decide) rfl ?_
          have Lp_46_19 : ∀ (n : Nat) (v_14 : Int32) (v_15 : Int32) (v_16 : Int64), (-1) ≤ v_14.toInt → v_14.toInt ≤ 11 → (v_14.toInt + 1 : Int).toNat < n → WA l dC dI h L ({ frames := 0, cells := 0, slots := 0, locals := 0 } : Room) 10 Z q 46 [(8, .int v_14), (7, .int v_15), (5, .long v_16), (4, .int v_10), (3, .int v_1), (2, .int v_2), (0, .ref a0), (1, .int n1)] [] := by
            intro n
            induction n with
            | zero =>
              intro v_14 v_15 v_16 x_17 x_18 hn
              exact absurd hn (Nat.not_lt_zero _)
            | succ n ih_20 =>
              intro v_14 v_15 v_16 x_17 x_18 hn
              refine wa_iload B dX12_wrongs_46 0 rfl ?_
              have Jn_167_21 : ∀ (_ : Unit), WA l dC dI h L ({ frames := 0, cells := 0, slots := 0, locals := 0 } : Room) 10 Z q 167 [(8, .int v_14), (7, .int v_15), (5, .long v_16), (4, .int v_10), (3, .int v_1), (2, .int v_2), (0, .ref a0), (1, .int n1)] [] := by
                intro _
                refine wa_lload B dX12_wrongs_167 2 rfl ?_
                refine wa_aload_n B dX12_wrongs_169 rfl 6 rfl ?_
                obtain ⟨a_22, ea_22, ha_22, ka_22, la_22⟩ := hV.refn (n := 12) (t := 245) ha0 ka0 35 rfl (by decide) rfl (by decide)
                refine wa_getR B (C := RX12) (T := TX12) (N := 51) iq_X12_wrongs_X12 ha0 ka0 (by decide) rfl 35 (by decide) (by decide) (by decide +kernel) rfl (fun _ _ _ => rfl) (v := a_22) ea_22 dX12_wrongs_170 ?_
                refine wa_iload_n B dX12_wrongs_173 rfl 4 rfl ?_
                refine wa_laload B ha_22 ka_22 (by decide) (by decide) (show 0 ≤ v_1.toInt by omega) (show v_1.toInt < (h.2.1 a_22 : Int) by omega) (v := (q.2.2.2.2 a_22 (v_1 : Int32).toNatClampNeg)) rfl dX12_wrongs_174 ?_
                refine wa_lcmp B dX12_wrongs_175 (fun v_23 ev_23 => ?_)
                refine wa_if_eq B 182 dX12_wrongs_176 (by decide) (fun (t_24 : v_23.toInt = 0) => ?_) (fun (t_24 : ¬ v_23.toInt = 0) => ?_)
                · obtain ⟨v_25, ev_25⟩ : ∃ z : Int32, z = v_1 + 1 := ⟨_, rfl⟩
                  refine wa_iinc B [(3, .int v_25), (8, .int v_14), (7, .int v_15), (5, .long v_16), (4, .int v_10), (2, .int v_2), (0, .ref a0), (1, .int n1)] v_25 dX12_wrongs_182 4 rfl (by rw [ev_25]; rfl) (by decide) rfl ?_
                  refine wa_goto B 4 dX12_wrongs_185 (by decide) ?_
                  have tv_25 : v_25.toInt = v_1.toInt + 1 := by have b0 := zx_bd v_1; rw [ev_25]; exact zx_add (show (-2147483648 : Int) ≤ v_1.toInt + 1 by omega) (show v_1.toInt + 1 < (2147483648 : Int) by omega)
                  refine WA.sub [0, 5, 6, 7] rfl ?_
                  exact ih_5 v_25 v_2 (show 0 ≤ v_25.toInt from by first | assumption | omega | decide) (show (12 - v_25.toInt : Int).toNat < _ from by omega)
                · obtain ⟨v_26, ev_26⟩ : ∃ z : Int32, z = v_2 + 1 := ⟨_, rfl⟩
                  refine wa_iinc B [(2, .int v_26), (8, .int v_14), (7, .int v_15), (5, .long v_16), (4, .int v_10), (3, .int v_1), (0, .ref a0), (1, .int n1)] v_26 dX12_wrongs_179 5 rfl (by rw [ev_26]; rfl) (by decide) rfl ?_
                  obtain ⟨v_27, ev_27⟩ : ∃ z : Int32, z = v_1 + 1 := ⟨_, rfl⟩
                  refine wa_iinc B [(3, .int v_27), (2, .int v_26), (8, .int v_14), (7, .int v_15), (5, .long v_16), (4, .int v_10), (0, .ref a0), (1, .int n1)] v_27 dX12_wrongs_182 5 rfl (by rw [ev_27]; rfl) (by decide) rfl ?_
                  refine wa_goto B 4 dX12_wrongs_185 (by decide) ?_
                  have tv_27 : v_27.toInt = v_1.toInt + 1 := by have b0 := zx_bd v_1; rw [ev_27]; exact zx_add (show (-2147483648 : Int) ≤ v_1.toInt + 1 by omega) (show v_1.toInt + 1 < (2147483648 : Int) by omega)
                  refine WA.sub [0, 1, 6, 7] rfl ?_
                  exact ih_5 v_27 v_26 (show 0 ≤ v_27.toInt from by first | assumption | omega | decide) (show (12 - v_27.toInt : Int).toNat < _ from by omega)
              refine wa_if_lt B 167 dX12_wrongs_48 (by decide) (fun (t_28 : v_14.toInt < 0) => ?_) (fun (t_28 : ¬ v_14.toInt < 0) => ?_)
              · exact Jn_167_21 ()
              · refine wa_iload B dX12_wrongs_51 1 rfl ?_
                refine wa_if_eq B 167 dX12_wrongs_53 (by decide) (fun (t_29 : v_15.toInt = 0) => ?_) (fun (t_29 : ¬ v_15.toInt = 0) => ?_)
                · exact Jn_167_21 ()
                · refine wa_bipush B 12 dX12_wrongs_56 (by decide) ?_
                  refine wa_iload_n B dX12_wrongs_58 rfl 7 rfl ?_
                  refine wa_imul B dX12_wrongs_59 (fun v_30 ev_30 => ?_)
                  refine wa_iload B dX12_wrongs_60 0 rfl ?_
                  refine wa_iadd B dX12_wrongs_62 (fun v_31 ev_31 => ?_)
                  refine wa_istore B [(9, .int v_31), (8, .int v_14), (7, .int v_15), (5, .long v_16), (4, .int v_10), (3, .int v_1), (2, .int v_2), (0, .ref a0), (1, .int n1)] dX12_wrongs_63 (by decide) rfl ?_
                  refine wa_aload_n B dX12_wrongs_65 rfl 7 rfl ?_
                  obtain ⟨a_32, ea_32, ha_32, ka_32, la_32⟩ := hV.refn (n := 108) (t := 135) ha0 ka0 25 rfl (by decide) rfl (by decide)
                  refine wa_getR B (C := RX12) (T := TX12) (N := 51) iq_X12_wrongs_X12 ha0 ka0 (by decide) rfl 25 (by decide) (by decide) (by decide +kernel) rfl (fun _ _ _ => rfl) (v := a_32) ea_32 dX12_wrongs_66 ?_
                  refine wa_iload B dX12_wrongs_69 0 rfl ?_
                  have tv_30 : v_30.toInt = 12 * n1.toInt := by have b1 := zx_bd n1; rw [ev_30]; exact zx_mul (show (-2147483648 : Int) ≤ 12 * n1.toInt by omega) (show 12 * n1.toInt < (2147483648 : Int) by omega)
                  have tv_31 : v_31.toInt = v_30.toInt + v_14.toInt := by have b0 := zx_bd v_30; have b1 := zx_bd v_14; rw [ev_31]; exact zx_add (show (-2147483648 : Int) ≤ v_30.toInt + v_14.toInt by omega) (show v_30.toInt + v_14.toInt < (2147483648 : Int) by omega)
                  refine wa_iaload B ha_32 ka_32 (by decide) (by decide) (show 0 ≤ v_31.toInt by omega) (show v_31.toInt < (h.2.1 a_32 : Int) by omega) (v := (q.2.2.2.1 a_32 (v_31 : Int32).toNatClampNeg)) rfl dX12_wrongs_71 ?_
                  have g_33 : (0 : Int) ≤ ((q.2.2.2.1 a_32 (v_31 : Int32).toNatClampNeg)).toInt ∧ ((q.2.2.2.1 a_32 (v_31 : Int32).toNatClampNeg)).toInt ≤ 2 := hV.cnt ha_32 ka_32 _
                  refine wa_aload_n B dX12_wrongs_72 rfl 7 rfl ?_
                  refine wa_getR B (C := RX12) (T := TX12) (N := 51) iq_X12_wrongs_X12 ha0 ka0 (by decide) rfl 25 (by decide) (by decide) (by decide +kernel) rfl (fun _ _ _ => rfl) (v := a_32) ea_32 dX12_wrongs_73 ?_
                  refine wa_iload B dX12_wrongs_76 4 rfl ?_
                  refine wa_iaload B ha_32 ka_32 (by decide) (by decide) (show 0 ≤ v_10.toInt by omega) (show v_10.toInt < (h.2.1 a_32 : Int) by omega) (v := (q.2.2.2.1 a_32 (v_10 : Int32).toNatClampNeg)) rfl dX12_wrongs_78 ?_
                  have g_34 : (0 : Int) ≤ ((q.2.2.2.1 a_32 (v_10 : Int32).toNatClampNeg)).toInt ∧ ((q.2.2.2.1 a_32 (v_10 : Int32).toNatClampNeg)).toInt ≤ 2 := hV.cnt ha_32 ka_32 _
                  have Jn_161_37 : ∀  (v_35 : Int32) (v_36 : Int64), WA l dC dI h L ({ frames := 0, cells := 0, slots := 0, locals := 0 } : Room) 10 Z q 161 [(9, .int v_31), (8, .int v_14), (7, .int v_35), (5, .long v_36), (4, .int v_10), (3, .int v_1), (2, .int v_2), (0, .ref a0), (1, .int n1)] [] := by
                    intro v_35 v_36
                    obtain ⟨v_38, ev_38⟩ : ∃ z : Int32, z = v_14 + (-1) := ⟨_, rfl⟩
                    refine wa_iinc B [(8, .int v_38), (9, .int v_31), (7, .int v_35), (5, .long v_36), (4, .int v_10), (3, .int v_1), (2, .int v_2), (0, .ref a0), (1, .int n1)] v_38 dX12_wrongs_161 1 rfl (by rw [ev_38]; rfl) (by decide) rfl ?_
                    refine wa_goto B 46 dX12_wrongs_164 (by decide) ?_
                    have tv_38 : v_38.toInt = v_14.toInt + (-1) := by have b0 := zx_bd v_14; rw [ev_38]; exact zx_add (show (-2147483648 : Int) ≤ v_14.toInt + (-1) by omega) (show v_14.toInt + (-1) < (2147483648 : Int) by omega)
                    refine WA.sub [0, 2, 3, 4, 5, 6, 7, 8] rfl ?_
                    exact ih_20 v_38 v_35 v_36 (show (-1) ≤ v_38.toInt from by first | assumption | omega | decide) (show v_38.toInt ≤ 11 from by first | assumption | omega | decide) (show (v_38.toInt + 1 : Int).toNat < _ from by omega)
                  refine wa_icmp_eq B 85 dX12_wrongs_79 (by decide) (fun (t_39 : ((q.2.2.2.1 a_32 (v_31 : Int32).toNatClampNeg)).toInt = ((q.2.2.2.1 a_32 (v_10 : Int32).toNatClampNeg)).toInt) => ?_) (fun (t_39 : ¬ ((q.2.2.2.1 a_32 (v_31 : Int32).toNatClampNeg)).toInt = ((q.2.2.2.1 a_32 (v_10 : Int32).toNatClampNeg)).toInt) => ?_)
                  · refine wa_aload_n B dX12_wrongs_85 rfl 7 rfl ?_
                    refine wa_getR B (C := RX12) (T := TX12) (N := 51) iq_X12_wrongs_X12 ha0 ka0 (by decide) rfl 24 (by decide) (by decide) (by decide +kernel) rfl (fun _ _ _ => rfl) (v := a_11) ea_11 dX12_wrongs_86 ?_
                    refine wa_iload B dX12_wrongs_89 4 rfl ?_
                    refine wa_iaload B ha_11 ka_11 (by decide) (by decide) (show 0 ≤ v_10.toInt by omega) (show v_10.toInt < (h.2.1 a_11 : Int) by omega) (v := (q.2.2.2.1 a_11 (v_10 : Int32).toNatClampNeg)) rfl dX12_wrongs_91 ?_
                    refine wa_iconst B 1 dX12_wrongs_92 (by decide) ?_
                    refine wa_icmp_ne B 138 dX12_wrongs_93 (by decide) (fun (t_40 : ¬ ((q.2.2.2.1 a_11 (v_10 : Int32).toNatClampNeg)).toInt = 1) => ?_) (fun (t_40 : ((q.2.2.2.1 a_11 (v_10 : Int32).toNatClampNeg)).toInt = 1) => ?_)
                    · refine wa_aload_n B dX12_wrongs_138 rfl 7 rfl ?_
                      refine wa_getR B (C := RX12) (T := TX12) (N := 51) iq_X12_wrongs_X12 ha0 ka0 (by decide) rfl 24 (by decide) (by decide) (by decide +kernel) rfl (fun _ _ _ => rfl) (v := a_11) ea_11 dX12_wrongs_139 ?_
                      refine wa_iload B dX12_wrongs_142 0 rfl ?_
                      refine wa_iaload B ha_11 ka_11 (by decide) (by decide) (show 0 ≤ v_31.toInt by omega) (show v_31.toInt < (h.2.1 a_11 : Int) by omega) (v := (q.2.2.2.1 a_11 (v_31 : Int32).toNatClampNeg)) rfl dX12_wrongs_144 ?_
                      refine wa_iconst B 1 dX12_wrongs_145 (by decide) ?_
                      refine wa_icmp_ne B 161 dX12_wrongs_146 (by decide) (fun (t_41 : ¬ ((q.2.2.2.1 a_11 (v_31 : Int32).toNatClampNeg)).toInt = 1) => ?_) (fun (t_41 : ((q.2.2.2.1 a_11 (v_31 : Int32).toNatClampNeg)).toInt = 1) => ?_)
                      · exact Jn_161_37 v_15 v_16
                      · refine wa_lload B dX12_wrongs_149 3 rfl ?_
                        refine wa_aload_n B dX12_wrongs_151 rfl 7 rfl ?_
                        obtain ⟨a_42, ea_42, ha_42, ka_42, la_42⟩ := hV.refn (n := 12) (t := 245) ha0 ka0 35 rfl (by decide) rfl (by decide)
                        refine wa_getR B (C := RX12) (T := TX12) (N := 51) iq_X12_wrongs_X12 ha0 ka0 (by decide) rfl 35 (by decide) (by decide) (by decide +kernel) rfl (fun _ _ _ => rfl) (v := a_42) ea_42 dX12_wrongs_152 ?_
                        refine wa_iload B dX12_wrongs_155 1 rfl ?_
                        refine wa_laload B ha_42 ka_42 (by decide) (by decide) (show 0 ≤ v_14.toInt by omega) (show v_14.toInt < (h.2.1 a_42 : Int) by omega) (v := (q.2.2.2.2 a_42 (v_14 : Int32).toNatClampNeg)) rfl dX12_wrongs_157 ?_
                        refine wa_ladd B dX12_wrongs_158 (fun v_43 ev_43 => ?_)
                        refine wa_lstore B [(5, .long v_43), (9, .int v_31), (8, .int v_14), (7, .int v_15), (4, .int v_10), (3, .int v_1), (2, .int v_2), (0, .ref a0), (1, .int n1)] dX12_wrongs_159 (by decide) rfl ?_
                        refine WA.sub [1, 2, 3, 0, 4, 5, 6, 7, 8] rfl ?_
                        exact Jn_161_37 v_15 v_43
                    · refine wa_aload_n B dX12_wrongs_96 rfl 7 rfl ?_
                      refine wa_getR B (C := RX12) (T := TX12) (N := 51) iq_X12_wrongs_X12 ha0 ka0 (by decide) rfl 24 (by decide) (by decide) (by decide +kernel) rfl (fun _ _ _ => rfl) (v := a_11) ea_11 dX12_wrongs_97 ?_
                      refine wa_iload B dX12_wrongs_100 0 rfl ?_
                      refine wa_iaload B ha_11 ka_11 (by decide) (by decide) (show 0 ≤ v_31.toInt by omega) (show v_31.toInt < (h.2.1 a_11 : Int) by omega) (v := (q.2.2.2.1 a_11 (v_31 : Int32).toNatClampNeg)) rfl dX12_wrongs_102 ?_
                      refine wa_iconst B 1 dX12_wrongs_103 (by decide) ?_
                      refine wa_icmp_ne B 113 dX12_wrongs_104 (by decide) (fun (t_44 : ¬ ((q.2.2.2.1 a_11 (v_31 : Int32).toNatClampNeg)).toInt = 1) => ?_) (fun (t_44 : ((q.2.2.2.1 a_11 (v_31 : Int32).toNatClampNeg)).toInt = 1) => ?_)
                      · refine wa_aload_n B dX12_wrongs_113 rfl 7 rfl ?_
                        refine wa_getR B (C := RX12) (T := TX12) (N := 51) iq_X12_wrongs_X12 ha0 ka0 (by decide) rfl 24 (by decide) (by decide) (by decide +kernel) rfl (fun _ _ _ => rfl) (v := a_11) ea_11 dX12_wrongs_114 ?_
                        refine wa_iload B dX12_wrongs_117 0 rfl ?_
                        refine wa_iaload B ha_11 ka_11 (by decide) (by decide) (show 0 ≤ v_31.toInt by omega) (show v_31.toInt < (h.2.1 a_11 : Int) by omega) (v := (q.2.2.2.1 a_11 (v_31 : Int32).toNatClampNeg)) rfl dX12_wrongs_119 ?_
                        refine wa_if_ne B 161 dX12_wrongs_120 (by decide) (fun (t_45 : ¬ ((q.2.2.2.1 a_11 (v_31 : Int32).toNatClampNeg)).toInt = 0) => ?_) (fun (t_45 : ((q.2.2.2.1 a_11 (v_31 : Int32).toNatClampNeg)).toInt = 0) => ?_)
                        · exact Jn_161_37 v_15 v_16
                        · refine wa_lload B dX12_wrongs_123 3 rfl ?_
                          refine wa_aload_n B dX12_wrongs_125 rfl 7 rfl ?_
                          obtain ⟨a_46, ea_46, ha_46, ka_46, la_46⟩ := hV.refn (n := 12) (t := 245) ha0 ka0 35 rfl (by decide) rfl (by decide)
                          refine wa_getR B (C := RX12) (T := TX12) (N := 51) iq_X12_wrongs_X12 ha0 ka0 (by decide) rfl 35 (by decide) (by decide) (by decide +kernel) rfl (fun _ _ _ => rfl) (v := a_46) ea_46 dX12_wrongs_126 ?_
                          refine wa_iload B dX12_wrongs_129 1 rfl ?_
                          refine wa_laload B ha_46 ka_46 (by decide) (by decide) (show 0 ≤ v_14.toInt by omega) (show v_14.toInt < (h.2.1 a_46 : Int) by omega) (v := (q.2.2.2.2 a_46 (v_14 : Int32).toNatClampNeg)) rfl dX12_wrongs_131 ?_
                          refine wa_ladd B dX12_wrongs_132 (fun v_47 ev_47 => ?_)
                          refine wa_lstore B [(5, .long v_47), (9, .int v_31), (8, .int v_14), (7, .int v_15), (4, .int v_10), (3, .int v_1), (2, .int v_2), (0, .ref a0), (1, .int n1)] dX12_wrongs_133 (by decide) rfl ?_
                          refine wa_goto B 161 dX12_wrongs_135 (by decide) ?_
                          refine WA.sub [1, 2, 3, 0, 4, 5, 6, 7, 8] rfl ?_
                          exact Jn_161_37 v_15 v_47
                      · refine wa_iconst B 0 dX12_wrongs_107 (by decide) ?_
                        refine wa_istore B [(7, .int 0), (9, .int v_31), (8, .int v_14), (5, .long v_16), (4, .int v_10), (3, .int v_1), (2, .int v_2), (0, .ref a0), (1, .int n1)] dX12_wrongs_108 (by decide) rfl ?_
                        refine wa_goto B 161 dX12_wrongs_110 (by decide) ?_
                        refine WA.sub [1, 2, 0, 3, 4, 5, 6, 7, 8] rfl ?_
                        exact Jn_161_37 0 v_16
                  · refine wa_goto B 161 dX12_wrongs_82 (by decide) ?_
                    exact Jn_161_37 v_15 v_16
          have tv_13 : v_13.toInt = v_1.toInt - 1 := by have b0 := zx_bd v_1; rw [ev_13]; exact zx_sub (show (-2147483648 : Int) ≤ v_1.toInt - 1 by omega) (show v_1.toInt - 1 < (2147483648 : Int) by omega)
          exact Lp_46_19 _ v_13 1 0 (show (-1) ≤ v_13.toInt from by first | assumption | omega | decide) (show v_13.toInt ≤ 11 from by first | assumption | omega | decide) (Nat.lt_succ_self _)
        · refine wa_goto B 182 dX12_wrongs_32 (by decide) ?_
          obtain ⟨v_48, ev_48⟩ : ∃ z : Int32, z = v_1 + 1 := ⟨_, rfl⟩
          refine wa_iinc B [(3, .int v_48), (4, .int v_10), (2, .int v_2), (0, .ref a0), (1, .int n1)] v_48 dX12_wrongs_182 1 rfl (by rw [ev_48]; rfl) (by decide) rfl ?_
          refine wa_goto B 4 dX12_wrongs_185 (by decide) ?_
          have tv_48 : v_48.toInt = v_1.toInt + 1 := by have b0 := zx_bd v_1; rw [ev_48]; exact zx_add (show (-2147483648 : Int) ≤ v_1.toInt + 1 by omega) (show v_1.toInt + 1 < (2147483648 : Int) by omega)
          refine WA.sub [0, 2, 3, 4] rfl ?_
          exact ih_5 v_48 v_2 (show 0 ≤ v_48.toInt from by first | assumption | omega | decide) (show (12 - v_48.toInt : Int).toNat < _ from by omega)
  exact Lp_4_4 _ 0 0 (show 0 ≤ 0 from by first | assumption | omega | decide) (Nat.lt_succ_self _)
theorem iq_X12_outByte_X12 : ∀ w ∈ wsX120, w ∈ wsX12_outByte := fun _ h => List.mem_cons_of_mem _ (List.mem_append_right _ h)
set_option maxHeartbeats 4000000 in
set_option maxRecDepth 100000 in
theorem k_X12_outByte (l : Launch) (dC : Nat → ClassId) (dI : Nat → Nat → Nat) (h : Sh) (L : List Nat) (hN : sx_nd L) (q : Sg) (hV : sx_V h L q) {a0 : Nat} (ha0 : a0 ∈ L) (ka0 : h.1 a0 = 12) (n1 : Int32)   (hy0 : (q.1 a0 22).toInt ≤ 79) : CMv l dC dI h L yX12_outByte wsX12_outByte ({ frames := 0, cells := 0, slots := 0, locals := 0 } : Room) q [.ref a0, .int n1] (fun q' => sx_V h L q' ∧ sx_fr h L (fun a => h.1 a = 12 ∨ h.1 a = 131) q q' ∧ sx_kf a0 [22] q q' ∧ ((q'.1 a0 22).toInt = (q.1 a0 22).toInt + 1)) := by
  refine cm_v (cc := cX12_outByte) (mL := 2) (own := RX12) hN (by decide) rfl rfl (Nat.le_of_ble_eq_true rfl) (fun Z B hret => ?_)
  have hF : sx_fr h L (fun a => h.1 a = 12 ∨ h.1 a = 131) q q := sx_fr.rf
  have hK : sx_kf a0 [22] q q := sx_kf.rf
  show WA l dC dI h L ({ frames := 0, cells := 0, slots := 0, locals := 0 } : Room) 2 Z q 0 [(0, .ref a0), (1, .int n1)] []
  refine wa_aload_n B dX12_outByte_0 rfl 0 rfl ?_
  obtain ⟨a_1, ea_1, ha_1, ka_1, la_1⟩ := hV.refn (n := 80) (t := 131) ha0 ka0 21 rfl (by decide) rfl (by decide)
  refine wa_getR B (C := RX12) (T := TX12) (N := 51) iq_X12_outByte_X12 ha0 ka0 (by decide) rfl 21 (by decide) (by decide) (by decide +kernel) rfl (fun _ _ _ => rfl) (v := a_1) ea_1 dX12_outByte_1 ?_
  refine wa_aload_n B dX12_outByte_4 rfl 0 rfl ?_
  refine wa_getI B (C := RX12) (T := TX12) (N := 51) iq_X12_outByte_X12 ha0 ka0 (by decide) rfl 22 (by decide) (by decide) (by decide +kernel) rfl (by decide) (v := (q.1 a0 22)) rfl dX12_outByte_5 ?_
  have g_2 : (0 : Int) ≤ (q.1 a0 22).toInt ∧ (q.1 a0 22).toInt ≤ 80 := hV.int ha0 ka0 22
  refine wa_iload_n B dX12_outByte_8 rfl 1 rfl ?_
  refine wa_iastore B ha_1 ka_1 (by decide) (by decide) (show 0 ≤ (q.1 a0 22).toInt by omega) (show (q.1 a0 22).toInt < (h.2.1 a_1 : Int) by omega) dX12_outByte_9 (fun q_3 eq_3 => ?_)
  have hV_q_3 : sx_V h L q_3 := by rw [eq_3]; exact hV.up1 ha_1 ka_1 trivial
  have hF_q_3 : sx_fr h L (fun a => h.1 a = 12 ∨ h.1 a = 131) q q_3 := hF.tr (by rw [eq_3]; exact sx_fr.pG (show h.1 a_1 = 100 ∨ (h.1 a_1 = 12 ∨ h.1 a_1 = 131) from by omega))
  have z_4 : q_3.2.2.2.1 a_1 = (upd (q.2.2.2.1 a_1) ((q.1 a0 22) : Int32).toNatClampNeg n1) := by rw [eq_3, sg_pG_e]
  have z_5 : q_3.2.2.2.1 a_1 ((q.1 a0 22) : Int32).toNatClampNeg = n1 := by rw [eq_3, sg_pG_e]; exact if_pos rfl
  have hK_q_3 : sx_kf a0 [22] q q_3 := hK.tr (sx_kf.eq (by rw [eq_3]; rfl) (by rw [eq_3]; rfl))
  refine wa_aload_n B dX12_outByte_10 rfl 0 rfl ?_
  refine wa_dup B dX12_outByte_11 rfl ?_
  have z_6 : q_3.1 a0 22 = q.1 a0 22 := (show q_3.1 a0 22 = q.1 a0 22 from by rw [eq_3]; rfl)
  refine wa_getI B (C := RX12) (T := TX12) (N := 51) iq_X12_outByte_X12 ha0 ka0 (by decide) rfl 22 (by decide) (by decide) (by decide +kernel) rfl (by decide) (v := (q.1 a0 22)) z_6 dX12_outByte_12 ?_
  refine wa_iconst B 1 dX12_outByte_15 (by decide) ?_
  refine wa_iadd B dX12_outByte_16 (fun v_7 ev_7 => ?_)
  have tv_7 : v_7.toInt = (q.1 a0 22).toInt + 1 := by have b0 := zx_bd (q.1 a0 22); rw [ev_7]; exact zx_add (show (-2147483648 : Int) ≤ (q.1 a0 22).toInt + 1 by omega) (show (q.1 a0 22).toInt + 1 < (2147483648 : Int) by omega)
  refine wa_putI B (C := RX12) (T := TX12) (N := 51) iq_X12_outByte_X12 ha0 ka0 (by decide) rfl 22 (by decide) (by decide) (by decide +kernel) rfl (by decide) (v := v_7) (ty := .int) tyX12 tyX12_ok nmX12 rfl (by decide +kernel) rfl rfl dX12_outByte_17 (fun q_8 eq_8 => ?_)
  have hV_q_8 : sx_V h L q_8 := by rw [eq_8]; exact hV_q_3.pI ka0 (show sx_in v_7 (0) 80 from ⟨by omega, by omega⟩)
  have hF_q_8 : sx_fr h L (fun a => h.1 a = 12 ∨ h.1 a = 131) q q_8 := hF_q_3.tr (by rw [eq_8]; exact sx_fr.pI (show h.1 a0 = 12 ∨ h.1 a0 = 131 from by omega))
  have z_9 : q_8.1 a0 22 = v_7 := by rw [eq_8]; exact sg_pI_e
  have hK_q_8 : sx_kf a0 [22] q q_8 := hK_q_3.tr (by rw [eq_8]; exact sx_kf.pI (by decide))
  have y_10 : (q_8.1 a0 22).toInt = v_7.toInt := by rw [z_9]
  exact hret _ _ _ dX12_outByte_20 ⟨hV_q_8, hF_q_8, hK_q_8, (by first | omega | (refine ⟨?_, ?_⟩ <;> omega) | trivial)⟩
theorem iq_X12_say_X12 : ∀ w ∈ wsX120, w ∈ wsX12_say := fun _ h => List.mem_cons_of_mem _ (List.mem_append_right _ h)
set_option maxHeartbeats 4000000 in
set_option maxRecDepth 100000 in
theorem k_X12_say (l : Launch) (dC : Nat → ClassId) (dI : Nat → Nat → Nat) (h : Sh) (L : List Nat) (hN : sx_nd L) (q : Sg) (hV : sx_V h L q) {a0 : Nat} (ha0 : a0 ∈ L) (ka0 : h.1 a0 = 12) (n1 : Int32)   (hy0 : (q.1 a0 4).toInt ≤ 499) (hy1 : 0 ≤ n1.toInt) (hy2 : n1.toInt ≤ 255) : CMv l dC dI h L yX12_say wsX12_say ({ frames := 0, cells := 0, slots := 0, locals := 0 } : Room) q [.ref a0, .int n1] (fun q' => sx_V h L q' ∧ sx_fr h L (fun a => h.1 a = 12 ∨ h.1 a = 113) q q' ∧ sx_kf a0 [4] q q' ∧ ((q'.1 a0 4).toInt = (q.1 a0 4).toInt + 1)) := by
  refine cm_v (cc := cX12_say) (mL := 2) (own := RX12) hN (by decide) rfl rfl (Nat.le_of_ble_eq_true rfl) (fun Z B hret => ?_)
  have hF : sx_fr h L (fun a => h.1 a = 12 ∨ h.1 a = 113) q q := sx_fr.rf
  have hK : sx_kf a0 [4] q q := sx_kf.rf
  show WA l dC dI h L ({ frames := 0, cells := 0, slots := 0, locals := 0 } : Room) 2 Z q 0 [(0, .ref a0), (1, .int n1)] []
  refine wa_aload_n B dX12_say_0 rfl 0 rfl ?_
  obtain ⟨a_1, ea_1, ha_1, ka_1, la_1⟩ := hV.refn (n := 500) (t := 113) ha0 ka0 3 rfl (by decide) rfl (by decide)
  refine wa_getR B (C := RX12) (T := TX12) (N := 51) iq_X12_say_X12 ha0 ka0 (by decide) rfl 3 (by decide) (by decide) (by decide +kernel) rfl (fun _ _ _ => rfl) (v := a_1) ea_1 dX12_say_1 ?_
  refine wa_aload_n B dX12_say_4 rfl 0 rfl ?_
  refine wa_getI B (C := RX12) (T := TX12) (N := 51) iq_X12_say_X12 ha0 ka0 (by decide) rfl 4 (by decide) (by decide) (by decide +kernel) rfl (by decide) (v := (q.1 a0 4)) rfl dX12_say_5 ?_
  have g_2 : (0 : Int) ≤ (q.1 a0 4).toInt ∧ (q.1 a0 4).toInt ≤ 500 := hV.int ha0 ka0 4
  refine wa_iload_n B dX12_say_8 rfl 1 rfl ?_
  refine wa_iastore B ha_1 ka_1 (by decide) (by decide) (show 0 ≤ (q.1 a0 4).toInt by omega) (show (q.1 a0 4).toInt < (h.2.1 a_1 : Int) by omega) dX12_say_9 (fun q_3 eq_3 => ?_)
  have hV_q_3 : sx_V h L q_3 := by rw [eq_3]; exact hV.up1 ha_1 ka_1 (show sx_in n1 (0) 255 from ⟨by omega, by omega⟩)
  have hF_q_3 : sx_fr h L (fun a => h.1 a = 12 ∨ h.1 a = 113) q q_3 := hF.tr (by rw [eq_3]; exact sx_fr.pG (show h.1 a_1 = 100 ∨ (h.1 a_1 = 12 ∨ h.1 a_1 = 113) from by omega))
  have z_4 : q_3.2.2.2.1 a_1 = (upd (q.2.2.2.1 a_1) ((q.1 a0 4) : Int32).toNatClampNeg n1) := by rw [eq_3, sg_pG_e]
  have z_5 : q_3.2.2.2.1 a_1 ((q.1 a0 4) : Int32).toNatClampNeg = n1 := by rw [eq_3, sg_pG_e]; exact if_pos rfl
  have hK_q_3 : sx_kf a0 [4] q q_3 := hK.tr (sx_kf.eq (by rw [eq_3]; rfl) (by rw [eq_3]; rfl))
  refine wa_aload_n B dX12_say_10 rfl 0 rfl ?_
  refine wa_dup B dX12_say_11 rfl ?_
  have z_6 : q_3.1 a0 4 = q.1 a0 4 := (show q_3.1 a0 4 = q.1 a0 4 from by rw [eq_3]; rfl)
  refine wa_getI B (C := RX12) (T := TX12) (N := 51) iq_X12_say_X12 ha0 ka0 (by decide) rfl 4 (by decide) (by decide) (by decide +kernel) rfl (by decide) (v := (q.1 a0 4)) z_6 dX12_say_12 ?_
  refine wa_iconst B 1 dX12_say_15 (by decide) ?_
  refine wa_iadd B dX12_say_16 (fun v_7 ev_7 => ?_)
  have tv_7 : v_7.toInt = (q.1 a0 4).toInt + 1 := by have b0 := zx_bd (q.1 a0 4); rw [ev_7]; exact zx_add (show (-2147483648 : Int) ≤ (q.1 a0 4).toInt + 1 by omega) (show (q.1 a0 4).toInt + 1 < (2147483648 : Int) by omega)
  refine wa_putI B (C := RX12) (T := TX12) (N := 51) iq_X12_say_X12 ha0 ka0 (by decide) rfl 4 (by decide) (by decide) (by decide +kernel) rfl (by decide) (v := v_7) (ty := .int) tyX12 tyX12_ok nmX12 rfl (by decide +kernel) rfl rfl dX12_say_17 (fun q_8 eq_8 => ?_)
  have hV_q_8 : sx_V h L q_8 := by rw [eq_8]; exact hV_q_3.pI ka0 (show sx_in v_7 (0) 500 from ⟨by omega, by omega⟩)
  have hF_q_8 : sx_fr h L (fun a => h.1 a = 12 ∨ h.1 a = 113) q q_8 := hF_q_3.tr (by rw [eq_8]; exact sx_fr.pI (show h.1 a0 = 12 ∨ h.1 a0 = 113 from by omega))
  have z_9 : q_8.1 a0 4 = v_7 := by rw [eq_8]; exact sg_pI_e
  have hK_q_8 : sx_kf a0 [4] q q_8 := hK_q_3.tr (by rw [eq_8]; exact sx_kf.pI (by decide))
  have y_10 : (q_8.1 a0 4).toInt = v_7.toInt := by rw [z_9]
  exact hret _ _ _ dX12_say_20 ⟨hV_q_8, hF_q_8, hK_q_8, (by first | omega | (refine ⟨?_, ?_⟩ <;> omega) | trivial)⟩
