theorem ty_4i {f f1 f2 f3 f4 : Nat → Int32} {s i0 i1 i2 i3 : Nat} {n x y z : Int32} (e1 : f1 = upd f i0 (ty_b x)) (e2 : f2 = upd f1 i1 (ty_b y)) (e3 : f3 = upd f2 i2 (ty_b z)) (e4 : f4 = upd f3 i3 (ty_b n)) (hx : x = ty_s n 24) (hy : y = ty_s n 16) (hz : z = ty_s n 8) (h0 : i0 = s) (h1 : i1 = s + 1) (h2 : i2 = s + 2) (h3 : i3 = s + 3) : f4 = ty_4 f s n := by
  subst h0 h1 h2 h3 hx hy hz e1 e2 e3 e4
  rfl
theorem tm_4i {f F : Nat → Int32} {s i0 i1 i2 i3 : Nat} {n x0 x1 x2 x3 : Int32} (e : F = upd (upd (upd (upd f i0 x0) i1 x1) i2 x2) i3 x3) (g0 : x0 = ty_s n 24 &&& 255) (g1 : x1 = ty_s n 16 &&& 255) (g2 : x2 = ty_s n 8 &&& 255) (g3 : x3 = ty_s n 0 &&& 255) (h0 : i0 = s) (h1 : i1 = s + 1) (h2 : i2 = s + 2) (h3 : i3 = s + 3) : F = tm_4 f s n := by
  subst h0 h1 h2 h3 g0 g1 g2 g3 e
  rfl
theorem ty_20i {f f1 f2 f3 f4 f5 : Nat → Int32} {s i0 i1 i2 i3 i4 : Nat} {a b c d e : Int32} (e1 : f1 = ty_4 f i0 a) (e2 : f2 = ty_4 f1 i1 b) (e3 : f3 = ty_4 f2 i2 c) (e4 : f4 = ty_4 f3 i3 d) (e5 : f5 = ty_4 f4 i4 e) (h0 : i0 = s) (h1 : i1 = s + 4) (h2 : i2 = s + 8) (h3 : i3 = s + 12) (h4 : i4 = s + 16) : f5 = ty_20 f s a b c d e := by
  subst h0 h1 h2 h3 h4 e1 e2 e3 e4 e5
  rfl
theorem tm_20i {f f1 f2 f3 f4 f5 : Nat → Int32} {s i0 i1 i2 i3 i4 : Nat} {a b c d e : Int32} (e1 : f1 = tm_4 f i0 a) (e2 : f2 = tm_4 f1 i1 b) (e3 : f3 = tm_4 f2 i2 c) (e4 : f4 = tm_4 f3 i3 d) (e5 : f5 = tm_4 f4 i4 e) (h0 : i0 = s) (h1 : i1 = s + 4) (h2 : i2 = s + 8) (h3 : i3 = s + 12) (h4 : i4 = s + 16) : f5 = tm_20 f s a b c d e := by
  subst h0 h1 h2 h3 h4 e1 e2 e3 e4 e5
  rfl
set_option maxHeartbeats 4000000 in
set_option maxRecDepth 100000 in
theorem k_X7_put_c (l : Launch) (dC : Nat → ClassId) (dI : Nat → Nat → Nat) (h : Sh) (L : List Nat) (hN : sx_nd L) (q : Sg) (hV : sx_V h L q) {a0 : Nat} (ha0 : a0 ∈ L) (ka0 : h.1 a0 = 7) (n1 : Int32) {b0 : Nat} (eb0 : q.2.2.1 a0 0 = b0)   (hy0 : (q.1 a0 1).toInt < (h.2.1 b0 : Int)) : CMv l dC dI h L yX7_put wsX7_put ({ frames := 0, cells := 0, slots := 0, locals := 0 } : Room) q [.ref a0, .int n1] (fun q' => sx_V h L q' ∧ sx_fr h L (fun a => a = a0 ∧ h.1 a = 7 ∨ a = b0 ∧ h.1 a = 300) q q' ∧ ((q'.1 a0 1).toInt = (q.1 a0 1).toInt + 1 ∧ q'.2.2.2.1 b0 = upd (q.2.2.2.1 b0) (q.1 a0 1).toNatClampNeg (ty_b n1))) := by
  refine cm_v (cc := cX7_put) (mL := 2) (own := RX7) hN (by decide) rfl rfl (Nat.le_of_ble_eq_true rfl) (fun Z B hret => ?_)
  have hF : sx_fr h L (fun a => a = a0 ∧ h.1 a = 7 ∨ a = b0 ∧ h.1 a = 300) q q := sx_fr.rf
  obtain ⟨hb0, kb0⟩ : b0 ∈ L ∧ h.1 b0 = 300 := by obtain ⟨r9, e9, z1, z2⟩ := hV.ref (t := 300) ha0 ka0 0 rfl (by decide); rw [← eb0, e9]; exact ⟨z1, z2⟩
  show WA l dC dI h L ({ frames := 0, cells := 0, slots := 0, locals := 0 } : Room) 2 Z q 0 [(0, .ref a0), (1, .int n1)] []
  refine wa_aload_n B dX7_put_0 rfl 0 rfl ?_
  refine wa_getI B (C := RX7) (T := TX7) (N := 2) iq_X7_put_X7 ha0 ka0 (by decide) rfl 1 (by decide) (by decide) (by decide +kernel) rfl (by decide) (v := (q.1 a0 1)) rfl dX7_put_1 ?_
  have g_1 : (0 : Int) ≤ (q.1 a0 1).toInt ∧ (q.1 a0 1).toInt ≤ (h.2.1 b0 : Int) := by have z9 := hV.int ha0 ka0 1; rw [eb0] at z9; exact z9
  have l_2 : h.2.1 b0 ≤ 5000 := hV.len hb0
  refine wa_aload_n B dX7_put_4 rfl 0 rfl ?_
  refine wa_getR B (C := RX7) (T := TX7) (N := 2) iq_X7_put_X7 ha0 ka0 (by decide) rfl 0 (by decide) (by decide) (by decide +kernel) rfl (fun _ _ _ => rfl) (v := b0) eb0 dX7_put_5 ?_
  refine wa_alenB B hb0 kb0 (by decide) (by decide) dX7_put_8 (fun v_3 ev_3 => ?_)
  have gv_3 : v_3.toInt = (h.2.1 b0 : Int) := by rw [ev_3]; exact zx_len (hV.len hb0)
  have l_4 : h.2.1 b0 ≤ 5000 := hV.len hb0
  refine wa_icmp_ge B 33 dX7_put_9 (by decide) (fun (t_5 : v_3.toInt ≤ (q.1 a0 1).toInt) => ?_) (fun (t_5 : ¬ v_3.toInt ≤ (q.1 a0 1).toInt) => ?_)
  · exact hret _ _ _ dX7_put_33 ⟨hV, hF, (by exfalso; omega)⟩
  · refine wa_aload_n B dX7_put_12 rfl 0 rfl ?_
    refine wa_getR B (C := RX7) (T := TX7) (N := 2) iq_X7_put_X7 ha0 ka0 (by decide) rfl 0 (by decide) (by decide) (by decide +kernel) rfl (fun _ _ _ => rfl) (v := b0) eb0 dX7_put_13 ?_
    refine wa_aload_n B dX7_put_16 rfl 0 rfl ?_
    refine wa_getI B (C := RX7) (T := TX7) (N := 2) iq_X7_put_X7 ha0 ka0 (by decide) rfl 1 (by decide) (by decide) (by decide +kernel) rfl (by decide) (v := (q.1 a0 1)) rfl dX7_put_17 ?_
    refine wa_iload_n B dX7_put_20 rfl 1 rfl ?_
    refine wa_i2b B dX7_put_21 (fun v_6 ev_6 => ?_)
    refine wa_bastore B hb0 kb0 (by decide) (by decide) (show 0 ≤ (q.1 a0 1).toInt by omega) (show (q.1 a0 1).toInt < (h.2.1 b0 : Int) by omega) dX7_put_22 (fun q_7 eq_7 => ?_)
    have hV_q_7 : sx_V h L q_7 := by rw [eq_7]; exact hV.up1 hb0 kb0 trivial
    have hF_q_7 : sx_fr h L (fun a => a = a0 ∧ h.1 a = 7 ∨ a = b0 ∧ h.1 a = 300) q q_7 := hF.tr (by rw [eq_7]; exact sx_fr.pG (show h.1 b0 = 100 ∨ (b0 = a0 ∧ h.1 b0 = 7 ∨ b0 = b0 ∧ h.1 b0 = 300) from by omega))
    refine wa_aload_n B dX7_put_23 rfl 0 rfl ?_
    refine wa_dup B dX7_put_24 rfl ?_
    have z_8 : q_7.1 a0 1 = q.1 a0 1 := (show q_7.1 a0 1 = q.1 a0 1 from by rw [eq_7]; rfl)
    refine wa_getI B (C := RX7) (T := TX7) (N := 2) iq_X7_put_X7 ha0 ka0 (by decide) rfl 1 (by decide) (by decide) (by decide +kernel) rfl (by decide) (v := (q.1 a0 1)) z_8 dX7_put_25 ?_
    refine wa_iconst B 1 dX7_put_28 (by decide) ?_
    refine wa_iadd B dX7_put_29 (fun v_9 ev_9 => ?_)
    have tv_9 : v_9.toInt = (q.1 a0 1).toInt + 1 := by have b0 := zx_bd (q.1 a0 1); rw [ev_9]; exact zx_add (show (-2147483648 : Int) ≤ (q.1 a0 1).toInt + 1 by omega) (show (q.1 a0 1).toInt + 1 < (2147483648 : Int) by omega)
    refine wa_putI B (C := RX7) (T := TX7) (N := 2) iq_X7_put_X7 ha0 ka0 (by decide) rfl 1 (by decide) (by decide) (by decide +kernel) rfl (by decide) (v := v_9) (ty := .int) tyX7 tyX7_ok nmX7 rfl (by decide +kernel) rfl rfl dX7_put_30 (fun q_10 eq_10 => ?_)
    have z_11 : q_7.2.2.1 a0 0 = b0 := ((show q_7.2.2.1 a0 0 = q.2.2.1 a0 0 from by rw [eq_7]; rfl)).trans (eb0)
    have hV_q_10 : sx_V h L q_10 := by rw [eq_10]; exact hV_q_7.pI ka0 (show sx_in v_9 0 ((h.2.1 (q_7.2.2.1 a0 0) : Nat) : Int) from ⟨by omega, by rw [z_11]; omega⟩)
    have hF_q_10 : sx_fr h L (fun a => a = a0 ∧ h.1 a = 7 ∨ a = b0 ∧ h.1 a = 300) q q_10 := hF_q_7.tr (by rw [eq_10]; exact sx_fr.pI (show a0 = a0 ∧ h.1 a0 = 7 ∨ a0 = b0 ∧ h.1 a0 = 300 from by omega))
    have z_12 : q_10.1 a0 1 = v_9 := by rw [eq_10]; exact sg_pI_e
    have y_13 : (q_10.1 a0 1).toInt = v_9.toInt := by rw [z_12]
    exact hret _ _ _ dX7_put_33 ⟨hV_q_10, hF_q_10, ⟨by omega, by rw [eq_10]; show q_7.2.2.2.1 b0 = _; rw [eq_7, sg_pG_e, ev_6]; rfl⟩⟩
set_option maxHeartbeats 4000000 in
set_option maxRecDepth 100000 in
theorem k_X7_putFour_c (l : Launch) (dC : Nat → ClassId) (dI : Nat → Nat → Nat) (h : Sh) (L : List Nat) (hN : sx_nd L) (q : Sg) (hV : sx_V h L q) {a0 : Nat} (ha0 : a0 ∈ L) (ka0 : h.1 a0 = 7) (n1 : Int32) {b0 : Nat} (eb0 : q.2.2.1 a0 0 = b0)   (hy0 : (q.1 a0 1).toInt + 4 ≤ (h.2.1 b0 : Int)) : CMv l dC dI h L yX7_putFour wsX7_putFour ({ frames := 1, cells := 0, slots := 0, locals := 21 } : Room) q [.ref a0, .int n1] (fun q' => sx_V h L q' ∧ sx_fr h L (fun a => a = a0 ∧ h.1 a = 7 ∨ a = b0 ∧ h.1 a = 300) q q' ∧ ((q'.1 a0 1).toInt = (q.1 a0 1).toInt + 4 ∧ q'.2.2.2.1 b0 = ty_4 (q.2.2.2.1 b0) (q.1 a0 1).toInt.toNat n1)) := by
  refine cm_v (cc := cX7_putFour) (mL := 2) (own := RX7) hN (by decide) rfl rfl (Nat.le_of_ble_eq_true rfl) (fun Z B hret => ?_)
  have hF : sx_fr h L (fun a => a = a0 ∧ h.1 a = 7 ∨ a = b0 ∧ h.1 a = 300) q q := sx_fr.rf
  obtain ⟨hb0, kb0⟩ : b0 ∈ L ∧ h.1 b0 = 300 := by obtain ⟨r9, e9, z1, z2⟩ := hV.ref (t := 300) ha0 ka0 0 rfl (by decide); rw [← eb0, e9]; exact ⟨z1, z2⟩
  show WA l dC dI h L ({ frames := 1, cells := 0, slots := 0, locals := 21 } : Room) 2 Z q 0 [(0, .ref a0), (1, .int n1)] []
  have g_1 : (0 : Int) ≤ (q.1 a0 1).toInt ∧ (q.1 a0 1).toInt ≤ (h.2.1 b0 : Int) := by have z9 := hV.int ha0 ka0 1; rw [eb0] at z9; exact z9
  have l_2 : h.2.1 b0 ≤ 5000 := hV.len hb0
  refine wa_aload_n B dX7_putFour_0 rfl 0 rfl ?_
  refine wa_iload_n B dX7_putFour_1 rfl 1 rfl ?_
  refine wa_bipush B 24 dX7_putFour_2 (by decide) ?_
  refine wa_iushr B dX7_putFour_4 (fun v_3 ev_3 => ?_)
  refine wa_callVv B (x := (RX7, TX7, 2)) (As := [.int v_3]) (rest := []) (k_X7_put_c l dC dI h L hN q hV (a0 := a0) ha0 ka0 v_3 (b0 := b0) eb0  (by first | assumption | omega | decide)) (cwV 1 B.1.2.2.2.2 gX7_putFour_X7_put rfl rfl rfl (by decide +kernel) ⟨Nat.le_of_ble_eq_true rfl, Nat.le_of_ble_eq_true rfl⟩) ha0 ka0 (by decide) rfl rfl rfl (Nat.le_of_ble_eq_true rfl) dX7_putFour_5 (fun q_4 w_5 => ?_)
  obtain ⟨hV_q_4, h2_q_4, hw_5⟩ := w_5
  have hF_q_4 : sx_fr h L (fun a => a = a0 ∧ h.1 a = 7 ∨ a = b0 ∧ h.1 a = 300) q q_4 := hF.tr (h2_q_4.mono (fun a (z : a = a0 ∧ h.1 a = 7 ∨ a = b0 ∧ h.1 a = 300) => (show a = a0 ∧ h.1 a = 7 ∨ a = b0 ∧ h.1 a = 300 from by omega)))
  refine wa_aload_n B dX7_putFour_8 rfl 0 rfl ?_
  refine wa_iload_n B dX7_putFour_9 rfl 1 rfl ?_
  refine wa_bipush B 16 dX7_putFour_10 (by decide) ?_
  refine wa_iushr B dX7_putFour_12 (fun v_6 ev_6 => ?_)
  have z_7 : q_4.2.2.1 a0 0 = b0 := (h2_q_4.R ha0 (fun z9 => absurd z9.2 (by omega)) 0).trans (eb0)
  refine wa_callVv B (x := (RX7, TX7, 2)) (As := [.int v_6]) (rest := []) (k_X7_put_c l dC dI h L hN q_4 hV_q_4 (a0 := a0) ha0 ka0 v_6 (b0 := b0) z_7  (by first | assumption | omega | decide)) (cwV 1 B.1.2.2.2.2 gX7_putFour_X7_put rfl rfl rfl (by decide +kernel) ⟨Nat.le_of_ble_eq_true rfl, Nat.le_of_ble_eq_true rfl⟩) ha0 ka0 (by decide) rfl rfl rfl (Nat.le_of_ble_eq_true rfl) dX7_putFour_13 (fun q_8 w_9 => ?_)
  obtain ⟨hV_q_8, h2_q_8, hw_9⟩ := w_9
  have hF_q_8 : sx_fr h L (fun a => a = a0 ∧ h.1 a = 7 ∨ a = b0 ∧ h.1 a = 300) q q_8 := hF_q_4.tr (h2_q_8.mono (fun a (z : a = a0 ∧ h.1 a = 7 ∨ a = b0 ∧ h.1 a = 300) => (show a = a0 ∧ h.1 a = 7 ∨ a = b0 ∧ h.1 a = 300 from by omega)))
  refine wa_aload_n B dX7_putFour_16 rfl 0 rfl ?_
  refine wa_iload_n B dX7_putFour_17 rfl 1 rfl ?_
  refine wa_bipush B 8 dX7_putFour_18 (by decide) ?_
  refine wa_iushr B dX7_putFour_20 (fun v_10 ev_10 => ?_)
  have z_11 : q_8.2.2.1 a0 0 = b0 := (h2_q_8.R ha0 (fun z9 => absurd z9.2 (by omega)) 0).trans (z_7)
  refine wa_callVv B (x := (RX7, TX7, 2)) (As := [.int v_10]) (rest := []) (k_X7_put_c l dC dI h L hN q_8 hV_q_8 (a0 := a0) ha0 ka0 v_10 (b0 := b0) z_11  (by first | assumption | omega | decide)) (cwV 1 B.1.2.2.2.2 gX7_putFour_X7_put rfl rfl rfl (by decide +kernel) ⟨Nat.le_of_ble_eq_true rfl, Nat.le_of_ble_eq_true rfl⟩) ha0 ka0 (by decide) rfl rfl rfl (Nat.le_of_ble_eq_true rfl) dX7_putFour_21 (fun q_12 w_13 => ?_)
  obtain ⟨hV_q_12, h2_q_12, hw_13⟩ := w_13
  have hF_q_12 : sx_fr h L (fun a => a = a0 ∧ h.1 a = 7 ∨ a = b0 ∧ h.1 a = 300) q q_12 := hF_q_8.tr (h2_q_12.mono (fun a (z : a = a0 ∧ h.1 a = 7 ∨ a = b0 ∧ h.1 a = 300) => (show a = a0 ∧ h.1 a = 7 ∨ a = b0 ∧ h.1 a = 300 from by omega)))
  refine wa_aload_n B dX7_putFour_24 rfl 0 rfl ?_
  refine wa_iload_n B dX7_putFour_25 rfl 1 rfl ?_
  have z_14 : q_12.2.2.1 a0 0 = b0 := (h2_q_12.R ha0 (fun z9 => absurd z9.2 (by omega)) 0).trans (z_11)
  refine wa_callVv B (x := (RX7, TX7, 2)) (As := [.int n1]) (rest := []) (k_X7_put_c l dC dI h L hN q_12 hV_q_12 (a0 := a0) ha0 ka0 n1 (b0 := b0) z_14  (by first | assumption | omega | decide)) (cwV 1 B.1.2.2.2.2 gX7_putFour_X7_put rfl rfl rfl (by decide +kernel) ⟨Nat.le_of_ble_eq_true rfl, Nat.le_of_ble_eq_true rfl⟩) ha0 ka0 (by decide) rfl rfl rfl (Nat.le_of_ble_eq_true rfl) dX7_putFour_26 (fun q_15 w_16 => ?_)
  obtain ⟨hV_q_15, h2_q_15, hw_16⟩ := w_16
  have hF_q_15 : sx_fr h L (fun a => a = a0 ∧ h.1 a = 7 ∨ a = b0 ∧ h.1 a = 300) q q_15 := hF_q_12.tr (h2_q_15.mono (fun a (z : a = a0 ∧ h.1 a = 7 ∨ a = b0 ∧ h.1 a = 300) => (show a = a0 ∧ h.1 a = 7 ∨ a = b0 ∧ h.1 a = 300 from by omega)))
  exact hret _ _ _ dX7_putFour_29 ⟨hV_q_15, hF_q_15, ⟨by omega, ty_4i hw_5.2 hw_9.2 hw_13.2 hw_16.2  ev_3 ev_6 ev_10 rfl (by have a9 := zx_nc (q_4.1 a0 1); have b9 := zx_nc (q.1 a0 1); omega) (by have a9 := zx_nc (q_8.1 a0 1); have b9 := zx_nc (q.1 a0 1); omega) (by have a9 := zx_nc (q_12.1 a0 1); have b9 := zx_nc (q.1 a0 1); omega)⟩⟩
