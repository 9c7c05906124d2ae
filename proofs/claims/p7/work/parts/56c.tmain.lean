def sx_c6 (h : Sh) (a : Nat) : Prop := (0 < h.1 a ∧ h.1 a < 9 ∧ ¬ (h.1 a = 7 ∧ h.2.1 a = 2)) ∨ (10 ≤ h.1 a ∧ h.1 a < 12) ∨ h.1 a = 100 ∨ h.1 a = 200 ∨ (h.1 a = 300 ∧ ¬ h.2.1 a = 440 ∧ ¬ h.2.1 a = 59) ∨ 400 ≤ h.1 a
theorem sx_c6.k {h : Sh} {a k : Nat} (e : h.1 a = k) (hk : (0 < k ∧ k < 9 ∧ ¬ k = 7) ∨ (10 ≤ k ∧ k < 12) ∨ k = 100 ∨ k = 200 ∨ 400 ≤ k) : sx_c6 h a := by
  unfold sx_c6
  rw [e]
  omega
theorem sx_c6.n {h : Sh} {a k : Nat} (e : h.1 a = k) (hk : k = 0 ∨ k = 9 ∨ k = 12 ∨ (101 ≤ k ∧ k < 200) ∨ (201 ≤ k ∧ k < 300)) : ¬ sx_c6 h a := by
  unfold sx_c6
  rw [e]
  omega
theorem sx_c6.t {h : Sh} {a : Nat} (e : h.1 a = 300) (l : h.2.1 a = 440) : ¬ sx_c6 h a := by
  unfold sx_c6
  rw [e, l]
  omega
theorem sx_c6.u {h : Sh} {a : Nat} (e : h.1 a = 300) (l : h.2.1 a = 59) : ¬ sx_c6 h a := by
  unfold sx_c6
  rw [e, l]
  omega
theorem sx_c6.o {h : Sh} {a : Nat} (e : h.1 a = 7) (l : h.2.1 a = 2) : ¬ sx_c6 h a := by
  unfold sx_c6
  rw [e, l]
  omega
theorem sx_c6.k7 {h : Sh} {a t : Nat} (e : h.1 a = 7) (l : h.2.1 a = t) (ht : ¬ t = 2) : sx_c6 h a := by
  unfold sx_c6
  rw [e, l]
  omega
theorem sx_c6.k3 {h : Sh} {a t : Nat} (e : h.1 a = 300) (l : h.2.1 a = t) (ht : ¬ t = 440 ∧ ¬ t = 59) : sx_c6 h a := by
  unfold sx_c6
  rw [e, l]
  omega
set_option maxHeartbeats 4000000 in
set_option maxRecDepth 100000 in
theorem k_X11_feed_c (l : Launch) (dC : Nat → ClassId) (dI : Nat → Nat → Nat) (h : Sh) (L : List Nat) (hN : sx_nd L) (q : Sg) (hV : sx_V h L q) {a0 : Nat} (ha0 : a0 ∈ L) (ka0 : h.1 a0 = 11) (n1 : Int32) (n2 : Int32) (n3 : Int32) (n4 : Int32) (n5 : Int32) {t0 : Nat} (et0 : q.2.2.1 a0 0 = t0) {tb : Nat} (etb : q.2.2.1 t0 0 = tb) {fa : Nat} (efa : q.2.2.1 a0 9 = fa) {uu : Nat} (euu : q.2.2.1 a0 11 = uu) {o0 : Nat} (eo0 : q.2.2.1 a0 1 = o0) {ob : Nat} (eob : q.2.2.1 o0 0 = ob)    : CMi l dC dI h L yX11_feed wsX11_feed ({ frames := 2, cells := 0, slots := 0, locals := 42 } : Room) q [.ref a0, .int n1, .int n2, .int n3, .int n4, .int n5] (fun r q' => sx_V h L q' ∧ sx_fr h L (fun a => a = t0 ∧ h.1 a = 7 ∨ a = tb ∧ h.1 a = 300) q q' ∧ (q'.2.2.1 a0 0 = t0 ∧ ((q.1 t0 1).toInt + 20 ≤ 440 ∧ (q'.1 t0 1).toInt = (q.1 t0 1).toInt + 20 ∨ 440 < (q.1 t0 1).toInt + 20 ∧ (q'.1 t0 1).toInt = (q.1 t0 1).toInt) ∧ (q'.1 a0 14).toInt = (q.1 a0 14).toInt ∧ q'.2.2.1 a0 11 = uu ∧ q'.2.2.1 a0 12 = q.2.2.1 a0 12 ∧ (q'.2.2.1 a0 9 = fa ∧ q'.2.2.1 a0 1 = o0) ∧ ((q.1 t0 1).toInt + 20 ≤ 440 ∧ r.toInt = (q.1 t0 1).toInt + 20 ∨ 440 < (q.1 t0 1).toInt + 20 ∧ r.toInt = -1) ∧ ((q.1 t0 1).toInt + 20 ≤ 440 → q'.2.2.2.1 tb = ty_20 (q.2.2.2.1 tb) (q.1 t0 1).toInt.toNat n1 n2 n3 n4 n5) ∧ (440 < (q.1 t0 1).toInt + 20 → q'.2.2.2.1 tb = q.2.2.2.1 tb))) := by
  refine cm_i (cc := cX11_feed) (mL := 6) (own := RX11) hN (by decide) rfl rfl (Nat.le_of_ble_eq_true rfl) (fun Z B hret => ?_)
  have hF : sx_fr h L (fun a => a = t0 ∧ h.1 a = 7 ∨ a = tb ∧ h.1 a = 300) q q := sx_fr.rf
  obtain ⟨ht0, kt0, lt0⟩ : t0 ∈ L ∧ h.1 t0 = 7 ∧ h.2.1 t0 = 1 := by obtain ⟨r9, e9, z1, z2, z3⟩ := hV.refn (t := 7) (n := 1) ha0 ka0 0 rfl (by decide) rfl (by decide); rw [← et0, e9]; exact ⟨z1, z2, z3⟩
  obtain ⟨htb, ktb, ltb⟩ : tb ∈ L ∧ h.1 tb = 300 ∧ h.2.1 tb = 440 := by obtain ⟨r9, e9, z1, z2, z3⟩ := hV.refn (t := 300) (n := 440) ht0 kt0 0 rfl (by decide) (by rw [lt0]; rfl) (by decide); rw [← etb, e9]; exact ⟨z1, z2, z3⟩
  obtain ⟨hfa, kfa, lfa⟩ : fa ∈ L ∧ h.1 fa = 403 ∧ h.2.1 fa = 12 := by obtain ⟨r9, e9, z1, z2, z3⟩ := hV.refn (t := 403) (n := 12) ha0 ka0 9 rfl (by decide) rfl (by decide); rw [← efa, e9]; exact ⟨z1, z2, z3⟩
  obtain ⟨huu, kuu⟩ : uu ∈ L ∧ h.1 uu = 9 := by obtain ⟨r9, e9, z1, z2⟩ := hV.ref (t := 9) ha0 ka0 11 rfl (by decide); rw [← euu, e9]; exact ⟨z1, z2⟩
  obtain ⟨ho0, ko0, lo0⟩ : o0 ∈ L ∧ h.1 o0 = 7 ∧ h.2.1 o0 = 2 := by obtain ⟨r9, e9, z1, z2, z3⟩ := hV.refn (t := 7) (n := 2) ha0 ka0 1 rfl (by decide) rfl (by decide); rw [← eo0, e9]; exact ⟨z1, z2, z3⟩
  have nt0_o0 : ¬ t0 = o0 := fun z9 => absurd (z9 ▸ lt0 : h.2.1 o0 = 1) (by rw [lo0]; decide)
  obtain ⟨hob, kob, lob⟩ : ob ∈ L ∧ h.1 ob = 300 ∧ h.2.1 ob = 59 := by obtain ⟨r9, e9, z1, z2, z3⟩ := hV.refn (t := 300) (n := 59) ho0 ko0 0 rfl (by decide) (by rw [lo0]; rfl) (by decide); rw [← eob, e9]; exact ⟨z1, z2, z3⟩
  show WA l dC dI h L ({ frames := 2, cells := 0, slots := 0, locals := 42 } : Room) 6 Z q 0 [(0, .ref a0), (1, .int n1), (2, .int n2), (3, .int n3), (4, .int n4), (5, .int n5)] []
  refine wa_aload_n B dX11_feed_0 rfl 0 rfl ?_
  refine wa_getR B (C := RX11) (T := TX11) (N := 16) iq_X11_feed_X11 ha0 ka0 (by decide) rfl 0 (by decide) (by decide) (by decide +kernel) rfl (fun _ _ _ => rfl) (v := t0) et0 dX11_feed_1 ?_
  refine wa_getI B (C := RX7) (T := TX7) (N := 2) iq_X11_feed_X7 ht0 kt0 (by decide) rfl 1 (by decide) (by decide) (by decide +kernel) rfl (by decide) (v := (q.1 t0 1)) rfl dX11_feed_4 ?_
  have g_1 : (0 : Int) ≤ (q.1 t0 1).toInt ∧ (q.1 t0 1).toInt ≤ (h.2.1 tb : Int) := by have z9 := hV.int ht0 kt0 1; rw [etb] at z9; exact z9
  refine wa_bipush B 20 dX11_feed_7 (by decide) ?_
  refine wa_iadd B dX11_feed_9 (fun v_2 ev_2 => ?_)
  refine wa_sipush B 440 dX11_feed_10 (by decide) ?_
  have tv_2 : v_2.toInt = (q.1 t0 1).toInt + 20 := by have b0 := zx_bd (q.1 t0 1); rw [ev_2]; exact zx_add (show (-2147483648 : Int) ≤ (q.1 t0 1).toInt + 20 by omega) (show (q.1 t0 1).toInt + 20 < (2147483648 : Int) by omega)
  refine wa_icmp_le B 18 dX11_feed_13 (by decide) (fun (t_3 : v_2.toInt ≤ 440) => ?_) (fun (t_3 : ¬ v_2.toInt ≤ 440) => ?_)
  · refine wa_aload_n B dX11_feed_18 rfl 0 rfl ?_
    refine wa_getR B (C := RX11) (T := TX11) (N := 16) iq_X11_feed_X11 ha0 ka0 (by decide) rfl 0 (by decide) (by decide) (by decide +kernel) rfl (fun _ _ _ => rfl) (v := t0) et0 dX11_feed_19 ?_
    refine wa_iload_n B dX11_feed_22 rfl 1 rfl ?_
    refine wa_callVv B (x := (RX7, TX7, 2)) (As := [.int n1]) (rest := []) (k_X7_putFour_c l dC dI h L hN q hV (a0 := t0) ht0 kt0 n1 (b0 := tb) etb  (by first | assumption | omega | decide)) (cwV 1 B.1.2.2.2.2 gX11_feed_X7_putFour rfl rfl rfl (by decide +kernel) ⟨Nat.le_of_ble_eq_true rfl, Nat.le_of_ble_eq_true rfl⟩) ht0 kt0 (by decide) rfl rfl rfl (Nat.le_of_ble_eq_true rfl) dX11_feed_23 (fun q_4 w_5 => ?_)
    obtain ⟨hV_q_4, h2_q_4, hw_5⟩ := w_5
    have hF_q_4 : sx_fr h L (fun a => a = t0 ∧ h.1 a = 7 ∨ a = tb ∧ h.1 a = 300) q q_4 := hF.tr (h2_q_4.mono (fun a (z : a = t0 ∧ h.1 a = 7 ∨ a = tb ∧ h.1 a = 300) => ((fun z => z.elim (fun z => (Or.inl z)) (fun z => (Or.inr z))) z)))
    refine wa_aload_n B dX11_feed_26 rfl 0 rfl ?_
    have z_6 : q_4.2.2.1 a0 0 = t0 := (h2_q_4.R ha0 (show ¬ ((a0 = t0 ∧ h.1 a0 = 7 ∨ a0 = tb ∧ h.1 a0 = 300) ∧ (h.1 a0 = 8 ∨ h.1 a0 = 11)) from fun z9 => (show ¬ (a0 = t0 ∧ h.1 a0 = 7 ∨ a0 = tb ∧ h.1 a0 = 300) from (fun z => z.elim (fun z => absurd (z.2.symm.trans ka0) (by decide)) (fun z => absurd (z.2.symm.trans ka0) (by decide)))) z9.1) 0).trans (et0)
    refine wa_getR B (C := RX11) (T := TX11) (N := 16) iq_X11_feed_X11 ha0 ka0 (by decide) rfl 0 (by decide) (by decide) (by decide +kernel) rfl (fun _ _ _ => rfl) (v := t0) z_6 dX11_feed_27 ?_
    refine wa_iload_n B dX11_feed_30 rfl 2 rfl ?_
    have z_7 : q_4.2.2.1 t0 0 = tb := (h2_q_4.R ht0 (fun z9 => absurd z9.2 (by omega)) 0).trans (etb)
    refine wa_callVv B (x := (RX7, TX7, 2)) (As := [.int n2]) (rest := []) (k_X7_putFour_c l dC dI h L hN q_4 hV_q_4 (a0 := t0) ht0 kt0 n2 (b0 := tb) z_7  (by first | assumption | omega | decide)) (cwV 1 B.1.2.2.2.2 gX11_feed_X7_putFour rfl rfl rfl (by decide +kernel) ⟨Nat.le_of_ble_eq_true rfl, Nat.le_of_ble_eq_true rfl⟩) ht0 kt0 (by decide) rfl rfl rfl (Nat.le_of_ble_eq_true rfl) dX11_feed_31 (fun q_8 w_9 => ?_)
    obtain ⟨hV_q_8, h2_q_8, hw_9⟩ := w_9
    have hF_q_8 : sx_fr h L (fun a => a = t0 ∧ h.1 a = 7 ∨ a = tb ∧ h.1 a = 300) q q_8 := hF_q_4.tr (h2_q_8.mono (fun a (z : a = t0 ∧ h.1 a = 7 ∨ a = tb ∧ h.1 a = 300) => ((fun z => z.elim (fun z => (Or.inl z)) (fun z => (Or.inr z))) z)))
    refine wa_aload_n B dX11_feed_34 rfl 0 rfl ?_
    have z_10 : q_8.2.2.1 a0 0 = t0 := (h2_q_8.R ha0 (show ¬ ((a0 = t0 ∧ h.1 a0 = 7 ∨ a0 = tb ∧ h.1 a0 = 300) ∧ (h.1 a0 = 8 ∨ h.1 a0 = 11)) from fun z9 => (show ¬ (a0 = t0 ∧ h.1 a0 = 7 ∨ a0 = tb ∧ h.1 a0 = 300) from (fun z => z.elim (fun z => absurd (z.2.symm.trans ka0) (by decide)) (fun z => absurd (z.2.symm.trans ka0) (by decide)))) z9.1) 0).trans (z_6)
    refine wa_getR B (C := RX11) (T := TX11) (N := 16) iq_X11_feed_X11 ha0 ka0 (by decide) rfl 0 (by decide) (by decide) (by decide +kernel) rfl (fun _ _ _ => rfl) (v := t0) z_10 dX11_feed_35 ?_
    refine wa_iload_n B dX11_feed_38 rfl 3 rfl ?_
    have z_11 : q_8.2.2.1 t0 0 = tb := (h2_q_8.R ht0 (fun z9 => absurd z9.2 (by omega)) 0).trans (z_7)
    refine wa_callVv B (x := (RX7, TX7, 2)) (As := [.int n3]) (rest := []) (k_X7_putFour_c l dC dI h L hN q_8 hV_q_8 (a0 := t0) ht0 kt0 n3 (b0 := tb) z_11  (by first | assumption | omega | decide)) (cwV 1 B.1.2.2.2.2 gX11_feed_X7_putFour rfl rfl rfl (by decide +kernel) ⟨Nat.le_of_ble_eq_true rfl, Nat.le_of_ble_eq_true rfl⟩) ht0 kt0 (by decide) rfl rfl rfl (Nat.le_of_ble_eq_true rfl) dX11_feed_39 (fun q_12 w_13 => ?_)
    obtain ⟨hV_q_12, h2_q_12, hw_13⟩ := w_13
    have hF_q_12 : sx_fr h L (fun a => a = t0 ∧ h.1 a = 7 ∨ a = tb ∧ h.1 a = 300) q q_12 := hF_q_8.tr (h2_q_12.mono (fun a (z : a = t0 ∧ h.1 a = 7 ∨ a = tb ∧ h.1 a = 300) => ((fun z => z.elim (fun z => (Or.inl z)) (fun z => (Or.inr z))) z)))
    refine wa_aload_n B dX11_feed_42 rfl 0 rfl ?_
    have z_14 : q_12.2.2.1 a0 0 = t0 := (h2_q_12.R ha0 (show ¬ ((a0 = t0 ∧ h.1 a0 = 7 ∨ a0 = tb ∧ h.1 a0 = 300) ∧ (h.1 a0 = 8 ∨ h.1 a0 = 11)) from fun z9 => (show ¬ (a0 = t0 ∧ h.1 a0 = 7 ∨ a0 = tb ∧ h.1 a0 = 300) from (fun z => z.elim (fun z => absurd (z.2.symm.trans ka0) (by decide)) (fun z => absurd (z.2.symm.trans ka0) (by decide)))) z9.1) 0).trans (z_10)
    refine wa_getR B (C := RX11) (T := TX11) (N := 16) iq_X11_feed_X11 ha0 ka0 (by decide) rfl 0 (by decide) (by decide) (by decide +kernel) rfl (fun _ _ _ => rfl) (v := t0) z_14 dX11_feed_43 ?_
    refine wa_iload B dX11_feed_46 4 rfl ?_
    have z_15 : q_12.2.2.1 t0 0 = tb := (h2_q_12.R ht0 (fun z9 => absurd z9.2 (by omega)) 0).trans (z_11)
    refine wa_callVv B (x := (RX7, TX7, 2)) (As := [.int n4]) (rest := []) (k_X7_putFour_c l dC dI h L hN q_12 hV_q_12 (a0 := t0) ht0 kt0 n4 (b0 := tb) z_15  (by first | assumption | omega | decide)) (cwV 1 B.1.2.2.2.2 gX11_feed_X7_putFour rfl rfl rfl (by decide +kernel) ⟨Nat.le_of_ble_eq_true rfl, Nat.le_of_ble_eq_true rfl⟩) ht0 kt0 (by decide) rfl rfl rfl (Nat.le_of_ble_eq_true rfl) dX11_feed_48 (fun q_16 w_17 => ?_)
    obtain ⟨hV_q_16, h2_q_16, hw_17⟩ := w_17
    have hF_q_16 : sx_fr h L (fun a => a = t0 ∧ h.1 a = 7 ∨ a = tb ∧ h.1 a = 300) q q_16 := hF_q_12.tr (h2_q_16.mono (fun a (z : a = t0 ∧ h.1 a = 7 ∨ a = tb ∧ h.1 a = 300) => ((fun z => z.elim (fun z => (Or.inl z)) (fun z => (Or.inr z))) z)))
    refine wa_aload_n B dX11_feed_51 rfl 0 rfl ?_
    have z_18 : q_16.2.2.1 a0 0 = t0 := (h2_q_16.R ha0 (show ¬ ((a0 = t0 ∧ h.1 a0 = 7 ∨ a0 = tb ∧ h.1 a0 = 300) ∧ (h.1 a0 = 8 ∨ h.1 a0 = 11)) from fun z9 => (show ¬ (a0 = t0 ∧ h.1 a0 = 7 ∨ a0 = tb ∧ h.1 a0 = 300) from (fun z => z.elim (fun z => absurd (z.2.symm.trans ka0) (by decide)) (fun z => absurd (z.2.symm.trans ka0) (by decide)))) z9.1) 0).trans (z_14)
    refine wa_getR B (C := RX11) (T := TX11) (N := 16) iq_X11_feed_X11 ha0 ka0 (by decide) rfl 0 (by decide) (by decide) (by decide +kernel) rfl (fun _ _ _ => rfl) (v := t0) z_18 dX11_feed_52 ?_
    refine wa_iload B dX11_feed_55 5 rfl ?_
    have z_19 : q_16.2.2.1 t0 0 = tb := (h2_q_16.R ht0 (fun z9 => absurd z9.2 (by omega)) 0).trans (z_15)
    refine wa_callVv B (x := (RX7, TX7, 2)) (As := [.int n5]) (rest := []) (k_X7_putFour_c l dC dI h L hN q_16 hV_q_16 (a0 := t0) ht0 kt0 n5 (b0 := tb) z_19  (by first | assumption | omega | decide)) (cwV 1 B.1.2.2.2.2 gX11_feed_X7_putFour rfl rfl rfl (by decide +kernel) ⟨Nat.le_of_ble_eq_true rfl, Nat.le_of_ble_eq_true rfl⟩) ht0 kt0 (by decide) rfl rfl rfl (Nat.le_of_ble_eq_true rfl) dX11_feed_57 (fun q_20 w_21 => ?_)
    obtain ⟨hV_q_20, h2_q_20, hw_21⟩ := w_21
    have hF_q_20 : sx_fr h L (fun a => a = t0 ∧ h.1 a = 7 ∨ a = tb ∧ h.1 a = 300) q q_20 := hF_q_16.tr (h2_q_20.mono (fun a (z : a = t0 ∧ h.1 a = 7 ∨ a = tb ∧ h.1 a = 300) => ((fun z => z.elim (fun z => (Or.inl z)) (fun z => (Or.inr z))) z)))
    refine wa_aload_n B dX11_feed_60 rfl 0 rfl ?_
    have z_22 : q_20.2.2.1 a0 0 = t0 := (h2_q_20.R ha0 (show ¬ ((a0 = t0 ∧ h.1 a0 = 7 ∨ a0 = tb ∧ h.1 a0 = 300) ∧ (h.1 a0 = 8 ∨ h.1 a0 = 11)) from fun z9 => (show ¬ (a0 = t0 ∧ h.1 a0 = 7 ∨ a0 = tb ∧ h.1 a0 = 300) from (fun z => z.elim (fun z => absurd (z.2.symm.trans ka0) (by decide)) (fun z => absurd (z.2.symm.trans ka0) (by decide)))) z9.1) 0).trans (z_18)
    refine wa_getR B (C := RX11) (T := TX11) (N := 16) iq_X11_feed_X11 ha0 ka0 (by decide) rfl 0 (by decide) (by decide) (by decide +kernel) rfl (fun _ _ _ => rfl) (v := t0) z_22 dX11_feed_61 ?_
    refine wa_getI B (C := RX7) (T := TX7) (N := 2) iq_X11_feed_X7 ht0 kt0 (by decide) rfl 1 (by decide) (by decide) (by decide +kernel) rfl (by decide) (v := (q_20.1 t0 1)) rfl dX11_feed_64 ?_
    have z_24 : q_20.2.2.1 t0 0 = tb := (h2_q_20.R ht0 (fun z9 => absurd z9.2 (by omega)) 0).trans (z_19)
    have g_23 : (0 : Int) ≤ (q_20.1 t0 1).toInt ∧ (q_20.1 t0 1).toInt ≤ (h.2.1 tb : Int) := by have z9 := hV_q_20.int ht0 kt0 1; rw [z_24] at z9; exact z9
    have z_25 : q_20.1 a0 14 = q.1 a0 14 := (h2_q_20.I ha0 (show ¬ (a0 = t0 ∧ h.1 a0 = 7 ∨ a0 = tb ∧ h.1 a0 = 300) from (fun z => z.elim (fun z => absurd (z.2.symm.trans ka0) (by decide)) (fun z => absurd (z.2.symm.trans ka0) (by decide)))) 14).trans ((h2_q_16.I ha0 (show ¬ (a0 = t0 ∧ h.1 a0 = 7 ∨ a0 = tb ∧ h.1 a0 = 300) from (fun z => z.elim (fun z => absurd (z.2.symm.trans ka0) (by decide)) (fun z => absurd (z.2.symm.trans ka0) (by decide)))) 14).trans ((h2_q_12.I ha0 (show ¬ (a0 = t0 ∧ h.1 a0 = 7 ∨ a0 = tb ∧ h.1 a0 = 300) from (fun z => z.elim (fun z => absurd (z.2.symm.trans ka0) (by decide)) (fun z => absurd (z.2.symm.trans ka0) (by decide)))) 14).trans ((h2_q_8.I ha0 (show ¬ (a0 = t0 ∧ h.1 a0 = 7 ∨ a0 = tb ∧ h.1 a0 = 300) from (fun z => z.elim (fun z => absurd (z.2.symm.trans ka0) (by decide)) (fun z => absurd (z.2.symm.trans ka0) (by decide)))) 14).trans (h2_q_4.I ha0 (show ¬ (a0 = t0 ∧ h.1 a0 = 7 ∨ a0 = tb ∧ h.1 a0 = 300) from (fun z => z.elim (fun z => absurd (z.2.symm.trans ka0) (by decide)) (fun z => absurd (z.2.symm.trans ka0) (by decide)))) 14))))
    have y_26 : (q_20.1 a0 14).toInt = (q.1 a0 14).toInt := by rw [z_25]
    have z_27 : q_20.2.2.1 a0 9 = fa := (h2_q_20.R ha0 (show ¬ ((a0 = t0 ∧ h.1 a0 = 7 ∨ a0 = tb ∧ h.1 a0 = 300) ∧ (h.1 a0 = 8 ∨ h.1 a0 = 11)) from fun z9 => (show ¬ (a0 = t0 ∧ h.1 a0 = 7 ∨ a0 = tb ∧ h.1 a0 = 300) from (fun z => z.elim (fun z => absurd (z.2.symm.trans ka0) (by decide)) (fun z => absurd (z.2.symm.trans ka0) (by decide)))) z9.1) 9).trans ((h2_q_16.R ha0 (show ¬ ((a0 = t0 ∧ h.1 a0 = 7 ∨ a0 = tb ∧ h.1 a0 = 300) ∧ (h.1 a0 = 8 ∨ h.1 a0 = 11)) from fun z9 => (show ¬ (a0 = t0 ∧ h.1 a0 = 7 ∨ a0 = tb ∧ h.1 a0 = 300) from (fun z => z.elim (fun z => absurd (z.2.symm.trans ka0) (by decide)) (fun z => absurd (z.2.symm.trans ka0) (by decide)))) z9.1) 9).trans ((h2_q_12.R ha0 (show ¬ ((a0 = t0 ∧ h.1 a0 = 7 ∨ a0 = tb ∧ h.1 a0 = 300) ∧ (h.1 a0 = 8 ∨ h.1 a0 = 11)) from fun z9 => (show ¬ (a0 = t0 ∧ h.1 a0 = 7 ∨ a0 = tb ∧ h.1 a0 = 300) from (fun z => z.elim (fun z => absurd (z.2.symm.trans ka0) (by decide)) (fun z => absurd (z.2.symm.trans ka0) (by decide)))) z9.1) 9).trans ((h2_q_8.R ha0 (show ¬ ((a0 = t0 ∧ h.1 a0 = 7 ∨ a0 = tb ∧ h.1 a0 = 300) ∧ (h.1 a0 = 8 ∨ h.1 a0 = 11)) from fun z9 => (show ¬ (a0 = t0 ∧ h.1 a0 = 7 ∨ a0 = tb ∧ h.1 a0 = 300) from (fun z => z.elim (fun z => absurd (z.2.symm.trans ka0) (by decide)) (fun z => absurd (z.2.symm.trans ka0) (by decide)))) z9.1) 9).trans ((h2_q_4.R ha0 (show ¬ ((a0 = t0 ∧ h.1 a0 = 7 ∨ a0 = tb ∧ h.1 a0 = 300) ∧ (h.1 a0 = 8 ∨ h.1 a0 = 11)) from fun z9 => (show ¬ (a0 = t0 ∧ h.1 a0 = 7 ∨ a0 = tb ∧ h.1 a0 = 300) from (fun z => z.elim (fun z => absurd (z.2.symm.trans ka0) (by decide)) (fun z => absurd (z.2.symm.trans ka0) (by decide)))) z9.1) 9).trans (efa)))))
    have z_28 : q_20.2.2.1 a0 11 = uu := (h2_q_20.R ha0 (show ¬ ((a0 = t0 ∧ h.1 a0 = 7 ∨ a0 = tb ∧ h.1 a0 = 300) ∧ (h.1 a0 = 8 ∨ h.1 a0 = 11)) from fun z9 => (show ¬ (a0 = t0 ∧ h.1 a0 = 7 ∨ a0 = tb ∧ h.1 a0 = 300) from (fun z => z.elim (fun z => absurd (z.2.symm.trans ka0) (by decide)) (fun z => absurd (z.2.symm.trans ka0) (by decide)))) z9.1) 11).trans ((h2_q_16.R ha0 (show ¬ ((a0 = t0 ∧ h.1 a0 = 7 ∨ a0 = tb ∧ h.1 a0 = 300) ∧ (h.1 a0 = 8 ∨ h.1 a0 = 11)) from fun z9 => (show ¬ (a0 = t0 ∧ h.1 a0 = 7 ∨ a0 = tb ∧ h.1 a0 = 300) from (fun z => z.elim (fun z => absurd (z.2.symm.trans ka0) (by decide)) (fun z => absurd (z.2.symm.trans ka0) (by decide)))) z9.1) 11).trans ((h2_q_12.R ha0 (show ¬ ((a0 = t0 ∧ h.1 a0 = 7 ∨ a0 = tb ∧ h.1 a0 = 300) ∧ (h.1 a0 = 8 ∨ h.1 a0 = 11)) from fun z9 => (show ¬ (a0 = t0 ∧ h.1 a0 = 7 ∨ a0 = tb ∧ h.1 a0 = 300) from (fun z => z.elim (fun z => absurd (z.2.symm.trans ka0) (by decide)) (fun z => absurd (z.2.symm.trans ka0) (by decide)))) z9.1) 11).trans ((h2_q_8.R ha0 (show ¬ ((a0 = t0 ∧ h.1 a0 = 7 ∨ a0 = tb ∧ h.1 a0 = 300) ∧ (h.1 a0 = 8 ∨ h.1 a0 = 11)) from fun z9 => (show ¬ (a0 = t0 ∧ h.1 a0 = 7 ∨ a0 = tb ∧ h.1 a0 = 300) from (fun z => z.elim (fun z => absurd (z.2.symm.trans ka0) (by decide)) (fun z => absurd (z.2.symm.trans ka0) (by decide)))) z9.1) 11).trans ((h2_q_4.R ha0 (show ¬ ((a0 = t0 ∧ h.1 a0 = 7 ∨ a0 = tb ∧ h.1 a0 = 300) ∧ (h.1 a0 = 8 ∨ h.1 a0 = 11)) from fun z9 => (show ¬ (a0 = t0 ∧ h.1 a0 = 7 ∨ a0 = tb ∧ h.1 a0 = 300) from (fun z => z.elim (fun z => absurd (z.2.symm.trans ka0) (by decide)) (fun z => absurd (z.2.symm.trans ka0) (by decide)))) z9.1) 11).trans (euu)))))
    have z_29 : q_20.2.2.1 a0 12 = q.2.2.1 a0 12 := (h2_q_20.R ha0 (show ¬ ((a0 = t0 ∧ h.1 a0 = 7 ∨ a0 = tb ∧ h.1 a0 = 300) ∧ (h.1 a0 = 8 ∨ h.1 a0 = 11)) from fun z9 => (show ¬ (a0 = t0 ∧ h.1 a0 = 7 ∨ a0 = tb ∧ h.1 a0 = 300) from (fun z => z.elim (fun z => absurd (z.2.symm.trans ka0) (by decide)) (fun z => absurd (z.2.symm.trans ka0) (by decide)))) z9.1) 12).trans ((h2_q_16.R ha0 (show ¬ ((a0 = t0 ∧ h.1 a0 = 7 ∨ a0 = tb ∧ h.1 a0 = 300) ∧ (h.1 a0 = 8 ∨ h.1 a0 = 11)) from fun z9 => (show ¬ (a0 = t0 ∧ h.1 a0 = 7 ∨ a0 = tb ∧ h.1 a0 = 300) from (fun z => z.elim (fun z => absurd (z.2.symm.trans ka0) (by decide)) (fun z => absurd (z.2.symm.trans ka0) (by decide)))) z9.1) 12).trans ((h2_q_12.R ha0 (show ¬ ((a0 = t0 ∧ h.1 a0 = 7 ∨ a0 = tb ∧ h.1 a0 = 300) ∧ (h.1 a0 = 8 ∨ h.1 a0 = 11)) from fun z9 => (show ¬ (a0 = t0 ∧ h.1 a0 = 7 ∨ a0 = tb ∧ h.1 a0 = 300) from (fun z => z.elim (fun z => absurd (z.2.symm.trans ka0) (by decide)) (fun z => absurd (z.2.symm.trans ka0) (by decide)))) z9.1) 12).trans ((h2_q_8.R ha0 (show ¬ ((a0 = t0 ∧ h.1 a0 = 7 ∨ a0 = tb ∧ h.1 a0 = 300) ∧ (h.1 a0 = 8 ∨ h.1 a0 = 11)) from fun z9 => (show ¬ (a0 = t0 ∧ h.1 a0 = 7 ∨ a0 = tb ∧ h.1 a0 = 300) from (fun z => z.elim (fun z => absurd (z.2.symm.trans ka0) (by decide)) (fun z => absurd (z.2.symm.trans ka0) (by decide)))) z9.1) 12).trans (h2_q_4.R ha0 (show ¬ ((a0 = t0 ∧ h.1 a0 = 7 ∨ a0 = tb ∧ h.1 a0 = 300) ∧ (h.1 a0 = 8 ∨ h.1 a0 = 11)) from fun z9 => (show ¬ (a0 = t0 ∧ h.1 a0 = 7 ∨ a0 = tb ∧ h.1 a0 = 300) from (fun z => z.elim (fun z => absurd (z.2.symm.trans ka0) (by decide)) (fun z => absurd (z.2.symm.trans ka0) (by decide)))) z9.1) 12))))
    have z_30 : q_20.2.2.1 a0 1 = o0 := (h2_q_20.R ha0 (show ¬ ((a0 = t0 ∧ h.1 a0 = 7 ∨ a0 = tb ∧ h.1 a0 = 300) ∧ (h.1 a0 = 8 ∨ h.1 a0 = 11)) from fun z9 => (show ¬ (a0 = t0 ∧ h.1 a0 = 7 ∨ a0 = tb ∧ h.1 a0 = 300) from (fun z => z.elim (fun z => absurd (z.2.symm.trans ka0) (by decide)) (fun z => absurd (z.2.symm.trans ka0) (by decide)))) z9.1) 1).trans ((h2_q_16.R ha0 (show ¬ ((a0 = t0 ∧ h.1 a0 = 7 ∨ a0 = tb ∧ h.1 a0 = 300) ∧ (h.1 a0 = 8 ∨ h.1 a0 = 11)) from fun z9 => (show ¬ (a0 = t0 ∧ h.1 a0 = 7 ∨ a0 = tb ∧ h.1 a0 = 300) from (fun z => z.elim (fun z => absurd (z.2.symm.trans ka0) (by decide)) (fun z => absurd (z.2.symm.trans ka0) (by decide)))) z9.1) 1).trans ((h2_q_12.R ha0 (show ¬ ((a0 = t0 ∧ h.1 a0 = 7 ∨ a0 = tb ∧ h.1 a0 = 300) ∧ (h.1 a0 = 8 ∨ h.1 a0 = 11)) from fun z9 => (show ¬ (a0 = t0 ∧ h.1 a0 = 7 ∨ a0 = tb ∧ h.1 a0 = 300) from (fun z => z.elim (fun z => absurd (z.2.symm.trans ka0) (by decide)) (fun z => absurd (z.2.symm.trans ka0) (by decide)))) z9.1) 1).trans ((h2_q_8.R ha0 (show ¬ ((a0 = t0 ∧ h.1 a0 = 7 ∨ a0 = tb ∧ h.1 a0 = 300) ∧ (h.1 a0 = 8 ∨ h.1 a0 = 11)) from fun z9 => (show ¬ (a0 = t0 ∧ h.1 a0 = 7 ∨ a0 = tb ∧ h.1 a0 = 300) from (fun z => z.elim (fun z => absurd (z.2.symm.trans ka0) (by decide)) (fun z => absurd (z.2.symm.trans ka0) (by decide)))) z9.1) 1).trans ((h2_q_4.R ha0 (show ¬ ((a0 = t0 ∧ h.1 a0 = 7 ∨ a0 = tb ∧ h.1 a0 = 300) ∧ (h.1 a0 = 8 ∨ h.1 a0 = 11)) from fun z9 => (show ¬ (a0 = t0 ∧ h.1 a0 = 7 ∨ a0 = tb ∧ h.1 a0 = 300) from (fun z => z.elim (fun z => absurd (z.2.symm.trans ka0) (by decide)) (fun z => absurd (z.2.symm.trans ka0) (by decide)))) z9.1) 1).trans (eo0)))))
    exact hret _ _ _ _ dX11_feed_67 ⟨hV_q_20, hF_q_20, ⟨z_22, by omega, by omega, z_28, z_29, ⟨z_27, z_30⟩, by omega, fun _ => ty_20i hw_5.2 hw_9.2 hw_13.2 hw_17.2 hw_21.2 rfl (by have a9 := zx_nc (q_4.1 t0 1); have b9 := zx_nc (q.1 t0 1); omega) (by have a9 := zx_nc (q_8.1 t0 1); have b9 := zx_nc (q.1 t0 1); omega) (by have a9 := zx_nc (q_12.1 t0 1); have b9 := zx_nc (q.1 t0 1); omega) (by have a9 := zx_nc (q_16.1 t0 1); have b9 := zx_nc (q.1 t0 1); omega), fun z9 => by exfalso; omega⟩⟩
  · refine wa_iconst B (-1) dX11_feed_16 (by decide) ?_
    exact hret _ _ _ _ dX11_feed_17 ⟨hV, hF, ⟨et0, by have h9 : ((-1) : Int32).toInt = (-1) := rfl; omega, by have h9 : ((-1) : Int32).toInt = (-1) := rfl; omega, euu, rfl, ⟨efa, eo0⟩, by have h9 : ((-1) : Int32).toInt = (-1) := rfl; omega, fun z9 => by exfalso; omega, fun _ => rfl⟩⟩
set_option maxHeartbeats 4000000 in
set_option maxRecDepth 100000 in
theorem k_X11_end_c (l : Launch) (dC : Nat → ClassId) (dI : Nat → Nat → Nat) (h : Sh) (L : List Nat) (hN : sx_nd L) (q : Sg) (hV : sx_V h L q) {a0 : Nat} (ha0 : a0 ∈ L) (ka0 : h.1 a0 = 11) (n1 : Int32) {t0 : Nat} (et0 : q.2.2.1 a0 0 = t0) {tb : Nat} (etb : q.2.2.1 t0 0 = tb) {fa : Nat} (efa : q.2.2.1 a0 9 = fa) {uu : Nat} (euu : q.2.2.1 a0 11 = uu) {o0 : Nat} (eo0 : q.2.2.1 a0 1 = o0) {ob : Nat} (eob : q.2.2.1 o0 0 = ob)    : CMi l dC dI h L yX11_end wsX11_end ({ frames := 0, cells := 0, slots := 0, locals := 0 } : Room) q [.ref a0, .int n1] (fun r q' => sx_V h L q' ∧ sx_fr h L (fun a => sx_c6 h a) q q' ∧ (q'.2.2.1 a0 0 = t0 ∧ ((0 ≤ n1.toInt ∧ n1.toInt ≤ (q.1 t0 1).toInt) ∧ (q'.1 t0 1).toInt = n1.toInt ∧ r.toInt = 1 ∨ ¬ (0 ≤ n1.toInt ∧ n1.toInt ≤ (q.1 t0 1).toInt) ∧ (q'.1 t0 1).toInt = (q.1 t0 1).toInt ∧ r.toInt = 0) ∧ (q'.1 a0 14).toInt = (q.1 a0 14).toInt ∧ q'.2.2.1 a0 11 = uu ∧ q'.2.2.1 a0 12 = q.2.2.1 a0 12 ∧ (q'.2.2.1 a0 9 = fa ∧ q'.2.2.1 a0 1 = o0))) := by
  refine cm_z (cc := cX11_end) (mL := 2) (own := RX11) hN (by decide) rfl rfl (Nat.le_of_ble_eq_true rfl) (fun Z B hret => ?_)
  have hF : sx_fr h L (fun a => sx_c6 h a) q q := sx_fr.rf
  obtain ⟨ht0, kt0, lt0⟩ : t0 ∈ L ∧ h.1 t0 = 7 ∧ h.2.1 t0 = 1 := by obtain ⟨r9, e9, z1, z2, z3⟩ := hV.refn (t := 7) (n := 1) ha0 ka0 0 rfl (by decide) rfl (by decide); rw [← et0, e9]; exact ⟨z1, z2, z3⟩
  obtain ⟨htb, ktb, ltb⟩ : tb ∈ L ∧ h.1 tb = 300 ∧ h.2.1 tb = 440 := by obtain ⟨r9, e9, z1, z2, z3⟩ := hV.refn (t := 300) (n := 440) ht0 kt0 0 rfl (by decide) (by rw [lt0]; rfl) (by decide); rw [← etb, e9]; exact ⟨z1, z2, z3⟩
  obtain ⟨hfa, kfa, lfa⟩ : fa ∈ L ∧ h.1 fa = 403 ∧ h.2.1 fa = 12 := by obtain ⟨r9, e9, z1, z2, z3⟩ := hV.refn (t := 403) (n := 12) ha0 ka0 9 rfl (by decide) rfl (by decide); rw [← efa, e9]; exact ⟨z1, z2, z3⟩
  obtain ⟨huu, kuu⟩ : uu ∈ L ∧ h.1 uu = 9 := by obtain ⟨r9, e9, z1, z2⟩ := hV.ref (t := 9) ha0 ka0 11 rfl (by decide); rw [← euu, e9]; exact ⟨z1, z2⟩
  obtain ⟨ho0, ko0, lo0⟩ : o0 ∈ L ∧ h.1 o0 = 7 ∧ h.2.1 o0 = 2 := by obtain ⟨r9, e9, z1, z2, z3⟩ := hV.refn (t := 7) (n := 2) ha0 ka0 1 rfl (by decide) rfl (by decide); rw [← eo0, e9]; exact ⟨z1, z2, z3⟩
  have nt0_o0 : ¬ t0 = o0 := fun z9 => absurd (z9 ▸ lt0 : h.2.1 o0 = 1) (by rw [lo0]; decide)
  obtain ⟨hob, kob, lob⟩ : ob ∈ L ∧ h.1 ob = 300 ∧ h.2.1 ob = 59 := by obtain ⟨r9, e9, z1, z2, z3⟩ := hV.refn (t := 300) (n := 59) ho0 ko0 0 rfl (by decide) (by rw [lo0]; rfl) (by decide); rw [← eob, e9]; exact ⟨z1, z2, z3⟩
  show WA l dC dI h L ({ frames := 0, cells := 0, slots := 0, locals := 0 } : Room) 2 Z q 0 [(0, .ref a0), (1, .int n1)] []
  refine wa_iload_n B dX11_end_0 rfl 1 rfl ?_
  refine wa_if_lt B 15 dX11_end_1 (by decide) (fun (t_1 : n1.toInt < 0) => ?_) (fun (t_1 : ¬ n1.toInt < 0) => ?_)
  · refine wa_iconst B 0 dX11_end_15 (by decide) ?_
    exact hret _ _ _ _ dX11_end_16 (Or.inl rfl) ⟨hV, hF, ⟨et0, by have h9 : (0 : Int32).toInt = 0 := rfl; omega, by have h9 : (0 : Int32).toInt = 0 := rfl; omega, euu, rfl, ⟨efa, eo0⟩⟩⟩
  · refine wa_iload_n B dX11_end_4 rfl 1 rfl ?_
    refine wa_aload_n B dX11_end_5 rfl 0 rfl ?_
    refine wa_getR B (C := RX11) (T := TX11) (N := 16) iq_X11_end_X11 ha0 ka0 (by decide) rfl 0 (by decide) (by decide) (by decide +kernel) rfl (fun _ _ _ => rfl) (v := t0) et0 dX11_end_6 ?_
    refine wa_getI B (C := RX7) (T := TX7) (N := 2) iq_X11_end_X7 ht0 kt0 (by decide) rfl 1 (by decide) (by decide) (by decide +kernel) rfl (by decide) (v := (q.1 t0 1)) rfl dX11_end_9 ?_
    have g_2 : (0 : Int) ≤ (q.1 t0 1).toInt ∧ (q.1 t0 1).toInt ≤ (h.2.1 tb : Int) := by have z9 := hV.int ht0 kt0 1; rw [etb] at z9; exact z9
    refine wa_icmp_le B 17 dX11_end_12 (by decide) (fun (t_3 : n1.toInt ≤ (q.1 t0 1).toInt) => ?_) (fun (t_3 : ¬ n1.toInt ≤ (q.1 t0 1).toInt) => ?_)
    · refine wa_aload_n B dX11_end_17 rfl 0 rfl ?_
      refine wa_getR B (C := RX11) (T := TX11) (N := 16) iq_X11_end_X11 ha0 ka0 (by decide) rfl 0 (by decide) (by decide) (by decide +kernel) rfl (fun _ _ _ => rfl) (v := t0) et0 dX11_end_18 ?_
      refine wa_iload_n B dX11_end_21 rfl 1 rfl ?_
      refine wa_putI B (C := RX7) (T := TX7) (N := 2) iq_X11_end_X7 ht0 kt0 (by decide) rfl 1 (by decide) (by decide) (by decide +kernel) rfl (by decide) (v := n1) (ty := .int) tyX7 tyX7_ok nmX7 rfl (by decide +kernel) rfl rfl dX11_end_22 (fun q_4 eq_4 => ?_)
      have hV_q_4 : sx_V h L q_4 := by rw [eq_4]; exact hV.pI kt0 (show sx_in n1 0 ((h.2.1 (q.2.2.1 t0 0) : Nat) : Int) from ⟨by omega, by rw [etb]; omega⟩)
      have hF_q_4 : sx_fr h L (fun a => sx_c6 h a) q q_4 := hF.tr (by rw [eq_4]; exact sx_fr.pI (show sx_c6 h t0 from (sx_c6.k7 kt0 lt0 (by decide))))
      have z_5 : q_4.1 t0 1 = n1 := by rw [eq_4]; exact sg_pI_e
      refine wa_iconst B 1 dX11_end_25 (by decide) ?_
      have z_6 : q_4.1 a0 14 = q.1 a0 14 := (show q_4.1 a0 14 = q.1 a0 14 from by rw [eq_4]; exact sg_pI_k (by decide))
      have y_7 : (q_4.1 a0 14).toInt = (q.1 a0 14).toInt := by rw [z_6]
      have y_8 : (q_4.1 t0 1).toInt = n1.toInt := by rw [z_5]
      have z_9 : q_4.2.2.1 a0 0 = t0 := ((show q_4.2.2.1 a0 0 = q.2.2.1 a0 0 from by rw [eq_4]; rfl)).trans (et0)
      have z_10 : q_4.2.2.1 a0 9 = fa := ((show q_4.2.2.1 a0 9 = q.2.2.1 a0 9 from by rw [eq_4]; rfl)).trans (efa)
      have z_11 : q_4.2.2.1 a0 11 = uu := ((show q_4.2.2.1 a0 11 = q.2.2.1 a0 11 from by rw [eq_4]; rfl)).trans (euu)
      have z_12 : q_4.2.2.1 a0 12 = q.2.2.1 a0 12 := (show q_4.2.2.1 a0 12 = q.2.2.1 a0 12 from by rw [eq_4]; rfl)
      have z_13 : q_4.2.2.1 a0 1 = o0 := ((show q_4.2.2.1 a0 1 = q.2.2.1 a0 1 from by rw [eq_4]; rfl)).trans (eo0)
      exact hret _ _ _ _ dX11_end_26 (Or.inr rfl) ⟨hV_q_4, hF_q_4, ⟨z_9, by have h9 : (1 : Int32).toInt = 1 := rfl; omega, by have h9 : (1 : Int32).toInt = 1 := rfl; omega, z_11, z_12, ⟨z_10, z_13⟩⟩⟩
    · refine wa_iconst B 0 dX11_end_15 (by decide) ?_
      exact hret _ _ _ _ dX11_end_16 (Or.inl rfl) ⟨hV, hF, ⟨et0, by have h9 : (0 : Int32).toInt = 0 := rfl; omega, by have h9 : (0 : Int32).toInt = 0 := rfl; omega, euu, rfl, ⟨efa, eo0⟩⟩⟩
set_option maxHeartbeats 4000000 in
set_option maxRecDepth 100000 in
theorem k_X11_joined_c (l : Launch) (dC : Nat → ClassId) (dI : Nat → Nat → Nat) (h : Sh) (L : List Nat) (hN : sx_nd L) (q : Sg) (hV : sx_V h L q) {a0 : Nat} (ha0 : a0 ∈ L) (ka0 : h.1 a0 = 11) (n1 : Int32) (n2 : Int32) {s0 : Nat} (es0 : q.2.2.1 a0 2 = s0) {sb : Nat} (esb : q.2.2.1 s0 0 = sb)   (hy0 : 0 ≤ n1.toInt) (hy1 : n1.toInt ≤ 11) (hy2 : 0 ≤ n2.toInt) (hy3 : n2.toInt ≤ 11) : CMi l dC dI h L yX11_joined wsX11_joined ({ frames := 9, cells := 0, slots := 0, locals := 221 } : Room) q [.ref a0, .int n1, .int n2] (fun r q' => sx_V h L q' ∧ sx_fr h L (fun a => h.1 a = 6 ∨ h.1 a = 8 ∨ h.1 a = 5 ∨ h.1 a = 2 ∨ h.1 a = 1 ∨ h.1 a = 4 ∨ a = s0 ∧ h.1 a = 7 ∨ a = sb ∧ h.1 a = 300) q q') := by
  refine cm_i (cc := cX11_joined) (mL := 5) (own := RX11) hN (by decide) rfl rfl (Nat.le_of_ble_eq_true rfl) (fun Z B hret => ?_)
  have hF : sx_fr h L (fun a => h.1 a = 6 ∨ h.1 a = 8 ∨ h.1 a = 5 ∨ h.1 a = 2 ∨ h.1 a = 1 ∨ h.1 a = 4 ∨ a = s0 ∧ h.1 a = 7 ∨ a = sb ∧ h.1 a = 300) q q := sx_fr.rf
  obtain ⟨hs0, ks0, ls0⟩ : s0 ∈ L ∧ h.1 s0 = 7 ∧ h.2.1 s0 = 3 := by obtain ⟨r9, e9, z1, z2, z3⟩ := hV.refn (t := 7) (n := 3) ha0 ka0 2 rfl (by decide) rfl (by decide); rw [← es0, e9]; exact ⟨z1, z2, z3⟩
  obtain ⟨hsb, ksb, lsb⟩ : sb ∈ L ∧ h.1 sb = 300 ∧ h.2.1 sb = 402 := by obtain ⟨r9, e9, z1, z2, z3⟩ := hV.refn (t := 300) (n := 402) hs0 ks0 0 rfl (by decide) (by rw [ls0]; rfl) (by decide); rw [← esb, e9]; exact ⟨z1, z2, z3⟩
  show WA l dC dI h L ({ frames := 9, cells := 0, slots := 0, locals := 221 } : Room) 5 Z q 0 [(0, .ref a0), (1, .int n1), (2, .int n2)] []
  refine wa_iload_n B dX11_joined_0 rfl 1 rfl ?_
  refine wa_bipush B 12 dX11_joined_1 (by decide) ?_
  refine wa_imul B dX11_joined_3 (fun v_1 ev_1 => ?_)
  refine wa_iload_n B dX11_joined_4 rfl 2 rfl ?_
  refine wa_iadd B dX11_joined_5 (fun v_2 ev_2 => ?_)
  refine wa_istore_n B [(3, .int v_2), (0, .ref a0), (1, .int n1), (2, .int n2)] dX11_joined_6 rfl (by decide) rfl ?_
  refine wa_aload_n B dX11_joined_7 rfl 1 rfl ?_
  obtain ⟨a_3, ea_3, ha_3, ka_3, la_3⟩ := hV.refn (n := 144) (t := 100) ha0 ka0 10 rfl (by decide) rfl (by decide)
  refine wa_getR B (C := RX11) (T := TX11) (N := 16) iq_X11_joined_X11 ha0 ka0 (by decide) rfl 10 (by decide) (by decide) (by decide +kernel) rfl (fun _ _ _ => rfl) (v := a_3) ea_3 dX11_joined_8 ?_
  refine wa_iload_n B dX11_joined_11 rfl 0 rfl ?_
  have tv_1 : v_1.toInt = n1.toInt * 12 := by have b0 := zx_bd n1; rw [ev_1]; exact zx_mul (show (-2147483648 : Int) ≤ n1.toInt * 12 by omega) (show n1.toInt * 12 < (2147483648 : Int) by omega)
  have tv_2 : v_2.toInt = v_1.toInt + n2.toInt := by have b0 := zx_bd v_1; have b1 := zx_bd n2; rw [ev_2]; exact zx_add (show (-2147483648 : Int) ≤ v_1.toInt + n2.toInt by omega) (show v_1.toInt + n2.toInt < (2147483648 : Int) by omega)
  refine wa_iaload B ha_3 ka_3 (by decide) (by decide) (show 0 ≤ v_2.toInt by omega) (show v_2.toInt < (h.2.1 a_3 : Int) by omega) (v := (q.2.2.2.1 a_3 (v_2 : Int32).toNatClampNeg)) rfl dX11_joined_12 ?_
  refine wa_iconst B (-1) dX11_joined_13 (by decide) ?_
  refine wa_icmp_ne B 42 dX11_joined_14 (by decide) (fun (t_4 : ¬ ((q.2.2.2.1 a_3 (v_2 : Int32).toNatClampNeg)).toInt = (-1)) => ?_) (fun (t_4 : ((q.2.2.2.1 a_3 (v_2 : Int32).toNatClampNeg)).toInt = (-1)) => ?_)
  · refine wa_aload_n B dX11_joined_42 rfl 1 rfl ?_
    refine wa_getR B (C := RX11) (T := TX11) (N := 16) iq_X11_joined_X11 ha0 ka0 (by decide) rfl 10 (by decide) (by decide) (by decide +kernel) rfl (fun _ _ _ => rfl) (v := a_3) ea_3 dX11_joined_43 ?_
    refine wa_iload_n B dX11_joined_46 rfl 0 rfl ?_
    refine wa_iaload B ha_3 ka_3 (by decide) (by decide) (show 0 ≤ v_2.toInt by omega) (show v_2.toInt < (h.2.1 a_3 : Int) by omega) (v := (q.2.2.2.1 a_3 (v_2 : Int32).toNatClampNeg)) rfl dX11_joined_47 ?_
    refine wa_iconst B (-1) dX11_joined_48 (by decide) ?_
    refine wa_icmp_ne B 135 dX11_joined_49 (by decide) (fun (t_5 : ¬ ((q.2.2.2.1 a_3 (v_2 : Int32).toNatClampNeg)).toInt = (-1)) => ?_) (fun (t_5 : ((q.2.2.2.1 a_3 (v_2 : Int32).toNatClampNeg)).toInt = (-1)) => ?_)
    · refine wa_aload_n B dX11_joined_135 rfl 1 rfl ?_
      refine wa_getR B (C := RX11) (T := TX11) (N := 16) iq_X11_joined_X11 ha0 ka0 (by decide) rfl 10 (by decide) (by decide) (by decide +kernel) rfl (fun _ _ _ => rfl) (v := a_3) ea_3 dX11_joined_136 ?_
      refine wa_iload_n B dX11_joined_139 rfl 0 rfl ?_
      refine wa_iaload B ha_3 ka_3 (by decide) (by decide) (show 0 ≤ v_2.toInt by omega) (show v_2.toInt < (h.2.1 a_3 : Int) by omega) (v := (q.2.2.2.1 a_3 (v_2 : Int32).toNatClampNeg)) rfl dX11_joined_140 ?_
      exact hret _ _ _ _ dX11_joined_141 ⟨hV, hF⟩
    · refine wa_aload_n B dX11_joined_52 rfl 1 rfl ?_
      obtain ⟨a_6, ea_6, ha_6, ka_6, la_6⟩ := hV.refn (n := 12) (t := 403) ha0 ka0 9 rfl (by decide) rfl (by decide)
      refine wa_getR B (C := RX11) (T := TX11) (N := 16) iq_X11_joined_X11 ha0 ka0 (by decide) rfl 9 (by decide) (by decide) (by decide +kernel) rfl (fun _ _ _ => rfl) (v := a_6) ea_6 dX11_joined_53 ?_
      refine wa_iload_n B dX11_joined_56 rfl 2 rfl ?_
      obtain ⟨a_7, ea_7, ha_7, ka_7⟩ := hV.elem (t := 0) ha_6 ka_6 (by decide) rfl (zx_ix (i := n1) (show 0 ≤ n1.toInt by omega) (show n1.toInt < (h.2.1 a_6 : Int) by omega))
      refine wa_aaload B (t0 := 6) ha_6 ka_6 (by decide) rfl (show 0 ≤ n1.toInt by omega) (show n1.toInt < (h.2.1 a_6 : Int) by omega) (v := a_7) ea_7 dX11_joined_57 ?_
      refine wa_aload_n B dX11_joined_58 rfl 1 rfl ?_
      refine wa_getR B (C := RX11) (T := TX11) (N := 16) iq_X11_joined_X11 ha0 ka0 (by decide) rfl 9 (by decide) (by decide) (by decide +kernel) rfl (fun _ _ _ => rfl) (v := a_6) ea_6 dX11_joined_59 ?_
      refine wa_iload_n B dX11_joined_62 rfl 3 rfl ?_
      obtain ⟨a_8, ea_8, ha_8, ka_8⟩ := hV.elem (t := 0) ha_6 ka_6 (by decide) rfl (zx_ix (i := n2) (show 0 ≤ n2.toInt by omega) (show n2.toInt < (h.2.1 a_6 : Int) by omega))
      refine wa_aaload B (t0 := 6) ha_6 ka_6 (by decide) rfl (show 0 ≤ n2.toInt by omega) (show n2.toInt < (h.2.1 a_6 : Int) by omega) (v := a_8) ea_8 dX11_joined_63 ?_
      refine wa_aload_n B dX11_joined_64 rfl 1 rfl ?_
      refine wa_getR B (C := RX11) (T := TX11) (N := 16) iq_X11_joined_X11 ha0 ka0 (by decide) rfl 2 (by decide) (by decide) (by decide +kernel) rfl (fun _ _ _ => rfl) (v := s0) es0 dX11_joined_65 ?_
      obtain ⟨a_9, ea_9, ha_9, ka_9, la_9⟩ := hV.refn (n := 4) (t := 7) ha_7 ka_7 0 rfl (by decide) rfl (by decide)
      have ns0_a_9 : ¬ s0 = a_9 := fun z9 => absurd (z9 ▸ ls0 : h.2.1 a_9 = 3) (by rw [la_9]; decide)
      obtain ⟨a_10, ea_10, ha_10, ka_10, la_10⟩ := hV.refn (n := 4) (t := 7) ha_8 ka_8 0 rfl (by decide) rfl (by decide)
      have ns0_a_10 : ¬ s0 = a_10 := fun z9 => absurd (z9 ▸ ls0 : h.2.1 a_10 = 3) (by rw [la_10]; decide)
      refine wa_callVv B (x := (RX0, TX0, 4)) (As := [.ref a_8, .ref s0]) (rest := []) (k_X0_sayWith l dC dI h L hN q hV (a0 := a_7) ha_7 ka_7 (a1 := a_8) ha_8 ka_8 (a2 := s0) hs0 ks0 (t0 := a_9) ea_9 (t1 := a_10) ea_10 (b0 := sb) esb (by omega) (by omega)  ) (cwV 2 B.1.2.2.2.2 gX11_joined_X0_sayWith rfl rfl rfl (by decide +kernel) ⟨Nat.le_of_ble_eq_true rfl, Nat.le_of_ble_eq_true rfl⟩) ha_7 ka_7 (by decide) rfl rfl rfl (Nat.le_of_ble_eq_true rfl) dX11_joined_68 (fun q_11 w_12 => ?_)
      obtain ⟨hV_q_11, h2_q_11⟩ := w_12
      have hF_q_11 : sx_fr h L (fun a => h.1 a = 6 ∨ h.1 a = 8 ∨ h.1 a = 5 ∨ h.1 a = 2 ∨ h.1 a = 1 ∨ h.1 a = 4 ∨ a = s0 ∧ h.1 a = 7 ∨ a = sb ∧ h.1 a = 300) q q_11 := hF.tr (h2_q_11.mono (fun a (z : a = s0 ∧ h.1 a = 7 ∨ a = sb ∧ h.1 a = 300) => ((fun z => z.elim (fun z => (Or.inr (Or.inr (Or.inr (Or.inr (Or.inr (Or.inr (Or.inl z)))))))) (fun z => (Or.inr (Or.inr (Or.inr (Or.inr (Or.inr (Or.inr (Or.inr z))))))))) z)))
      refine wa_aload_n B dX11_joined_71 rfl 1 rfl ?_
      obtain ⟨a_13, ea_13, ha_13, ka_13⟩ := hV_q_11.ref (t := 6) ha0 ka0 4 rfl (by decide)
      refine wa_getR B (C := RX11) (T := TX11) (N := 16) iq_X11_joined_X11 ha0 ka0 (by decide) rfl 4 (by decide) (by decide) (by decide +kernel) rfl (fun _ _ _ => rfl) (v := a_13) ea_13 dX11_joined_72 ?_
      refine wa_aload_n B dX11_joined_75 rfl 1 rfl ?_
      have z_14 : q_11.2.2.1 a0 2 = s0 := (h2_q_11.R ha0 (show ¬ ((a0 = s0 ∧ h.1 a0 = 7 ∨ a0 = sb ∧ h.1 a0 = 300) ∧ (h.1 a0 = 8 ∨ h.1 a0 = 11)) from fun z9 => (show ¬ (a0 = s0 ∧ h.1 a0 = 7 ∨ a0 = sb ∧ h.1 a0 = 300) from (fun z => z.elim (fun z => absurd (z.2.symm.trans ka0) (by decide)) (fun z => absurd (z.2.symm.trans ka0) (by decide)))) z9.1) 2).trans (es0)
      refine wa_getR B (C := RX11) (T := TX11) (N := 16) iq_X11_joined_X11 ha0 ka0 (by decide) rfl 2 (by decide) (by decide) (by decide +kernel) rfl (fun _ _ _ => rfl) (v := s0) z_14 dX11_joined_76 ?_
      refine wa_aload_n B dX11_joined_79 rfl 1 rfl ?_
      obtain ⟨a_15, ea_15, ha_15, ka_15⟩ := hV_q_11.ref (t := 9) ha0 ka0 11 rfl (by decide)
      refine wa_getR B (C := RX11) (T := TX11) (N := 16) iq_X11_joined_X11 ha0 ka0 (by decide) rfl 11 (by decide) (by decide) (by decide +kernel) rfl (fun _ _ _ => rfl) (v := a_15) ea_15 dX11_joined_80 ?_
      refine wa_aload_n B dX11_joined_83 rfl 1 rfl ?_
      obtain ⟨a_16, ea_16, ha_16, ka_16⟩ := hV_q_11.ref (t := 5) ha0 ka0 8 rfl (by decide)
      refine wa_getR B (C := RX11) (T := TX11) (N := 16) iq_X11_joined_X11 ha0 ka0 (by decide) rfl 8 (by decide) (by decide) (by decide +kernel) rfl (fun _ _ _ => rfl) (v := a_16) ea_16 dX11_joined_84 ?_
      refine wa_callVi B (x := (RX6, TX6, 8)) (As := [.ref s0, .ref a_15, .ref a_16]) (rest := []) (k_X6_read l dC dI h L hN q_11 hV_q_11 (a0 := a_13) ha_13 ka_13 (a1 := s0) hs0 ks0 (a2 := a_15) ha_15 ka_15 (a3 := a_16) ha_16 ka_16  ) (cwV 3 B.1.2.2.2.2 gX11_joined_X6_read rfl rfl rfl (by decide +kernel) ⟨Nat.le_of_ble_eq_true rfl, Nat.le_of_ble_eq_true rfl⟩) ha_13 ka_13 (by decide) rfl rfl rfl (Nat.le_of_ble_eq_true rfl) dX11_joined_87 (fun r_18 q_17 w_19 => ?_)
      obtain ⟨hV_q_17, h2_q_17, hw_19⟩ := w_19
      have hF_q_17 : sx_fr h L (fun a => h.1 a = 6 ∨ h.1 a = 8 ∨ h.1 a = 5 ∨ h.1 a = 2 ∨ h.1 a = 1 ∨ h.1 a = 4 ∨ a = s0 ∧ h.1 a = 7 ∨ a = sb ∧ h.1 a = 300) q q_17 := hF_q_11.tr (h2_q_17.mono (fun a (z : h.1 a = 6 ∨ h.1 a = 8 ∨ h.1 a = 5 ∨ h.1 a = 2 ∨ h.1 a = 1) => ((fun z => z.elim (fun z => (Or.inl z)) (fun z => z.elim (fun z => (Or.inr (Or.inl z))) (fun z => z.elim (fun z => (Or.inr (Or.inr (Or.inl z)))) (fun z => z.elim (fun z => (Or.inr (Or.inr (Or.inr (Or.inl z))))) (fun z => (Or.inr (Or.inr (Or.inr (Or.inr (Or.inl z)))))))))) z)))
      refine wa_istore B [(4, .int r_18), (3, .int v_2), (0, .ref a0), (1, .int n1), (2, .int n2)] dX11_joined_90 (by decide) rfl ?_
      refine wa_iload B dX11_joined_92 0 rfl ?_
      refine wa_if_eq B 109 dX11_joined_94 (by decide) (fun (t_20 : r_18.toInt = 0) => ?_) (fun (t_20 : ¬ r_18.toInt = 0) => ?_)
      · refine wa_aload_n B dX11_joined_109 rfl 2 rfl ?_
        have z_21 : q_17.2.2.1 a0 10 = a_3 := (h2_q_17.R ha0 (show ¬ ((h.1 a0 = 6 ∨ h.1 a0 = 8 ∨ h.1 a0 = 5 ∨ h.1 a0 = 2 ∨ h.1 a0 = 1) ∧ (h.1 a0 = 8 ∨ h.1 a0 = 11)) from fun z9 => (show ¬ (h.1 a0 = 6 ∨ h.1 a0 = 8 ∨ h.1 a0 = 5 ∨ h.1 a0 = 2 ∨ h.1 a0 = 1) from (fun z => z.elim (fun z => absurd (z.symm.trans ka0) (by decide)) (fun z => z.elim (fun z => absurd (z.symm.trans ka0) (by decide)) (fun z => z.elim (fun z => absurd (z.symm.trans ka0) (by decide)) (fun z => z.elim (fun z => absurd (z.symm.trans ka0) (by decide)) (fun z => absurd (z.symm.trans ka0) (by decide))))))) z9.1) 10).trans ((h2_q_11.R ha0 (show ¬ ((a0 = s0 ∧ h.1 a0 = 7 ∨ a0 = sb ∧ h.1 a0 = 300) ∧ (h.1 a0 = 8 ∨ h.1 a0 = 11)) from fun z9 => (show ¬ (a0 = s0 ∧ h.1 a0 = 7 ∨ a0 = sb ∧ h.1 a0 = 300) from (fun z => z.elim (fun z => absurd (z.2.symm.trans ka0) (by decide)) (fun z => absurd (z.2.symm.trans ka0) (by decide)))) z9.1) 10).trans (ea_3))
        refine wa_getR B (C := RX11) (T := TX11) (N := 16) iq_X11_joined_X11 ha0 ka0 (by decide) rfl 10 (by decide) (by decide) (by decide +kernel) rfl (fun _ _ _ => rfl) (v := a_3) z_21 dX11_joined_110 ?_
        refine wa_iload_n B dX11_joined_113 rfl 1 rfl ?_
        refine wa_iload B dX11_joined_114 0 rfl ?_
        refine wa_if_eq B 133 dX11_joined_116 (by decide) (fun (t_22 : r_18.toInt = 0) => ?_) (fun (t_22 : ¬ r_18.toInt = 0) => ?_)
        · refine wa_iconst B 1 dX11_joined_133 (by decide) ?_
          refine wa_iastore B ha_3 ka_3 (by decide) (by decide) (show 0 ≤ v_2.toInt by omega) (show v_2.toInt < (h.2.1 a_3 : Int) by omega) dX11_joined_134 (fun q_23 eq_23 => ?_)
          have hV_q_23 : sx_V h L q_23 := by rw [eq_23]; exact hV_q_17.up1 ha_3 ka_3 trivial
          have hF_q_23 : sx_fr h L (fun a => h.1 a = 6 ∨ h.1 a = 8 ∨ h.1 a = 5 ∨ h.1 a = 2 ∨ h.1 a = 1 ∨ h.1 a = 4 ∨ a = s0 ∧ h.1 a = 7 ∨ a = sb ∧ h.1 a = 300) q q_23 := hF_q_17.tr (by rw [eq_23]; exact sx_fr.pG (show h.1 a_3 = 100 ∨ (h.1 a_3 = 6 ∨ h.1 a_3 = 8 ∨ h.1 a_3 = 5 ∨ h.1 a_3 = 2 ∨ h.1 a_3 = 1 ∨ h.1 a_3 = 4 ∨ a_3 = s0 ∧ h.1 a_3 = 7 ∨ a_3 = sb ∧ h.1 a_3 = 300) from by omega))
          have z_24 : q_23.2.2.2.1 a_3 (v_2 : Int32).toNatClampNeg = 1 := by rw [eq_23, sg_pG_e]; exact if_pos rfl
          refine wa_aload_n B dX11_joined_135 rfl 2 rfl ?_
          have z_25 : q_23.2.2.1 a0 10 = a_3 := ((show q_23.2.2.1 a0 10 = q_17.2.2.1 a0 10 from by rw [eq_23]; rfl)).trans (z_21)
          refine wa_getR B (C := RX11) (T := TX11) (N := 16) iq_X11_joined_X11 ha0 ka0 (by decide) rfl 10 (by decide) (by decide) (by decide +kernel) rfl (fun _ _ _ => rfl) (v := a_3) z_25 dX11_joined_136 ?_
          refine wa_iload_n B dX11_joined_139 rfl 1 rfl ?_
          refine wa_iaload B ha_3 ka_3 (by decide) (by decide) (show 0 ≤ v_2.toInt by omega) (show v_2.toInt < (h.2.1 a_3 : Int) by omega) (v := 1) z_24 dX11_joined_140 ?_
          exact hret _ _ _ _ dX11_joined_141 ⟨hV_q_23, hF_q_23⟩
        · refine wa_aload_n B dX11_joined_119 rfl 2 rfl ?_
          have z_26 : q_17.2.2.1 a0 8 = a_16 := (h2_q_17.R ha0 (show ¬ ((h.1 a0 = 6 ∨ h.1 a0 = 8 ∨ h.1 a0 = 5 ∨ h.1 a0 = 2 ∨ h.1 a0 = 1) ∧ (h.1 a0 = 8 ∨ h.1 a0 = 11)) from fun z9 => (show ¬ (h.1 a0 = 6 ∨ h.1 a0 = 8 ∨ h.1 a0 = 5 ∨ h.1 a0 = 2 ∨ h.1 a0 = 1) from (fun z => z.elim (fun z => absurd (z.symm.trans ka0) (by decide)) (fun z => z.elim (fun z => absurd (z.symm.trans ka0) (by decide)) (fun z => z.elim (fun z => absurd (z.symm.trans ka0) (by decide)) (fun z => z.elim (fun z => absurd (z.symm.trans ka0) (by decide)) (fun z => absurd (z.symm.trans ka0) (by decide))))))) z9.1) 8).trans (ea_16)
          refine wa_getR B (C := RX11) (T := TX11) (N := 16) iq_X11_joined_X11 ha0 ka0 (by decide) rfl 8 (by decide) (by decide) (by decide +kernel) rfl (fun _ _ _ => rfl) (v := a_16) z_26 dX11_joined_120 ?_
          refine wa_getI B (C := RX5) (T := TX5) (N := 7) iq_X11_joined_X5 ha_16 ka_16 (by decide) rfl 5 (by decide) (by decide) (by decide +kernel) rfl (by decide) (v := (q_17.1 a_16 5)) rfl dX11_joined_123 ?_
          refine wa_if_le B 133 dX11_joined_126 (by decide) (fun (t_27 : (q_17.1 a_16 5).toInt ≤ 0) => ?_) (fun (t_27 : ¬ (q_17.1 a_16 5).toInt ≤ 0) => ?_)
          · refine wa_iconst B 1 dX11_joined_133 (by decide) ?_
            refine wa_iastore B ha_3 ka_3 (by decide) (by decide) (show 0 ≤ v_2.toInt by omega) (show v_2.toInt < (h.2.1 a_3 : Int) by omega) dX11_joined_134 (fun q_28 eq_28 => ?_)
            have hV_q_28 : sx_V h L q_28 := by rw [eq_28]; exact hV_q_17.up1 ha_3 ka_3 trivial
            have hF_q_28 : sx_fr h L (fun a => h.1 a = 6 ∨ h.1 a = 8 ∨ h.1 a = 5 ∨ h.1 a = 2 ∨ h.1 a = 1 ∨ h.1 a = 4 ∨ a = s0 ∧ h.1 a = 7 ∨ a = sb ∧ h.1 a = 300) q q_28 := hF_q_17.tr (by rw [eq_28]; exact sx_fr.pG (show h.1 a_3 = 100 ∨ (h.1 a_3 = 6 ∨ h.1 a_3 = 8 ∨ h.1 a_3 = 5 ∨ h.1 a_3 = 2 ∨ h.1 a_3 = 1 ∨ h.1 a_3 = 4 ∨ a_3 = s0 ∧ h.1 a_3 = 7 ∨ a_3 = sb ∧ h.1 a_3 = 300) from by omega))
            have z_29 : q_28.2.2.2.1 a_3 (v_2 : Int32).toNatClampNeg = 1 := by rw [eq_28, sg_pG_e]; exact if_pos rfl
            refine wa_aload_n B dX11_joined_135 rfl 2 rfl ?_
            have z_30 : q_28.2.2.1 a0 10 = a_3 := ((show q_28.2.2.1 a0 10 = q_17.2.2.1 a0 10 from by rw [eq_28]; rfl)).trans (z_21)
            refine wa_getR B (C := RX11) (T := TX11) (N := 16) iq_X11_joined_X11 ha0 ka0 (by decide) rfl 10 (by decide) (by decide) (by decide +kernel) rfl (fun _ _ _ => rfl) (v := a_3) z_30 dX11_joined_136 ?_
            refine wa_iload_n B dX11_joined_139 rfl 1 rfl ?_
            refine wa_iaload B ha_3 ka_3 (by decide) (by decide) (show 0 ≤ v_2.toInt by omega) (show v_2.toInt < (h.2.1 a_3 : Int) by omega) (v := 1) z_29 dX11_joined_140 ?_
            exact hret _ _ _ _ dX11_joined_141 ⟨hV_q_28, hF_q_28⟩
          · refine wa_iconst B 2 dX11_joined_129 (by decide) ?_
            refine wa_goto B 134 dX11_joined_130 (by decide) ?_
            refine wa_iastore B ha_3 ka_3 (by decide) (by decide) (show 0 ≤ v_2.toInt by omega) (show v_2.toInt < (h.2.1 a_3 : Int) by omega) dX11_joined_134 (fun q_31 eq_31 => ?_)
            have hV_q_31 : sx_V h L q_31 := by rw [eq_31]; exact hV_q_17.up1 ha_3 ka_3 trivial
            have hF_q_31 : sx_fr h L (fun a => h.1 a = 6 ∨ h.1 a = 8 ∨ h.1 a = 5 ∨ h.1 a = 2 ∨ h.1 a = 1 ∨ h.1 a = 4 ∨ a = s0 ∧ h.1 a = 7 ∨ a = sb ∧ h.1 a = 300) q q_31 := hF_q_17.tr (by rw [eq_31]; exact sx_fr.pG (show h.1 a_3 = 100 ∨ (h.1 a_3 = 6 ∨ h.1 a_3 = 8 ∨ h.1 a_3 = 5 ∨ h.1 a_3 = 2 ∨ h.1 a_3 = 1 ∨ h.1 a_3 = 4 ∨ a_3 = s0 ∧ h.1 a_3 = 7 ∨ a_3 = sb ∧ h.1 a_3 = 300) from by omega))
            have z_32 : q_31.2.2.2.1 a_3 (v_2 : Int32).toNatClampNeg = 2 := by rw [eq_31, sg_pG_e]; exact if_pos rfl
            refine wa_aload_n B dX11_joined_135 rfl 2 rfl ?_
            have z_33 : q_31.2.2.1 a0 10 = a_3 := ((show q_31.2.2.1 a0 10 = q_17.2.2.1 a0 10 from by rw [eq_31]; rfl)).trans (z_21)
            refine wa_getR B (C := RX11) (T := TX11) (N := 16) iq_X11_joined_X11 ha0 ka0 (by decide) rfl 10 (by decide) (by decide) (by decide +kernel) rfl (fun _ _ _ => rfl) (v := a_3) z_33 dX11_joined_136 ?_
            refine wa_iload_n B dX11_joined_139 rfl 1 rfl ?_
            refine wa_iaload B ha_3 ka_3 (by decide) (by decide) (show 0 ≤ v_2.toInt by omega) (show v_2.toInt < (h.2.1 a_3 : Int) by omega) (v := 2) z_32 dX11_joined_140 ?_
            exact hret _ _ _ _ dX11_joined_141 ⟨hV_q_31, hF_q_31⟩
      · refine wa_aload_n B dX11_joined_97 rfl 2 rfl ?_
        obtain ⟨a_34, ea_34, ha_34, ka_34⟩ := hV_q_17.ref (t := 4) ha0 ka0 5 rfl (by decide)
        refine wa_getR B (C := RX11) (T := TX11) (N := 16) iq_X11_joined_X11 ha0 ka0 (by decide) rfl 5 (by decide) (by decide) (by decide +kernel) rfl (fun _ _ _ => rfl) (v := a_34) ea_34 dX11_joined_98 ?_
        refine wa_aload_n B dX11_joined_101 rfl 2 rfl ?_
        have z_35 : q_17.2.2.1 a0 8 = a_16 := (h2_q_17.R ha0 (show ¬ ((h.1 a0 = 6 ∨ h.1 a0 = 8 ∨ h.1 a0 = 5 ∨ h.1 a0 = 2 ∨ h.1 a0 = 1) ∧ (h.1 a0 = 8 ∨ h.1 a0 = 11)) from fun z9 => (show ¬ (h.1 a0 = 6 ∨ h.1 a0 = 8 ∨ h.1 a0 = 5 ∨ h.1 a0 = 2 ∨ h.1 a0 = 1) from (fun z => z.elim (fun z => absurd (z.symm.trans ka0) (by decide)) (fun z => z.elim (fun z => absurd (z.symm.trans ka0) (by decide)) (fun z => z.elim (fun z => absurd (z.symm.trans ka0) (by decide)) (fun z => z.elim (fun z => absurd (z.symm.trans ka0) (by decide)) (fun z => absurd (z.symm.trans ka0) (by decide))))))) z9.1) 8).trans (ea_16)
        refine wa_getR B (C := RX11) (T := TX11) (N := 16) iq_X11_joined_X11 ha0 ka0 (by decide) rfl 8 (by decide) (by decide) (by decide +kernel) rfl (fun _ _ _ => rfl) (v := a_16) z_35 dX11_joined_102 ?_
        refine wa_iconst B 1 dX11_joined_105 (by decide) ?_
        refine wa_callVv B (x := (RX4, TX4, 7)) (As := [.ref a_16, .int 1]) (rest := []) (k_X4_solve l dC dI h L hN q_17 hV_q_17 (a0 := a_34) ha_34 ka_34 (a1 := a_16) ha_16 ka_16 1  (by first | assumption | omega | decide)) (cwV 2 B.1.2.2.2.2 gX11_joined_X4_solve rfl rfl rfl (by decide +kernel) ⟨Nat.le_of_ble_eq_true rfl, Nat.le_of_ble_eq_true rfl⟩) ha_34 ka_34 (by decide) rfl rfl rfl (Nat.le_of_ble_eq_true rfl) dX11_joined_106 (fun q_36 w_37 => ?_)
        obtain ⟨hV_q_36, h2_q_36⟩ := w_37
        have hF_q_36 : sx_fr h L (fun a => h.1 a = 6 ∨ h.1 a = 8 ∨ h.1 a = 5 ∨ h.1 a = 2 ∨ h.1 a = 1 ∨ h.1 a = 4 ∨ a = s0 ∧ h.1 a = 7 ∨ a = sb ∧ h.1 a = 300) q q_36 := hF_q_17.tr (h2_q_36.mono (fun a (z : a = a_34 ∧ h.1 a = 4 ∨ a = a_16 ∧ h.1 a = 5 ∨ h.1 a = 1 ∨ h.1 a = 2) => ((fun z => z.elim (fun z => (Or.inr (Or.inr (Or.inr (Or.inr (Or.inr (Or.inl z.2))))))) (fun z => z.elim (fun z => (Or.inr (Or.inr (Or.inl z.2)))) (fun z => z.elim (fun z => (Or.inr (Or.inr (Or.inr (Or.inr (Or.inl z)))))) (fun z => (Or.inr (Or.inr (Or.inr (Or.inl z)))))))) z)))
        refine wa_aload_n B dX11_joined_109 rfl 2 rfl ?_
        have z_38 : q_36.2.2.1 a0 10 = a_3 := (h2_q_36.R ha0 (show ¬ ((a0 = a_34 ∧ h.1 a0 = 4 ∨ a0 = a_16 ∧ h.1 a0 = 5 ∨ h.1 a0 = 1 ∨ h.1 a0 = 2) ∧ (h.1 a0 = 8 ∨ h.1 a0 = 11)) from fun z9 => (show ¬ (a0 = a_34 ∧ h.1 a0 = 4 ∨ a0 = a_16 ∧ h.1 a0 = 5 ∨ h.1 a0 = 1 ∨ h.1 a0 = 2) from (fun z => z.elim (fun z => absurd (z.2.symm.trans ka0) (by decide)) (fun z => z.elim (fun z => absurd (z.2.symm.trans ka0) (by decide)) (fun z => z.elim (fun z => absurd (z.symm.trans ka0) (by decide)) (fun z => absurd (z.symm.trans ka0) (by decide)))))) z9.1) 10).trans ((h2_q_17.R ha0 (show ¬ ((h.1 a0 = 6 ∨ h.1 a0 = 8 ∨ h.1 a0 = 5 ∨ h.1 a0 = 2 ∨ h.1 a0 = 1) ∧ (h.1 a0 = 8 ∨ h.1 a0 = 11)) from fun z9 => (show ¬ (h.1 a0 = 6 ∨ h.1 a0 = 8 ∨ h.1 a0 = 5 ∨ h.1 a0 = 2 ∨ h.1 a0 = 1) from (fun z => z.elim (fun z => absurd (z.symm.trans ka0) (by decide)) (fun z => z.elim (fun z => absurd (z.symm.trans ka0) (by decide)) (fun z => z.elim (fun z => absurd (z.symm.trans ka0) (by decide)) (fun z => z.elim (fun z => absurd (z.symm.trans ka0) (by decide)) (fun z => absurd (z.symm.trans ka0) (by decide))))))) z9.1) 10).trans ((h2_q_11.R ha0 (show ¬ ((a0 = s0 ∧ h.1 a0 = 7 ∨ a0 = sb ∧ h.1 a0 = 300) ∧ (h.1 a0 = 8 ∨ h.1 a0 = 11)) from fun z9 => (show ¬ (a0 = s0 ∧ h.1 a0 = 7 ∨ a0 = sb ∧ h.1 a0 = 300) from (fun z => z.elim (fun z => absurd (z.2.symm.trans ka0) (by decide)) (fun z => absurd (z.2.symm.trans ka0) (by decide)))) z9.1) 10).trans (ea_3)))
        refine wa_getR B (C := RX11) (T := TX11) (N := 16) iq_X11_joined_X11 ha0 ka0 (by decide) rfl 10 (by decide) (by decide) (by decide +kernel) rfl (fun _ _ _ => rfl) (v := a_3) z_38 dX11_joined_110 ?_
        refine wa_iload_n B dX11_joined_113 rfl 1 rfl ?_
        refine wa_iload B dX11_joined_114 0 rfl ?_
        refine wa_if_eq B 133 dX11_joined_116 (by decide) (fun (t_39 : r_18.toInt = 0) => ?_) (fun (t_39 : ¬ r_18.toInt = 0) => ?_)
        · refine wa_iconst B 1 dX11_joined_133 (by decide) ?_
          refine wa_iastore B ha_3 ka_3 (by decide) (by decide) (show 0 ≤ v_2.toInt by omega) (show v_2.toInt < (h.2.1 a_3 : Int) by omega) dX11_joined_134 (fun q_40 eq_40 => ?_)
          have hV_q_40 : sx_V h L q_40 := by rw [eq_40]; exact hV_q_36.up1 ha_3 ka_3 trivial
          have hF_q_40 : sx_fr h L (fun a => h.1 a = 6 ∨ h.1 a = 8 ∨ h.1 a = 5 ∨ h.1 a = 2 ∨ h.1 a = 1 ∨ h.1 a = 4 ∨ a = s0 ∧ h.1 a = 7 ∨ a = sb ∧ h.1 a = 300) q q_40 := hF_q_36.tr (by rw [eq_40]; exact sx_fr.pG (show h.1 a_3 = 100 ∨ (h.1 a_3 = 6 ∨ h.1 a_3 = 8 ∨ h.1 a_3 = 5 ∨ h.1 a_3 = 2 ∨ h.1 a_3 = 1 ∨ h.1 a_3 = 4 ∨ a_3 = s0 ∧ h.1 a_3 = 7 ∨ a_3 = sb ∧ h.1 a_3 = 300) from by omega))
          have z_41 : q_40.2.2.2.1 a_3 (v_2 : Int32).toNatClampNeg = 1 := by rw [eq_40, sg_pG_e]; exact if_pos rfl
          refine wa_aload_n B dX11_joined_135 rfl 2 rfl ?_
          have z_42 : q_40.2.2.1 a0 10 = a_3 := ((show q_40.2.2.1 a0 10 = q_36.2.2.1 a0 10 from by rw [eq_40]; rfl)).trans (z_38)
          refine wa_getR B (C := RX11) (T := TX11) (N := 16) iq_X11_joined_X11 ha0 ka0 (by decide) rfl 10 (by decide) (by decide) (by decide +kernel) rfl (fun _ _ _ => rfl) (v := a_3) z_42 dX11_joined_136 ?_
          refine wa_iload_n B dX11_joined_139 rfl 1 rfl ?_
          refine wa_iaload B ha_3 ka_3 (by decide) (by decide) (show 0 ≤ v_2.toInt by omega) (show v_2.toInt < (h.2.1 a_3 : Int) by omega) (v := 1) z_41 dX11_joined_140 ?_
          exact hret _ _ _ _ dX11_joined_141 ⟨hV_q_40, hF_q_40⟩
        · refine wa_aload_n B dX11_joined_119 rfl 2 rfl ?_
          have z_43 : q_36.2.2.1 a0 8 = a_16 := (h2_q_36.R ha0 (show ¬ ((a0 = a_34 ∧ h.1 a0 = 4 ∨ a0 = a_16 ∧ h.1 a0 = 5 ∨ h.1 a0 = 1 ∨ h.1 a0 = 2) ∧ (h.1 a0 = 8 ∨ h.1 a0 = 11)) from fun z9 => (show ¬ (a0 = a_34 ∧ h.1 a0 = 4 ∨ a0 = a_16 ∧ h.1 a0 = 5 ∨ h.1 a0 = 1 ∨ h.1 a0 = 2) from (fun z => z.elim (fun z => absurd (z.2.symm.trans ka0) (by decide)) (fun z => z.elim (fun z => absurd (z.2.symm.trans ka0) (by decide)) (fun z => z.elim (fun z => absurd (z.symm.trans ka0) (by decide)) (fun z => absurd (z.symm.trans ka0) (by decide)))))) z9.1) 8).trans (z_35)
          refine wa_getR B (C := RX11) (T := TX11) (N := 16) iq_X11_joined_X11 ha0 ka0 (by decide) rfl 8 (by decide) (by decide) (by decide +kernel) rfl (fun _ _ _ => rfl) (v := a_16) z_43 dX11_joined_120 ?_
          refine wa_getI B (C := RX5) (T := TX5) (N := 7) iq_X11_joined_X5 ha_16 ka_16 (by decide) rfl 5 (by decide) (by decide) (by decide +kernel) rfl (by decide) (v := (q_36.1 a_16 5)) rfl dX11_joined_123 ?_
          refine wa_if_le B 133 dX11_joined_126 (by decide) (fun (t_44 : (q_36.1 a_16 5).toInt ≤ 0) => ?_) (fun (t_44 : ¬ (q_36.1 a_16 5).toInt ≤ 0) => ?_)
          · refine wa_iconst B 1 dX11_joined_133 (by decide) ?_
            refine wa_iastore B ha_3 ka_3 (by decide) (by decide) (show 0 ≤ v_2.toInt by omega) (show v_2.toInt < (h.2.1 a_3 : Int) by omega) dX11_joined_134 (fun q_45 eq_45 => ?_)
            have hV_q_45 : sx_V h L q_45 := by rw [eq_45]; exact hV_q_36.up1 ha_3 ka_3 trivial
            have hF_q_45 : sx_fr h L (fun a => h.1 a = 6 ∨ h.1 a = 8 ∨ h.1 a = 5 ∨ h.1 a = 2 ∨ h.1 a = 1 ∨ h.1 a = 4 ∨ a = s0 ∧ h.1 a = 7 ∨ a = sb ∧ h.1 a = 300) q q_45 := hF_q_36.tr (by rw [eq_45]; exact sx_fr.pG (show h.1 a_3 = 100 ∨ (h.1 a_3 = 6 ∨ h.1 a_3 = 8 ∨ h.1 a_3 = 5 ∨ h.1 a_3 = 2 ∨ h.1 a_3 = 1 ∨ h.1 a_3 = 4 ∨ a_3 = s0 ∧ h.1 a_3 = 7 ∨ a_3 = sb ∧ h.1 a_3 = 300) from by omega))
            have z_46 : q_45.2.2.2.1 a_3 (v_2 : Int32).toNatClampNeg = 1 := by rw [eq_45, sg_pG_e]; exact if_pos rfl
            refine wa_aload_n B dX11_joined_135 rfl 2 rfl ?_
            have z_47 : q_45.2.2.1 a0 10 = a_3 := ((show q_45.2.2.1 a0 10 = q_36.2.2.1 a0 10 from by rw [eq_45]; rfl)).trans (z_38)
            refine wa_getR B (C := RX11) (T := TX11) (N := 16) iq_X11_joined_X11 ha0 ka0 (by decide) rfl 10 (by decide) (by decide) (by decide +kernel) rfl (fun _ _ _ => rfl) (v := a_3) z_47 dX11_joined_136 ?_
            refine wa_iload_n B dX11_joined_139 rfl 1 rfl ?_
            refine wa_iaload B ha_3 ka_3 (by decide) (by decide) (show 0 ≤ v_2.toInt by omega) (show v_2.toInt < (h.2.1 a_3 : Int) by omega) (v := 1) z_46 dX11_joined_140 ?_
            exact hret _ _ _ _ dX11_joined_141 ⟨hV_q_45, hF_q_45⟩
          · refine wa_iconst B 2 dX11_joined_129 (by decide) ?_
            refine wa_goto B 134 dX11_joined_130 (by decide) ?_
            refine wa_iastore B ha_3 ka_3 (by decide) (by decide) (show 0 ≤ v_2.toInt by omega) (show v_2.toInt < (h.2.1 a_3 : Int) by omega) dX11_joined_134 (fun q_48 eq_48 => ?_)
            have hV_q_48 : sx_V h L q_48 := by rw [eq_48]; exact hV_q_36.up1 ha_3 ka_3 trivial
            have hF_q_48 : sx_fr h L (fun a => h.1 a = 6 ∨ h.1 a = 8 ∨ h.1 a = 5 ∨ h.1 a = 2 ∨ h.1 a = 1 ∨ h.1 a = 4 ∨ a = s0 ∧ h.1 a = 7 ∨ a = sb ∧ h.1 a = 300) q q_48 := hF_q_36.tr (by rw [eq_48]; exact sx_fr.pG (show h.1 a_3 = 100 ∨ (h.1 a_3 = 6 ∨ h.1 a_3 = 8 ∨ h.1 a_3 = 5 ∨ h.1 a_3 = 2 ∨ h.1 a_3 = 1 ∨ h.1 a_3 = 4 ∨ a_3 = s0 ∧ h.1 a_3 = 7 ∨ a_3 = sb ∧ h.1 a_3 = 300) from by omega))
            have z_49 : q_48.2.2.2.1 a_3 (v_2 : Int32).toNatClampNeg = 2 := by rw [eq_48, sg_pG_e]; exact if_pos rfl
            refine wa_aload_n B dX11_joined_135 rfl 2 rfl ?_
            have z_50 : q_48.2.2.1 a0 10 = a_3 := ((show q_48.2.2.1 a0 10 = q_36.2.2.1 a0 10 from by rw [eq_48]; rfl)).trans (z_38)
            refine wa_getR B (C := RX11) (T := TX11) (N := 16) iq_X11_joined_X11 ha0 ka0 (by decide) rfl 10 (by decide) (by decide) (by decide +kernel) rfl (fun _ _ _ => rfl) (v := a_3) z_50 dX11_joined_136 ?_
            refine wa_iload_n B dX11_joined_139 rfl 1 rfl ?_
            refine wa_iaload B ha_3 ka_3 (by decide) (by decide) (show 0 ≤ v_2.toInt by omega) (show v_2.toInt < (h.2.1 a_3 : Int) by omega) (v := 2) z_49 dX11_joined_140 ?_
            exact hret _ _ _ _ dX11_joined_141 ⟨hV_q_48, hF_q_48⟩
  · refine wa_aload_n B dX11_joined_17 rfl 1 rfl ?_
    obtain ⟨a_51, ea_51, ha_51, ka_51, la_51⟩ := hV.refn (n := 12) (t := 403) ha0 ka0 9 rfl (by decide) rfl (by decide)
    refine wa_getR B (C := RX11) (T := TX11) (N := 16) iq_X11_joined_X11 ha0 ka0 (by decide) rfl 9 (by decide) (by decide) (by decide +kernel) rfl (fun _ _ _ => rfl) (v := a_51) ea_51 dX11_joined_18 ?_
    refine wa_iload_n B dX11_joined_21 rfl 2 rfl ?_
    obtain ⟨a_52, ea_52, ha_52, ka_52⟩ := hV.elem (t := 0) ha_51 ka_51 (by decide) rfl (zx_ix (i := n1) (show 0 ≤ n1.toInt by omega) (show n1.toInt < (h.2.1 a_51 : Int) by omega))
    refine wa_aaload B (t0 := 6) ha_51 ka_51 (by decide) rfl (show 0 ≤ n1.toInt by omega) (show n1.toInt < (h.2.1 a_51 : Int) by omega) (v := a_52) ea_52 dX11_joined_22 ?_
    refine wa_aload_n B dX11_joined_23 rfl 1 rfl ?_
    refine wa_getR B (C := RX11) (T := TX11) (N := 16) iq_X11_joined_X11 ha0 ka0 (by decide) rfl 9 (by decide) (by decide) (by decide +kernel) rfl (fun _ _ _ => rfl) (v := a_51) ea_51 dX11_joined_24 ?_
    refine wa_iload_n B dX11_joined_27 rfl 3 rfl ?_
    obtain ⟨a_53, ea_53, ha_53, ka_53⟩ := hV.elem (t := 0) ha_51 ka_51 (by decide) rfl (zx_ix (i := n2) (show 0 ≤ n2.toInt by omega) (show n2.toInt < (h.2.1 a_51 : Int) by omega))
    refine wa_aaload B (t0 := 6) ha_51 ka_51 (by decide) rfl (show 0 ≤ n2.toInt by omega) (show n2.toInt < (h.2.1 a_51 : Int) by omega) (v := a_53) ea_53 dX11_joined_28 ?_
    refine wa_callVi B (x := (RX0, TX0, 4)) (As := [.ref a_53]) (rest := []) (k_X0_goesLeftOf l dC dI h L hN q hV (a0 := a_52) ha_52 ka_52 (a1 := a_53) ha_53 ka_53  ) (cwV 1 B.1.2.2.2.2 gX11_joined_X0_goesLeftOf rfl rfl rfl (by decide +kernel) ⟨Nat.le_of_ble_eq_true rfl, Nat.le_of_ble_eq_true rfl⟩) ha_52 ka_52 (by decide) rfl rfl rfl (Nat.le_of_ble_eq_true rfl) dX11_joined_29 (fun r_55 q_54 w_56 => ?_)
    obtain ⟨ew_56, hw_56⟩ := w_56
    subst ew_56
    refine wa_if_ne B 42 dX11_joined_32 (by decide) (fun (t_57 : ¬ r_55.toInt = 0) => ?_) (fun (t_57 : r_55.toInt = 0) => ?_)
    · refine wa_aload_n B dX11_joined_42 rfl 1 rfl ?_
      refine wa_getR B (C := RX11) (T := TX11) (N := 16) iq_X11_joined_X11 ha0 ka0 (by decide) rfl 10 (by decide) (by decide) (by decide +kernel) rfl (fun _ _ _ => rfl) (v := a_3) ea_3 dX11_joined_43 ?_
      refine wa_iload_n B dX11_joined_46 rfl 0 rfl ?_
      refine wa_iaload B ha_3 ka_3 (by decide) (by decide) (show 0 ≤ v_2.toInt by omega) (show v_2.toInt < (h.2.1 a_3 : Int) by omega) (v := (q.2.2.2.1 a_3 (v_2 : Int32).toNatClampNeg)) rfl dX11_joined_47 ?_
      refine wa_iconst B (-1) dX11_joined_48 (by decide) ?_
      refine wa_icmp_ne B 135 dX11_joined_49 (by decide) (fun (t_58 : ¬ ((q.2.2.2.1 a_3 (v_2 : Int32).toNatClampNeg)).toInt = (-1)) => ?_) (fun (t_58 : ((q.2.2.2.1 a_3 (v_2 : Int32).toNatClampNeg)).toInt = (-1)) => ?_)
      · refine wa_aload_n B dX11_joined_135 rfl 1 rfl ?_
        refine wa_getR B (C := RX11) (T := TX11) (N := 16) iq_X11_joined_X11 ha0 ka0 (by decide) rfl 10 (by decide) (by decide) (by decide +kernel) rfl (fun _ _ _ => rfl) (v := a_3) ea_3 dX11_joined_136 ?_
        refine wa_iload_n B dX11_joined_139 rfl 0 rfl ?_
        refine wa_iaload B ha_3 ka_3 (by decide) (by decide) (show 0 ≤ v_2.toInt by omega) (show v_2.toInt < (h.2.1 a_3 : Int) by omega) (v := (q.2.2.2.1 a_3 (v_2 : Int32).toNatClampNeg)) rfl dX11_joined_140 ?_
        exact hret _ _ _ _ dX11_joined_141 ⟨hV, hF⟩
      · refine wa_aload_n B dX11_joined_52 rfl 1 rfl ?_
        refine wa_getR B (C := RX11) (T := TX11) (N := 16) iq_X11_joined_X11 ha0 ka0 (by decide) rfl 9 (by decide) (by decide) (by decide +kernel) rfl (fun _ _ _ => rfl) (v := a_51) ea_51 dX11_joined_53 ?_
        refine wa_iload_n B dX11_joined_56 rfl 2 rfl ?_
        refine wa_aaload B (t0 := 6) ha_51 ka_51 (by decide) rfl (show 0 ≤ n1.toInt by omega) (show n1.toInt < (h.2.1 a_51 : Int) by omega) (v := a_52) ea_52 dX11_joined_57 ?_
        refine wa_aload_n B dX11_joined_58 rfl 1 rfl ?_
        refine wa_getR B (C := RX11) (T := TX11) (N := 16) iq_X11_joined_X11 ha0 ka0 (by decide) rfl 9 (by decide) (by decide) (by decide +kernel) rfl (fun _ _ _ => rfl) (v := a_51) ea_51 dX11_joined_59 ?_
        refine wa_iload_n B dX11_joined_62 rfl 3 rfl ?_
        refine wa_aaload B (t0 := 6) ha_51 ka_51 (by decide) rfl (show 0 ≤ n2.toInt by omega) (show n2.toInt < (h.2.1 a_51 : Int) by omega) (v := a_53) ea_53 dX11_joined_63 ?_
        refine wa_aload_n B dX11_joined_64 rfl 1 rfl ?_
        refine wa_getR B (C := RX11) (T := TX11) (N := 16) iq_X11_joined_X11 ha0 ka0 (by decide) rfl 2 (by decide) (by decide) (by decide +kernel) rfl (fun _ _ _ => rfl) (v := s0) es0 dX11_joined_65 ?_
        obtain ⟨a_59, ea_59, ha_59, ka_59, la_59⟩ := hV.refn (n := 4) (t := 7) ha_52 ka_52 0 rfl (by decide) rfl (by decide)
        have ns0_a_59 : ¬ s0 = a_59 := fun z9 => absurd (z9 ▸ ls0 : h.2.1 a_59 = 3) (by rw [la_59]; decide)
        obtain ⟨a_60, ea_60, ha_60, ka_60, la_60⟩ := hV.refn (n := 4) (t := 7) ha_53 ka_53 0 rfl (by decide) rfl (by decide)
        have ns0_a_60 : ¬ s0 = a_60 := fun z9 => absurd (z9 ▸ ls0 : h.2.1 a_60 = 3) (by rw [la_60]; decide)
        refine wa_callVv B (x := (RX0, TX0, 4)) (As := [.ref a_53, .ref s0]) (rest := []) (k_X0_sayWith l dC dI h L hN q hV (a0 := a_52) ha_52 ka_52 (a1 := a_53) ha_53 ka_53 (a2 := s0) hs0 ks0 (t0 := a_59) ea_59 (t1 := a_60) ea_60 (b0 := sb) esb (by omega) (by omega)  ) (cwV 2 B.1.2.2.2.2 gX11_joined_X0_sayWith rfl rfl rfl (by decide +kernel) ⟨Nat.le_of_ble_eq_true rfl, Nat.le_of_ble_eq_true rfl⟩) ha_52 ka_52 (by decide) rfl rfl rfl (Nat.le_of_ble_eq_true rfl) dX11_joined_68 (fun q_61 w_62 => ?_)
        obtain ⟨hV_q_61, h2_q_61⟩ := w_62
        have hF_q_61 : sx_fr h L (fun a => h.1 a = 6 ∨ h.1 a = 8 ∨ h.1 a = 5 ∨ h.1 a = 2 ∨ h.1 a = 1 ∨ h.1 a = 4 ∨ a = s0 ∧ h.1 a = 7 ∨ a = sb ∧ h.1 a = 300) q q_61 := hF.tr (h2_q_61.mono (fun a (z : a = s0 ∧ h.1 a = 7 ∨ a = sb ∧ h.1 a = 300) => ((fun z => z.elim (fun z => (Or.inr (Or.inr (Or.inr (Or.inr (Or.inr (Or.inr (Or.inl z)))))))) (fun z => (Or.inr (Or.inr (Or.inr (Or.inr (Or.inr (Or.inr (Or.inr z))))))))) z)))
        refine wa_aload_n B dX11_joined_71 rfl 1 rfl ?_
        obtain ⟨a_63, ea_63, ha_63, ka_63⟩ := hV_q_61.ref (t := 6) ha0 ka0 4 rfl (by decide)
        refine wa_getR B (C := RX11) (T := TX11) (N := 16) iq_X11_joined_X11 ha0 ka0 (by decide) rfl 4 (by decide) (by decide) (by decide +kernel) rfl (fun _ _ _ => rfl) (v := a_63) ea_63 dX11_joined_72 ?_
        refine wa_aload_n B dX11_joined_75 rfl 1 rfl ?_
        have z_64 : q_61.2.2.1 a0 2 = s0 := (h2_q_61.R ha0 (show ¬ ((a0 = s0 ∧ h.1 a0 = 7 ∨ a0 = sb ∧ h.1 a0 = 300) ∧ (h.1 a0 = 8 ∨ h.1 a0 = 11)) from fun z9 => (show ¬ (a0 = s0 ∧ h.1 a0 = 7 ∨ a0 = sb ∧ h.1 a0 = 300) from (fun z => z.elim (fun z => absurd (z.2.symm.trans ka0) (by decide)) (fun z => absurd (z.2.symm.trans ka0) (by decide)))) z9.1) 2).trans (es0)
        refine wa_getR B (C := RX11) (T := TX11) (N := 16) iq_X11_joined_X11 ha0 ka0 (by decide) rfl 2 (by decide) (by decide) (by decide +kernel) rfl (fun _ _ _ => rfl) (v := s0) z_64 dX11_joined_76 ?_
        refine wa_aload_n B dX11_joined_79 rfl 1 rfl ?_
        obtain ⟨a_65, ea_65, ha_65, ka_65⟩ := hV_q_61.ref (t := 9) ha0 ka0 11 rfl (by decide)
        refine wa_getR B (C := RX11) (T := TX11) (N := 16) iq_X11_joined_X11 ha0 ka0 (by decide) rfl 11 (by decide) (by decide) (by decide +kernel) rfl (fun _ _ _ => rfl) (v := a_65) ea_65 dX11_joined_80 ?_
        refine wa_aload_n B dX11_joined_83 rfl 1 rfl ?_
        obtain ⟨a_66, ea_66, ha_66, ka_66⟩ := hV_q_61.ref (t := 5) ha0 ka0 8 rfl (by decide)
        refine wa_getR B (C := RX11) (T := TX11) (N := 16) iq_X11_joined_X11 ha0 ka0 (by decide) rfl 8 (by decide) (by decide) (by decide +kernel) rfl (fun _ _ _ => rfl) (v := a_66) ea_66 dX11_joined_84 ?_
        refine wa_callVi B (x := (RX6, TX6, 8)) (As := [.ref s0, .ref a_65, .ref a_66]) (rest := []) (k_X6_read l dC dI h L hN q_61 hV_q_61 (a0 := a_63) ha_63 ka_63 (a1 := s0) hs0 ks0 (a2 := a_65) ha_65 ka_65 (a3 := a_66) ha_66 ka_66  ) (cwV 3 B.1.2.2.2.2 gX11_joined_X6_read rfl rfl rfl (by decide +kernel) ⟨Nat.le_of_ble_eq_true rfl, Nat.le_of_ble_eq_true rfl⟩) ha_63 ka_63 (by decide) rfl rfl rfl (Nat.le_of_ble_eq_true rfl) dX11_joined_87 (fun r_68 q_67 w_69 => ?_)
        obtain ⟨hV_q_67, h2_q_67, hw_69⟩ := w_69
        have hF_q_67 : sx_fr h L (fun a => h.1 a = 6 ∨ h.1 a = 8 ∨ h.1 a = 5 ∨ h.1 a = 2 ∨ h.1 a = 1 ∨ h.1 a = 4 ∨ a = s0 ∧ h.1 a = 7 ∨ a = sb ∧ h.1 a = 300) q q_67 := hF_q_61.tr (h2_q_67.mono (fun a (z : h.1 a = 6 ∨ h.1 a = 8 ∨ h.1 a = 5 ∨ h.1 a = 2 ∨ h.1 a = 1) => ((fun z => z.elim (fun z => (Or.inl z)) (fun z => z.elim (fun z => (Or.inr (Or.inl z))) (fun z => z.elim (fun z => (Or.inr (Or.inr (Or.inl z)))) (fun z => z.elim (fun z => (Or.inr (Or.inr (Or.inr (Or.inl z))))) (fun z => (Or.inr (Or.inr (Or.inr (Or.inr (Or.inl z)))))))))) z)))
        refine wa_istore B [(4, .int r_68), (3, .int v_2), (0, .ref a0), (1, .int n1), (2, .int n2)] dX11_joined_90 (by decide) rfl ?_
        refine wa_iload B dX11_joined_92 0 rfl ?_
        refine wa_if_eq B 109 dX11_joined_94 (by decide) (fun (t_70 : r_68.toInt = 0) => ?_) (fun (t_70 : ¬ r_68.toInt = 0) => ?_)
        · refine wa_aload_n B dX11_joined_109 rfl 2 rfl ?_
          have z_71 : q_67.2.2.1 a0 10 = a_3 := (h2_q_67.R ha0 (show ¬ ((h.1 a0 = 6 ∨ h.1 a0 = 8 ∨ h.1 a0 = 5 ∨ h.1 a0 = 2 ∨ h.1 a0 = 1) ∧ (h.1 a0 = 8 ∨ h.1 a0 = 11)) from fun z9 => (show ¬ (h.1 a0 = 6 ∨ h.1 a0 = 8 ∨ h.1 a0 = 5 ∨ h.1 a0 = 2 ∨ h.1 a0 = 1) from (fun z => z.elim (fun z => absurd (z.symm.trans ka0) (by decide)) (fun z => z.elim (fun z => absurd (z.symm.trans ka0) (by decide)) (fun z => z.elim (fun z => absurd (z.symm.trans ka0) (by decide)) (fun z => z.elim (fun z => absurd (z.symm.trans ka0) (by decide)) (fun z => absurd (z.symm.trans ka0) (by decide))))))) z9.1) 10).trans ((h2_q_61.R ha0 (show ¬ ((a0 = s0 ∧ h.1 a0 = 7 ∨ a0 = sb ∧ h.1 a0 = 300) ∧ (h.1 a0 = 8 ∨ h.1 a0 = 11)) from fun z9 => (show ¬ (a0 = s0 ∧ h.1 a0 = 7 ∨ a0 = sb ∧ h.1 a0 = 300) from (fun z => z.elim (fun z => absurd (z.2.symm.trans ka0) (by decide)) (fun z => absurd (z.2.symm.trans ka0) (by decide)))) z9.1) 10).trans (ea_3))
          refine wa_getR B (C := RX11) (T := TX11) (N := 16) iq_X11_joined_X11 ha0 ka0 (by decide) rfl 10 (by decide) (by decide) (by decide +kernel) rfl (fun _ _ _ => rfl) (v := a_3) z_71 dX11_joined_110 ?_
          refine wa_iload_n B dX11_joined_113 rfl 1 rfl ?_
          refine wa_iload B dX11_joined_114 0 rfl ?_
          refine wa_if_eq B 133 dX11_joined_116 (by decide) (fun (t_72 : r_68.toInt = 0) => ?_) (fun (t_72 : ¬ r_68.toInt = 0) => ?_)
          · refine wa_iconst B 1 dX11_joined_133 (by decide) ?_
            refine wa_iastore B ha_3 ka_3 (by decide) (by decide) (show 0 ≤ v_2.toInt by omega) (show v_2.toInt < (h.2.1 a_3 : Int) by omega) dX11_joined_134 (fun q_73 eq_73 => ?_)
            have hV_q_73 : sx_V h L q_73 := by rw [eq_73]; exact hV_q_67.up1 ha_3 ka_3 trivial
            have hF_q_73 : sx_fr h L (fun a => h.1 a = 6 ∨ h.1 a = 8 ∨ h.1 a = 5 ∨ h.1 a = 2 ∨ h.1 a = 1 ∨ h.1 a = 4 ∨ a = s0 ∧ h.1 a = 7 ∨ a = sb ∧ h.1 a = 300) q q_73 := hF_q_67.tr (by rw [eq_73]; exact sx_fr.pG (show h.1 a_3 = 100 ∨ (h.1 a_3 = 6 ∨ h.1 a_3 = 8 ∨ h.1 a_3 = 5 ∨ h.1 a_3 = 2 ∨ h.1 a_3 = 1 ∨ h.1 a_3 = 4 ∨ a_3 = s0 ∧ h.1 a_3 = 7 ∨ a_3 = sb ∧ h.1 a_3 = 300) from by omega))
            have z_74 : q_73.2.2.2.1 a_3 (v_2 : Int32).toNatClampNeg = 1 := by rw [eq_73, sg_pG_e]; exact if_pos rfl
            refine wa_aload_n B dX11_joined_135 rfl 2 rfl ?_
            have z_75 : q_73.2.2.1 a0 10 = a_3 := ((show q_73.2.2.1 a0 10 = q_67.2.2.1 a0 10 from by rw [eq_73]; rfl)).trans (z_71)
            refine wa_getR B (C := RX11) (T := TX11) (N := 16) iq_X11_joined_X11 ha0 ka0 (by decide) rfl 10 (by decide) (by decide) (by decide +kernel) rfl (fun _ _ _ => rfl) (v := a_3) z_75 dX11_joined_136 ?_
            refine wa_iload_n B dX11_joined_139 rfl 1 rfl ?_
            refine wa_iaload B ha_3 ka_3 (by decide) (by decide) (show 0 ≤ v_2.toInt by omega) (show v_2.toInt < (h.2.1 a_3 : Int) by omega) (v := 1) z_74 dX11_joined_140 ?_
            exact hret _ _ _ _ dX11_joined_141 ⟨hV_q_73, hF_q_73⟩
          · refine wa_aload_n B dX11_joined_119 rfl 2 rfl ?_
            have z_76 : q_67.2.2.1 a0 8 = a_66 := (h2_q_67.R ha0 (show ¬ ((h.1 a0 = 6 ∨ h.1 a0 = 8 ∨ h.1 a0 = 5 ∨ h.1 a0 = 2 ∨ h.1 a0 = 1) ∧ (h.1 a0 = 8 ∨ h.1 a0 = 11)) from fun z9 => (show ¬ (h.1 a0 = 6 ∨ h.1 a0 = 8 ∨ h.1 a0 = 5 ∨ h.1 a0 = 2 ∨ h.1 a0 = 1) from (fun z => z.elim (fun z => absurd (z.symm.trans ka0) (by decide)) (fun z => z.elim (fun z => absurd (z.symm.trans ka0) (by decide)) (fun z => z.elim (fun z => absurd (z.symm.trans ka0) (by decide)) (fun z => z.elim (fun z => absurd (z.symm.trans ka0) (by decide)) (fun z => absurd (z.symm.trans ka0) (by decide))))))) z9.1) 8).trans (ea_66)
            refine wa_getR B (C := RX11) (T := TX11) (N := 16) iq_X11_joined_X11 ha0 ka0 (by decide) rfl 8 (by decide) (by decide) (by decide +kernel) rfl (fun _ _ _ => rfl) (v := a_66) z_76 dX11_joined_120 ?_
            refine wa_getI B (C := RX5) (T := TX5) (N := 7) iq_X11_joined_X5 ha_66 ka_66 (by decide) rfl 5 (by decide) (by decide) (by decide +kernel) rfl (by decide) (v := (q_67.1 a_66 5)) rfl dX11_joined_123 ?_
            refine wa_if_le B 133 dX11_joined_126 (by decide) (fun (t_77 : (q_67.1 a_66 5).toInt ≤ 0) => ?_) (fun (t_77 : ¬ (q_67.1 a_66 5).toInt ≤ 0) => ?_)
            · refine wa_iconst B 1 dX11_joined_133 (by decide) ?_
              refine wa_iastore B ha_3 ka_3 (by decide) (by decide) (show 0 ≤ v_2.toInt by omega) (show v_2.toInt < (h.2.1 a_3 : Int) by omega) dX11_joined_134 (fun q_78 eq_78 => ?_)
              have hV_q_78 : sx_V h L q_78 := by rw [eq_78]; exact hV_q_67.up1 ha_3 ka_3 trivial
              have hF_q_78 : sx_fr h L (fun a => h.1 a = 6 ∨ h.1 a = 8 ∨ h.1 a = 5 ∨ h.1 a = 2 ∨ h.1 a = 1 ∨ h.1 a = 4 ∨ a = s0 ∧ h.1 a = 7 ∨ a = sb ∧ h.1 a = 300) q q_78 := hF_q_67.tr (by rw [eq_78]; exact sx_fr.pG (show h.1 a_3 = 100 ∨ (h.1 a_3 = 6 ∨ h.1 a_3 = 8 ∨ h.1 a_3 = 5 ∨ h.1 a_3 = 2 ∨ h.1 a_3 = 1 ∨ h.1 a_3 = 4 ∨ a_3 = s0 ∧ h.1 a_3 = 7 ∨ a_3 = sb ∧ h.1 a_3 = 300) from by omega))
              have z_79 : q_78.2.2.2.1 a_3 (v_2 : Int32).toNatClampNeg = 1 := by rw [eq_78, sg_pG_e]; exact if_pos rfl
              refine wa_aload_n B dX11_joined_135 rfl 2 rfl ?_
              have z_80 : q_78.2.2.1 a0 10 = a_3 := ((show q_78.2.2.1 a0 10 = q_67.2.2.1 a0 10 from by rw [eq_78]; rfl)).trans (z_71)
              refine wa_getR B (C := RX11) (T := TX11) (N := 16) iq_X11_joined_X11 ha0 ka0 (by decide) rfl 10 (by decide) (by decide) (by decide +kernel) rfl (fun _ _ _ => rfl) (v := a_3) z_80 dX11_joined_136 ?_
              refine wa_iload_n B dX11_joined_139 rfl 1 rfl ?_
              refine wa_iaload B ha_3 ka_3 (by decide) (by decide) (show 0 ≤ v_2.toInt by omega) (show v_2.toInt < (h.2.1 a_3 : Int) by omega) (v := 1) z_79 dX11_joined_140 ?_
              exact hret _ _ _ _ dX11_joined_141 ⟨hV_q_78, hF_q_78⟩
            · refine wa_iconst B 2 dX11_joined_129 (by decide) ?_
              refine wa_goto B 134 dX11_joined_130 (by decide) ?_
              refine wa_iastore B ha_3 ka_3 (by decide) (by decide) (show 0 ≤ v_2.toInt by omega) (show v_2.toInt < (h.2.1 a_3 : Int) by omega) dX11_joined_134 (fun q_81 eq_81 => ?_)
              have hV_q_81 : sx_V h L q_81 := by rw [eq_81]; exact hV_q_67.up1 ha_3 ka_3 trivial
              have hF_q_81 : sx_fr h L (fun a => h.1 a = 6 ∨ h.1 a = 8 ∨ h.1 a = 5 ∨ h.1 a = 2 ∨ h.1 a = 1 ∨ h.1 a = 4 ∨ a = s0 ∧ h.1 a = 7 ∨ a = sb ∧ h.1 a = 300) q q_81 := hF_q_67.tr (by rw [eq_81]; exact sx_fr.pG (show h.1 a_3 = 100 ∨ (h.1 a_3 = 6 ∨ h.1 a_3 = 8 ∨ h.1 a_3 = 5 ∨ h.1 a_3 = 2 ∨ h.1 a_3 = 1 ∨ h.1 a_3 = 4 ∨ a_3 = s0 ∧ h.1 a_3 = 7 ∨ a_3 = sb ∧ h.1 a_3 = 300) from by omega))
              have z_82 : q_81.2.2.2.1 a_3 (v_2 : Int32).toNatClampNeg = 2 := by rw [eq_81, sg_pG_e]; exact if_pos rfl
              refine wa_aload_n B dX11_joined_135 rfl 2 rfl ?_
              have z_83 : q_81.2.2.1 a0 10 = a_3 := ((show q_81.2.2.1 a0 10 = q_67.2.2.1 a0 10 from by rw [eq_81]; rfl)).trans (z_71)
              refine wa_getR B (C := RX11) (T := TX11) (N := 16) iq_X11_joined_X11 ha0 ka0 (by decide) rfl 10 (by decide) (by decide) (by decide +kernel) rfl (fun _ _ _ => rfl) (v := a_3) z_83 dX11_joined_136 ?_
              refine wa_iload_n B dX11_joined_139 rfl 1 rfl ?_
              refine wa_iaload B ha_3 ka_3 (by decide) (by decide) (show 0 ≤ v_2.toInt by omega) (show v_2.toInt < (h.2.1 a_3 : Int) by omega) (v := 2) z_82 dX11_joined_140 ?_
              exact hret _ _ _ _ dX11_joined_141 ⟨hV_q_81, hF_q_81⟩
        · refine wa_aload_n B dX11_joined_97 rfl 2 rfl ?_
          obtain ⟨a_84, ea_84, ha_84, ka_84⟩ := hV_q_67.ref (t := 4) ha0 ka0 5 rfl (by decide)
          refine wa_getR B (C := RX11) (T := TX11) (N := 16) iq_X11_joined_X11 ha0 ka0 (by decide) rfl 5 (by decide) (by decide) (by decide +kernel) rfl (fun _ _ _ => rfl) (v := a_84) ea_84 dX11_joined_98 ?_
          refine wa_aload_n B dX11_joined_101 rfl 2 rfl ?_
          have z_85 : q_67.2.2.1 a0 8 = a_66 := (h2_q_67.R ha0 (show ¬ ((h.1 a0 = 6 ∨ h.1 a0 = 8 ∨ h.1 a0 = 5 ∨ h.1 a0 = 2 ∨ h.1 a0 = 1) ∧ (h.1 a0 = 8 ∨ h.1 a0 = 11)) from fun z9 => (show ¬ (h.1 a0 = 6 ∨ h.1 a0 = 8 ∨ h.1 a0 = 5 ∨ h.1 a0 = 2 ∨ h.1 a0 = 1) from (fun z => z.elim (fun z => absurd (z.symm.trans ka0) (by decide)) (fun z => z.elim (fun z => absurd (z.symm.trans ka0) (by decide)) (fun z => z.elim (fun z => absurd (z.symm.trans ka0) (by decide)) (fun z => z.elim (fun z => absurd (z.symm.trans ka0) (by decide)) (fun z => absurd (z.symm.trans ka0) (by decide))))))) z9.1) 8).trans (ea_66)
          refine wa_getR B (C := RX11) (T := TX11) (N := 16) iq_X11_joined_X11 ha0 ka0 (by decide) rfl 8 (by decide) (by decide) (by decide +kernel) rfl (fun _ _ _ => rfl) (v := a_66) z_85 dX11_joined_102 ?_
          refine wa_iconst B 1 dX11_joined_105 (by decide) ?_
          refine wa_callVv B (x := (RX4, TX4, 7)) (As := [.ref a_66, .int 1]) (rest := []) (k_X4_solve l dC dI h L hN q_67 hV_q_67 (a0 := a_84) ha_84 ka_84 (a1 := a_66) ha_66 ka_66 1  (by first | assumption | omega | decide)) (cwV 2 B.1.2.2.2.2 gX11_joined_X4_solve rfl rfl rfl (by decide +kernel) ⟨Nat.le_of_ble_eq_true rfl, Nat.le_of_ble_eq_true rfl⟩) ha_84 ka_84 (by decide) rfl rfl rfl (Nat.le_of_ble_eq_true rfl) dX11_joined_106 (fun q_86 w_87 => ?_)
          obtain ⟨hV_q_86, h2_q_86⟩ := w_87
          have hF_q_86 : sx_fr h L (fun a => h.1 a = 6 ∨ h.1 a = 8 ∨ h.1 a = 5 ∨ h.1 a = 2 ∨ h.1 a = 1 ∨ h.1 a = 4 ∨ a = s0 ∧ h.1 a = 7 ∨ a = sb ∧ h.1 a = 300) q q_86 := hF_q_67.tr (h2_q_86.mono (fun a (z : a = a_84 ∧ h.1 a = 4 ∨ a = a_66 ∧ h.1 a = 5 ∨ h.1 a = 1 ∨ h.1 a = 2) => ((fun z => z.elim (fun z => (Or.inr (Or.inr (Or.inr (Or.inr (Or.inr (Or.inl z.2))))))) (fun z => z.elim (fun z => (Or.inr (Or.inr (Or.inl z.2)))) (fun z => z.elim (fun z => (Or.inr (Or.inr (Or.inr (Or.inr (Or.inl z)))))) (fun z => (Or.inr (Or.inr (Or.inr (Or.inl z)))))))) z)))
          refine wa_aload_n B dX11_joined_109 rfl 2 rfl ?_
          have z_88 : q_86.2.2.1 a0 10 = a_3 := (h2_q_86.R ha0 (show ¬ ((a0 = a_84 ∧ h.1 a0 = 4 ∨ a0 = a_66 ∧ h.1 a0 = 5 ∨ h.1 a0 = 1 ∨ h.1 a0 = 2) ∧ (h.1 a0 = 8 ∨ h.1 a0 = 11)) from fun z9 => (show ¬ (a0 = a_84 ∧ h.1 a0 = 4 ∨ a0 = a_66 ∧ h.1 a0 = 5 ∨ h.1 a0 = 1 ∨ h.1 a0 = 2) from (fun z => z.elim (fun z => absurd (z.2.symm.trans ka0) (by decide)) (fun z => z.elim (fun z => absurd (z.2.symm.trans ka0) (by decide)) (fun z => z.elim (fun z => absurd (z.symm.trans ka0) (by decide)) (fun z => absurd (z.symm.trans ka0) (by decide)))))) z9.1) 10).trans ((h2_q_67.R ha0 (show ¬ ((h.1 a0 = 6 ∨ h.1 a0 = 8 ∨ h.1 a0 = 5 ∨ h.1 a0 = 2 ∨ h.1 a0 = 1) ∧ (h.1 a0 = 8 ∨ h.1 a0 = 11)) from fun z9 => (show ¬ (h.1 a0 = 6 ∨ h.1 a0 = 8 ∨ h.1 a0 = 5 ∨ h.1 a0 = 2 ∨ h.1 a0 = 1) from (fun z => z.elim (fun z => absurd (z.symm.trans ka0) (by decide)) (fun z => z.elim (fun z => absurd (z.symm.trans ka0) (by decide)) (fun z => z.elim (fun z => absurd (z.symm.trans ka0) (by decide)) (fun z => z.elim (fun z => absurd (z.symm.trans ka0) (by decide)) (fun z => absurd (z.symm.trans ka0) (by decide))))))) z9.1) 10).trans ((h2_q_61.R ha0 (show ¬ ((a0 = s0 ∧ h.1 a0 = 7 ∨ a0 = sb ∧ h.1 a0 = 300) ∧ (h.1 a0 = 8 ∨ h.1 a0 = 11)) from fun z9 => (show ¬ (a0 = s0 ∧ h.1 a0 = 7 ∨ a0 = sb ∧ h.1 a0 = 300) from (fun z => z.elim (fun z => absurd (z.2.symm.trans ka0) (by decide)) (fun z => absurd (z.2.symm.trans ka0) (by decide)))) z9.1) 10).trans (ea_3)))
          refine wa_getR B (C := RX11) (T := TX11) (N := 16) iq_X11_joined_X11 ha0 ka0 (by decide) rfl 10 (by decide) (by decide) (by decide +kernel) rfl (fun _ _ _ => rfl) (v := a_3) z_88 dX11_joined_110 ?_
          refine wa_iload_n B dX11_joined_113 rfl 1 rfl ?_
          refine wa_iload B dX11_joined_114 0 rfl ?_
          refine wa_if_eq B 133 dX11_joined_116 (by decide) (fun (t_89 : r_68.toInt = 0) => ?_) (fun (t_89 : ¬ r_68.toInt = 0) => ?_)
          · refine wa_iconst B 1 dX11_joined_133 (by decide) ?_
            refine wa_iastore B ha_3 ka_3 (by decide) (by decide) (show 0 ≤ v_2.toInt by omega) (show v_2.toInt < (h.2.1 a_3 : Int) by omega) dX11_joined_134 (fun q_90 eq_90 => ?_)
            have hV_q_90 : sx_V h L q_90 := by rw [eq_90]; exact hV_q_86.up1 ha_3 ka_3 trivial
            have hF_q_90 : sx_fr h L (fun a => h.1 a = 6 ∨ h.1 a = 8 ∨ h.1 a = 5 ∨ h.1 a = 2 ∨ h.1 a = 1 ∨ h.1 a = 4 ∨ a = s0 ∧ h.1 a = 7 ∨ a = sb ∧ h.1 a = 300) q q_90 := hF_q_86.tr (by rw [eq_90]; exact sx_fr.pG (show h.1 a_3 = 100 ∨ (h.1 a_3 = 6 ∨ h.1 a_3 = 8 ∨ h.1 a_3 = 5 ∨ h.1 a_3 = 2 ∨ h.1 a_3 = 1 ∨ h.1 a_3 = 4 ∨ a_3 = s0 ∧ h.1 a_3 = 7 ∨ a_3 = sb ∧ h.1 a_3 = 300) from by omega))
            have z_91 : q_90.2.2.2.1 a_3 (v_2 : Int32).toNatClampNeg = 1 := by rw [eq_90, sg_pG_e]; exact if_pos rfl
            refine wa_aload_n B dX11_joined_135 rfl 2 rfl ?_
            have z_92 : q_90.2.2.1 a0 10 = a_3 := ((show q_90.2.2.1 a0 10 = q_86.2.2.1 a0 10 from by rw [eq_90]; rfl)).trans (z_88)
            refine wa_getR B (C := RX11) (T := TX11) (N := 16) iq_X11_joined_X11 ha0 ka0 (by decide) rfl 10 (by decide) (by decide) (by decide +kernel) rfl (fun _ _ _ => rfl) (v := a_3) z_92 dX11_joined_136 ?_
            refine wa_iload_n B dX11_joined_139 rfl 1 rfl ?_
            refine wa_iaload B ha_3 ka_3 (by decide) (by decide) (show 0 ≤ v_2.toInt by omega) (show v_2.toInt < (h.2.1 a_3 : Int) by omega) (v := 1) z_91 dX11_joined_140 ?_
            exact hret _ _ _ _ dX11_joined_141 ⟨hV_q_90, hF_q_90⟩
          · refine wa_aload_n B dX11_joined_119 rfl 2 rfl ?_
            have z_93 : q_86.2.2.1 a0 8 = a_66 := (h2_q_86.R ha0 (show ¬ ((a0 = a_84 ∧ h.1 a0 = 4 ∨ a0 = a_66 ∧ h.1 a0 = 5 ∨ h.1 a0 = 1 ∨ h.1 a0 = 2) ∧ (h.1 a0 = 8 ∨ h.1 a0 = 11)) from fun z9 => (show ¬ (a0 = a_84 ∧ h.1 a0 = 4 ∨ a0 = a_66 ∧ h.1 a0 = 5 ∨ h.1 a0 = 1 ∨ h.1 a0 = 2) from (fun z => z.elim (fun z => absurd (z.2.symm.trans ka0) (by decide)) (fun z => z.elim (fun z => absurd (z.2.symm.trans ka0) (by decide)) (fun z => z.elim (fun z => absurd (z.symm.trans ka0) (by decide)) (fun z => absurd (z.symm.trans ka0) (by decide)))))) z9.1) 8).trans (z_85)
            refine wa_getR B (C := RX11) (T := TX11) (N := 16) iq_X11_joined_X11 ha0 ka0 (by decide) rfl 8 (by decide) (by decide) (by decide +kernel) rfl (fun _ _ _ => rfl) (v := a_66) z_93 dX11_joined_120 ?_
            refine wa_getI B (C := RX5) (T := TX5) (N := 7) iq_X11_joined_X5 ha_66 ka_66 (by decide) rfl 5 (by decide) (by decide) (by decide +kernel) rfl (by decide) (v := (q_86.1 a_66 5)) rfl dX11_joined_123 ?_
            refine wa_if_le B 133 dX11_joined_126 (by decide) (fun (t_94 : (q_86.1 a_66 5).toInt ≤ 0) => ?_) (fun (t_94 : ¬ (q_86.1 a_66 5).toInt ≤ 0) => ?_)
            · refine wa_iconst B 1 dX11_joined_133 (by decide) ?_
              refine wa_iastore B ha_3 ka_3 (by decide) (by decide) (show 0 ≤ v_2.toInt by omega) (show v_2.toInt < (h.2.1 a_3 : Int) by omega) dX11_joined_134 (fun q_95 eq_95 => ?_)
              have hV_q_95 : sx_V h L q_95 := by rw [eq_95]; exact hV_q_86.up1 ha_3 ka_3 trivial
              have hF_q_95 : sx_fr h L (fun a => h.1 a = 6 ∨ h.1 a = 8 ∨ h.1 a = 5 ∨ h.1 a = 2 ∨ h.1 a = 1 ∨ h.1 a = 4 ∨ a = s0 ∧ h.1 a = 7 ∨ a = sb ∧ h.1 a = 300) q q_95 := hF_q_86.tr (by rw [eq_95]; exact sx_fr.pG (show h.1 a_3 = 100 ∨ (h.1 a_3 = 6 ∨ h.1 a_3 = 8 ∨ h.1 a_3 = 5 ∨ h.1 a_3 = 2 ∨ h.1 a_3 = 1 ∨ h.1 a_3 = 4 ∨ a_3 = s0 ∧ h.1 a_3 = 7 ∨ a_3 = sb ∧ h.1 a_3 = 300) from by omega))
              have z_96 : q_95.2.2.2.1 a_3 (v_2 : Int32).toNatClampNeg = 1 := by rw [eq_95, sg_pG_e]; exact if_pos rfl
              refine wa_aload_n B dX11_joined_135 rfl 2 rfl ?_
              have z_97 : q_95.2.2.1 a0 10 = a_3 := ((show q_95.2.2.1 a0 10 = q_86.2.2.1 a0 10 from by rw [eq_95]; rfl)).trans (z_88)
              refine wa_getR B (C := RX11) (T := TX11) (N := 16) iq_X11_joined_X11 ha0 ka0 (by decide) rfl 10 (by decide) (by decide) (by decide +kernel) rfl (fun _ _ _ => rfl) (v := a_3) z_97 dX11_joined_136 ?_
              refine wa_iload_n B dX11_joined_139 rfl 1 rfl ?_
              refine wa_iaload B ha_3 ka_3 (by decide) (by decide) (show 0 ≤ v_2.toInt by omega) (show v_2.toInt < (h.2.1 a_3 : Int) by omega) (v := 1) z_96 dX11_joined_140 ?_
              exact hret _ _ _ _ dX11_joined_141 ⟨hV_q_95, hF_q_95⟩
            · refine wa_iconst B 2 dX11_joined_129 (by decide) ?_
              refine wa_goto B 134 dX11_joined_130 (by decide) ?_
              refine wa_iastore B ha_3 ka_3 (by decide) (by decide) (show 0 ≤ v_2.toInt by omega) (show v_2.toInt < (h.2.1 a_3 : Int) by omega) dX11_joined_134 (fun q_98 eq_98 => ?_)
              have hV_q_98 : sx_V h L q_98 := by rw [eq_98]; exact hV_q_86.up1 ha_3 ka_3 trivial
              have hF_q_98 : sx_fr h L (fun a => h.1 a = 6 ∨ h.1 a = 8 ∨ h.1 a = 5 ∨ h.1 a = 2 ∨ h.1 a = 1 ∨ h.1 a = 4 ∨ a = s0 ∧ h.1 a = 7 ∨ a = sb ∧ h.1 a = 300) q q_98 := hF_q_86.tr (by rw [eq_98]; exact sx_fr.pG (show h.1 a_3 = 100 ∨ (h.1 a_3 = 6 ∨ h.1 a_3 = 8 ∨ h.1 a_3 = 5 ∨ h.1 a_3 = 2 ∨ h.1 a_3 = 1 ∨ h.1 a_3 = 4 ∨ a_3 = s0 ∧ h.1 a_3 = 7 ∨ a_3 = sb ∧ h.1 a_3 = 300) from by omega))
              have z_99 : q_98.2.2.2.1 a_3 (v_2 : Int32).toNatClampNeg = 2 := by rw [eq_98, sg_pG_e]; exact if_pos rfl
              refine wa_aload_n B dX11_joined_135 rfl 2 rfl ?_
              have z_100 : q_98.2.2.1 a0 10 = a_3 := ((show q_98.2.2.1 a0 10 = q_86.2.2.1 a0 10 from by rw [eq_98]; rfl)).trans (z_88)
              refine wa_getR B (C := RX11) (T := TX11) (N := 16) iq_X11_joined_X11 ha0 ka0 (by decide) rfl 10 (by decide) (by decide) (by decide +kernel) rfl (fun _ _ _ => rfl) (v := a_3) z_100 dX11_joined_136 ?_
              refine wa_iload_n B dX11_joined_139 rfl 1 rfl ?_
              refine wa_iaload B ha_3 ka_3 (by decide) (by decide) (show 0 ≤ v_2.toInt by omega) (show v_2.toInt < (h.2.1 a_3 : Int) by omega) (v := 2) z_99 dX11_joined_140 ?_
              exact hret _ _ _ _ dX11_joined_141 ⟨hV_q_98, hF_q_98⟩
    · refine wa_aload_n B dX11_joined_35 rfl 1 rfl ?_
      refine wa_getR B (C := RX11) (T := TX11) (N := 16) iq_X11_joined_X11 ha0 ka0 (by decide) rfl 10 (by decide) (by decide) (by decide +kernel) rfl (fun _ _ _ => rfl) (v := a_3) ea_3 dX11_joined_36 ?_
      refine wa_iload_n B dX11_joined_39 rfl 0 rfl ?_
      refine wa_iconst B 0 dX11_joined_40 (by decide) ?_
      refine wa_iastore B ha_3 ka_3 (by decide) (by decide) (show 0 ≤ v_2.toInt by omega) (show v_2.toInt < (h.2.1 a_3 : Int) by omega) dX11_joined_41 (fun q_101 eq_101 => ?_)
      have hV_q_101 : sx_V h L q_101 := by rw [eq_101]; exact hV.up1 ha_3 ka_3 trivial
      have hF_q_101 : sx_fr h L (fun a => h.1 a = 6 ∨ h.1 a = 8 ∨ h.1 a = 5 ∨ h.1 a = 2 ∨ h.1 a = 1 ∨ h.1 a = 4 ∨ a = s0 ∧ h.1 a = 7 ∨ a = sb ∧ h.1 a = 300) q q_101 := hF.tr (by rw [eq_101]; exact sx_fr.pG (show h.1 a_3 = 100 ∨ (h.1 a_3 = 6 ∨ h.1 a_3 = 8 ∨ h.1 a_3 = 5 ∨ h.1 a_3 = 2 ∨ h.1 a_3 = 1 ∨ h.1 a_3 = 4 ∨ a_3 = s0 ∧ h.1 a_3 = 7 ∨ a_3 = sb ∧ h.1 a_3 = 300) from by omega))
      have z_102 : q_101.2.2.2.1 a_3 (v_2 : Int32).toNatClampNeg = 0 := by rw [eq_101, sg_pG_e]; exact if_pos rfl
      refine wa_aload_n B dX11_joined_42 rfl 1 rfl ?_
      have z_103 : q_101.2.2.1 a0 10 = a_3 := ((show q_101.2.2.1 a0 10 = q.2.2.1 a0 10 from by rw [eq_101]; rfl)).trans (ea_3)
      refine wa_getR B (C := RX11) (T := TX11) (N := 16) iq_X11_joined_X11 ha0 ka0 (by decide) rfl 10 (by decide) (by decide) (by decide +kernel) rfl (fun _ _ _ => rfl) (v := a_3) z_103 dX11_joined_43 ?_
      refine wa_iload_n B dX11_joined_46 rfl 0 rfl ?_
      refine wa_iaload B ha_3 ka_3 (by decide) (by decide) (show 0 ≤ v_2.toInt by omega) (show v_2.toInt < (h.2.1 a_3 : Int) by omega) (v := 0) z_102 dX11_joined_47 ?_
      refine wa_iconst B (-1) dX11_joined_48 (by decide) ?_
      refine wa_icmp_ne B 135 dX11_joined_49 (by decide) (fun _ => ?_) (fun z => absurd z (by decide))
      refine wa_aload_n B dX11_joined_135 rfl 1 rfl ?_
      refine wa_getR B (C := RX11) (T := TX11) (N := 16) iq_X11_joined_X11 ha0 ka0 (by decide) rfl 10 (by decide) (by decide) (by decide +kernel) rfl (fun _ _ _ => rfl) (v := a_3) z_103 dX11_joined_136 ?_
      refine wa_iload_n B dX11_joined_139 rfl 0 rfl ?_
      refine wa_iaload B ha_3 ka_3 (by decide) (by decide) (show 0 ≤ v_2.toInt by omega) (show v_2.toInt < (h.2.1 a_3 : Int) by omega) (v := 0) z_102 dX11_joined_140 ?_
      exact hret _ _ _ _ dX11_joined_141 ⟨hV_q_101, hF_q_101⟩
set_option maxHeartbeats 4000000 in
set_option maxRecDepth 100000 in
theorem k_X11_tablet_c (l : Launch) (dC : Nat → ClassId) (dI : Nat → Nat → Nat) (h : Sh) (L : List Nat) (hN : sx_nd L) (q : Sg) (hV : sx_V h L q) {a0 : Nat} (ha0 : a0 ∈ L) (ka0 : h.1 a0 = 11) {t0 : Nat} (et0 : q.2.2.1 a0 0 = t0) {tb : Nat} (etb : q.2.2.1 t0 0 = tb) {fa : Nat} (efa : q.2.2.1 a0 9 = fa) {uu : Nat} (euu : q.2.2.1 a0 11 = uu) {o0 : Nat} (eo0 : q.2.2.1 a0 1 = o0) {ob : Nat} (eob : q.2.2.1 o0 0 = ob)    : CMi l dC dI h L yX11_tablet wsX11_tablet ({ frames := 5, cells := 0, slots := 0, locals := 121 } : Room) q [.ref a0] (fun r q' => sx_V h L q' ∧ sx_fr h L (fun a => sx_c6 h a) q q' ∧ (q'.2.2.1 a0 0 = t0 ∧ (q'.1 t0 1).toInt = 0 ∧ (q'.1 a0 14).toInt = (q.1 a0 14).toInt ∧ q'.2.2.1 a0 11 = uu ∧ q'.2.2.1 a0 12 = q.2.2.1 a0 12 ∧ (q'.2.2.1 a0 9 = fa ∧ q'.2.2.1 a0 1 = o0))) := by
  refine cm_i (cc := cX11_tablet) (mL := 3) (own := RX11) hN (by decide) rfl rfl (Nat.le_of_ble_eq_true rfl) (fun Z B hret => ?_)
  have hF : sx_fr h L (fun a => sx_c6 h a) q q := sx_fr.rf
  obtain ⟨ht0, kt0, lt0⟩ : t0 ∈ L ∧ h.1 t0 = 7 ∧ h.2.1 t0 = 1 := by obtain ⟨r9, e9, z1, z2, z3⟩ := hV.refn (t := 7) (n := 1) ha0 ka0 0 rfl (by decide) rfl (by decide); rw [← et0, e9]; exact ⟨z1, z2, z3⟩
  obtain ⟨htb, ktb, ltb⟩ : tb ∈ L ∧ h.1 tb = 300 ∧ h.2.1 tb = 440 := by obtain ⟨r9, e9, z1, z2, z3⟩ := hV.refn (t := 300) (n := 440) ht0 kt0 0 rfl (by decide) (by rw [lt0]; rfl) (by decide); rw [← etb, e9]; exact ⟨z1, z2, z3⟩
  obtain ⟨hfa, kfa, lfa⟩ : fa ∈ L ∧ h.1 fa = 403 ∧ h.2.1 fa = 12 := by obtain ⟨r9, e9, z1, z2, z3⟩ := hV.refn (t := 403) (n := 12) ha0 ka0 9 rfl (by decide) rfl (by decide); rw [← efa, e9]; exact ⟨z1, z2, z3⟩
  obtain ⟨huu, kuu⟩ : uu ∈ L ∧ h.1 uu = 9 := by obtain ⟨r9, e9, z1, z2⟩ := hV.ref (t := 9) ha0 ka0 11 rfl (by decide); rw [← euu, e9]; exact ⟨z1, z2⟩
  obtain ⟨ho0, ko0, lo0⟩ : o0 ∈ L ∧ h.1 o0 = 7 ∧ h.2.1 o0 = 2 := by obtain ⟨r9, e9, z1, z2, z3⟩ := hV.refn (t := 7) (n := 2) ha0 ka0 1 rfl (by decide) rfl (by decide); rw [← eo0, e9]; exact ⟨z1, z2, z3⟩
  have nt0_o0 : ¬ t0 = o0 := fun z9 => absurd (z9 ▸ lt0 : h.2.1 o0 = 1) (by rw [lo0]; decide)
  obtain ⟨hob, kob, lob⟩ : ob ∈ L ∧ h.1 ob = 300 ∧ h.2.1 ob = 59 := by obtain ⟨r9, e9, z1, z2, z3⟩ := hV.refn (t := 300) (n := 59) ho0 ko0 0 rfl (by decide) (by rw [lo0]; rfl) (by decide); rw [← eob, e9]; exact ⟨z1, z2, z3⟩
  show WA l dC dI h L ({ frames := 5, cells := 0, slots := 0, locals := 121 } : Room) 3 Z q 0 [(0, .ref a0)] []
  refine wa_aload_n B dX11_tablet_0 rfl 0 rfl ?_
  refine wa_getI B (C := RX11) (T := TX11) (N := 16) iq_X11_tablet_X11 ha0 ka0 (by decide) rfl 13 (by decide) (by decide) (by decide +kernel) rfl (by decide) (v := (q.1 a0 13)) rfl dX11_tablet_1 ?_
  have g_1 : (0 : Int) ≤ (q.1 a0 13).toInt ∧ (q.1 a0 13).toInt ≤ 8 := hV.int ha0 ka0 13
  refine wa_bipush B 8 dX11_tablet_4 (by decide) ?_
  refine wa_icmp_ge B 23 dX11_tablet_6 (by decide) (fun (t_2 : 8 ≤ (q.1 a0 13).toInt) => ?_) (fun (t_2 : ¬ 8 ≤ (q.1 a0 13).toInt) => ?_)
  · refine wa_iconst B 0 dX11_tablet_23 (by decide) ?_
    refine wa_istore_n B [(1, .int 0), (0, .ref a0)] dX11_tablet_24 rfl (by decide) rfl ?_
    refine wa_iload_n B dX11_tablet_25 rfl 0 rfl ?_
    refine wa_if_eq B 60 dX11_tablet_26 (by decide) (fun _ => ?_) (fun z => absurd z (by decide))
    refine wa_iconst B 0 dX11_tablet_60 (by decide) ?_
    refine wa_istore_n B [(2, .int 0), (1, .int 0), (0, .ref a0)] dX11_tablet_61 rfl (by decide) rfl ?_
    refine wa_aload_n B dX11_tablet_62 rfl 2 rfl ?_
    refine wa_getR B (C := RX11) (T := TX11) (N := 16) iq_X11_tablet_X11 ha0 ka0 (by decide) rfl 0 (by decide) (by decide) (by decide +kernel) rfl (fun _ _ _ => rfl) (v := t0) et0 dX11_tablet_63 ?_
    refine wa_callVv B (x := (RX7, TX7, 2)) (As := []) (rest := []) (k_X7_clear l dC dI h L hN q hV (a0 := t0) ht0 kt0  ) (cwV 0 B.1.2.2.2.2 gX11_tablet_X7_clear rfl rfl rfl (by decide +kernel) ⟨Nat.le_of_ble_eq_true rfl, Nat.le_of_ble_eq_true rfl⟩) ht0 kt0 (by decide) rfl rfl rfl (Nat.le_of_ble_eq_true rfl) dX11_tablet_66 (fun q_3 w_4 => ?_)
    obtain ⟨hV_q_3, h2_q_3, hw_4⟩ := w_4
    have hF_q_3 : sx_fr h L (fun a => sx_c6 h a) q q_3 := hF.tr (h2_q_3.mono (fun a (z : a = t0 ∧ h.1 a = 7) => ((fun z => (sx_c6.k7 z.2 ((congrArg h.2.1 z.1).trans lt0) (by decide))) z)))
    refine wa_iload_n B dX11_tablet_69 rfl 1 rfl ?_
    refine wa_if_ne B 77 dX11_tablet_70 (by decide) (fun z => absurd z (by decide)) (fun _ => ?_)
    refine wa_sipush B (-400) dX11_tablet_73 (by decide) ?_
    have z_5 : q_3.1 a0 14 = q.1 a0 14 := h2_q_3.I ha0 (show ¬ (a0 = t0 ∧ h.1 a0 = 7) from (fun z => absurd (z.2.symm.trans ka0) (by decide))) 14
    have y_6 : (q_3.1 a0 14).toInt = (q.1 a0 14).toInt := by rw [z_5]
    have y_7 : (q_3.1 t0 1).toInt = 0 := by rw [hw_4]; rfl
    have z_8 : q_3.2.2.1 a0 0 = t0 := (h2_q_3.R ha0 (show ¬ ((a0 = t0 ∧ h.1 a0 = 7) ∧ (h.1 a0 = 8 ∨ h.1 a0 = 11)) from fun z9 => (show ¬ (a0 = t0 ∧ h.1 a0 = 7) from (fun z => absurd (z.2.symm.trans ka0) (by decide))) z9.1) 0).trans (et0)
    have z_9 : q_3.2.2.1 a0 9 = fa := (h2_q_3.R ha0 (show ¬ ((a0 = t0 ∧ h.1 a0 = 7) ∧ (h.1 a0 = 8 ∨ h.1 a0 = 11)) from fun z9 => (show ¬ (a0 = t0 ∧ h.1 a0 = 7) from (fun z => absurd (z.2.symm.trans ka0) (by decide))) z9.1) 9).trans (efa)
    have z_10 : q_3.2.2.1 a0 11 = uu := (h2_q_3.R ha0 (show ¬ ((a0 = t0 ∧ h.1 a0 = 7) ∧ (h.1 a0 = 8 ∨ h.1 a0 = 11)) from fun z9 => (show ¬ (a0 = t0 ∧ h.1 a0 = 7) from (fun z => absurd (z.2.symm.trans ka0) (by decide))) z9.1) 11).trans (euu)
    have z_11 : q_3.2.2.1 a0 12 = q.2.2.1 a0 12 := h2_q_3.R ha0 (show ¬ ((a0 = t0 ∧ h.1 a0 = 7) ∧ (h.1 a0 = 8 ∨ h.1 a0 = 11)) from fun z9 => (show ¬ (a0 = t0 ∧ h.1 a0 = 7) from (fun z => absurd (z.2.symm.trans ka0) (by decide))) z9.1) 12
    have z_12 : q_3.2.2.1 a0 1 = o0 := (h2_q_3.R ha0 (show ¬ ((a0 = t0 ∧ h.1 a0 = 7) ∧ (h.1 a0 = 8 ∨ h.1 a0 = 11)) from fun z9 => (show ¬ (a0 = t0 ∧ h.1 a0 = 7) from (fun z => absurd (z.2.symm.trans ka0) (by decide))) z9.1) 1).trans (eo0)
    exact hret _ _ _ _ dX11_tablet_76 ⟨hV_q_3, hF_q_3, ⟨z_8, by have h9 : ((-400) : Int32).toInt = (-400) := rfl; omega, by have h9 : ((-400) : Int32).toInt = (-400) := rfl; omega, z_10, z_11, ⟨z_9, z_12⟩⟩⟩
  · refine wa_aload_n B dX11_tablet_9 rfl 0 rfl ?_
    refine wa_getR B (C := RX11) (T := TX11) (N := 16) iq_X11_tablet_X11 ha0 ka0 (by decide) rfl 11 (by decide) (by decide) (by decide +kernel) rfl (fun _ _ _ => rfl) (v := uu) euu dX11_tablet_10 ?_
    refine wa_getI B (C := RX9) (T := TX9) (N := 7) iq_X11_tablet_X9 huu kuu (by decide) rfl 6 (by decide) (by decide) (by decide +kernel) rfl (by decide) (v := (q.1 uu 6)) rfl dX11_tablet_13 ?_
    have g_13 : (0 : Int) ≤ (q.1 uu 6).toInt ∧ (q.1 uu 6).toInt ≤ 3 := hV.int huu kuu 6
    refine wa_if_le B 23 dX11_tablet_16 (by decide) (fun (t_14 : (q.1 uu 6).toInt ≤ 0) => ?_) (fun (t_14 : ¬ (q.1 uu 6).toInt ≤ 0) => ?_)
    · refine wa_iconst B 0 dX11_tablet_23 (by decide) ?_
      refine wa_istore_n B [(1, .int 0), (0, .ref a0)] dX11_tablet_24 rfl (by decide) rfl ?_
      refine wa_iload_n B dX11_tablet_25 rfl 0 rfl ?_
      refine wa_if_eq B 60 dX11_tablet_26 (by decide) (fun _ => ?_) (fun z => absurd z (by decide))
      refine wa_iconst B 0 dX11_tablet_60 (by decide) ?_
      refine wa_istore_n B [(2, .int 0), (1, .int 0), (0, .ref a0)] dX11_tablet_61 rfl (by decide) rfl ?_
      refine wa_aload_n B dX11_tablet_62 rfl 2 rfl ?_
      refine wa_getR B (C := RX11) (T := TX11) (N := 16) iq_X11_tablet_X11 ha0 ka0 (by decide) rfl 0 (by decide) (by decide) (by decide +kernel) rfl (fun _ _ _ => rfl) (v := t0) et0 dX11_tablet_63 ?_
      refine wa_callVv B (x := (RX7, TX7, 2)) (As := []) (rest := []) (k_X7_clear l dC dI h L hN q hV (a0 := t0) ht0 kt0  ) (cwV 0 B.1.2.2.2.2 gX11_tablet_X7_clear rfl rfl rfl (by decide +kernel) ⟨Nat.le_of_ble_eq_true rfl, Nat.le_of_ble_eq_true rfl⟩) ht0 kt0 (by decide) rfl rfl rfl (Nat.le_of_ble_eq_true rfl) dX11_tablet_66 (fun q_15 w_16 => ?_)
      obtain ⟨hV_q_15, h2_q_15, hw_16⟩ := w_16
      have hF_q_15 : sx_fr h L (fun a => sx_c6 h a) q q_15 := hF.tr (h2_q_15.mono (fun a (z : a = t0 ∧ h.1 a = 7) => ((fun z => (sx_c6.k7 z.2 ((congrArg h.2.1 z.1).trans lt0) (by decide))) z)))
      refine wa_iload_n B dX11_tablet_69 rfl 1 rfl ?_
      refine wa_if_ne B 77 dX11_tablet_70 (by decide) (fun z => absurd z (by decide)) (fun _ => ?_)
      refine wa_sipush B (-400) dX11_tablet_73 (by decide) ?_
      have z_17 : q_15.1 a0 14 = q.1 a0 14 := h2_q_15.I ha0 (show ¬ (a0 = t0 ∧ h.1 a0 = 7) from (fun z => absurd (z.2.symm.trans ka0) (by decide))) 14
      have y_18 : (q_15.1 a0 14).toInt = (q.1 a0 14).toInt := by rw [z_17]
      have y_19 : (q_15.1 t0 1).toInt = 0 := by rw [hw_16]; rfl
      have z_20 : q_15.2.2.1 a0 0 = t0 := (h2_q_15.R ha0 (show ¬ ((a0 = t0 ∧ h.1 a0 = 7) ∧ (h.1 a0 = 8 ∨ h.1 a0 = 11)) from fun z9 => (show ¬ (a0 = t0 ∧ h.1 a0 = 7) from (fun z => absurd (z.2.symm.trans ka0) (by decide))) z9.1) 0).trans (et0)
      have z_21 : q_15.2.2.1 a0 9 = fa := (h2_q_15.R ha0 (show ¬ ((a0 = t0 ∧ h.1 a0 = 7) ∧ (h.1 a0 = 8 ∨ h.1 a0 = 11)) from fun z9 => (show ¬ (a0 = t0 ∧ h.1 a0 = 7) from (fun z => absurd (z.2.symm.trans ka0) (by decide))) z9.1) 9).trans (efa)
      have z_22 : q_15.2.2.1 a0 11 = uu := (h2_q_15.R ha0 (show ¬ ((a0 = t0 ∧ h.1 a0 = 7) ∧ (h.1 a0 = 8 ∨ h.1 a0 = 11)) from fun z9 => (show ¬ (a0 = t0 ∧ h.1 a0 = 7) from (fun z => absurd (z.2.symm.trans ka0) (by decide))) z9.1) 11).trans (euu)
      have z_23 : q_15.2.2.1 a0 12 = q.2.2.1 a0 12 := h2_q_15.R ha0 (show ¬ ((a0 = t0 ∧ h.1 a0 = 7) ∧ (h.1 a0 = 8 ∨ h.1 a0 = 11)) from fun z9 => (show ¬ (a0 = t0 ∧ h.1 a0 = 7) from (fun z => absurd (z.2.symm.trans ka0) (by decide))) z9.1) 12
      have z_24 : q_15.2.2.1 a0 1 = o0 := (h2_q_15.R ha0 (show ¬ ((a0 = t0 ∧ h.1 a0 = 7) ∧ (h.1 a0 = 8 ∨ h.1 a0 = 11)) from fun z9 => (show ¬ (a0 = t0 ∧ h.1 a0 = 7) from (fun z => absurd (z.2.symm.trans ka0) (by decide))) z9.1) 1).trans (eo0)
      exact hret _ _ _ _ dX11_tablet_76 ⟨hV_q_15, hF_q_15, ⟨z_20, by have h9 : ((-400) : Int32).toInt = (-400) := rfl; omega, by have h9 : ((-400) : Int32).toInt = (-400) := rfl; omega, z_22, z_23, ⟨z_21, z_24⟩⟩⟩
    · refine wa_iconst B 1 dX11_tablet_19 (by decide) ?_
      refine wa_goto B 24 dX11_tablet_20 (by decide) ?_
      refine wa_istore_n B [(1, .int 1), (0, .ref a0)] dX11_tablet_24 rfl (by decide) rfl ?_
      refine wa_iload_n B dX11_tablet_25 rfl 0 rfl ?_
      refine wa_if_eq B 60 dX11_tablet_26 (by decide) (fun z => absurd z (by decide)) (fun _ => ?_)
      refine wa_aload_n B dX11_tablet_29 rfl 1 rfl ?_
      obtain ⟨a_25, ea_25, ha_25, ka_25⟩ := hV.ref (t := 6) ha0 ka0 4 rfl (by decide)
      refine wa_getR B (C := RX11) (T := TX11) (N := 16) iq_X11_tablet_X11 ha0 ka0 (by decide) rfl 4 (by decide) (by decide) (by decide +kernel) rfl (fun _ _ _ => rfl) (v := a_25) ea_25 dX11_tablet_30 ?_
      refine wa_aload_n B dX11_tablet_33 rfl 1 rfl ?_
      refine wa_getR B (C := RX11) (T := TX11) (N := 16) iq_X11_tablet_X11 ha0 ka0 (by decide) rfl 0 (by decide) (by decide) (by decide +kernel) rfl (fun _ _ _ => rfl) (v := t0) et0 dX11_tablet_34 ?_
      refine wa_aload_n B dX11_tablet_37 rfl 1 rfl ?_
      refine wa_getR B (C := RX11) (T := TX11) (N := 16) iq_X11_tablet_X11 ha0 ka0 (by decide) rfl 11 (by decide) (by decide) (by decide +kernel) rfl (fun _ _ _ => rfl) (v := uu) euu dX11_tablet_38 ?_
      refine wa_aload_n B dX11_tablet_41 rfl 1 rfl ?_
      obtain ⟨a_26, ea_26, ha_26, ka_26, la_26⟩ := hV.refn (n := 8) (t := 400) ha0 ka0 7 rfl (by decide) rfl (by decide)
      refine wa_getR B (C := RX11) (T := TX11) (N := 16) iq_X11_tablet_X11 ha0 ka0 (by decide) rfl 7 (by decide) (by decide) (by decide +kernel) rfl (fun _ _ _ => rfl) (v := a_26) ea_26 dX11_tablet_42 ?_
      refine wa_aload_n B dX11_tablet_45 rfl 1 rfl ?_
      refine wa_getI B (C := RX11) (T := TX11) (N := 16) iq_X11_tablet_X11 ha0 ka0 (by decide) rfl 13 (by decide) (by decide) (by decide +kernel) rfl (by decide) (v := (q.1 a0 13)) rfl dX11_tablet_46 ?_
      obtain ⟨a_27, ea_27, ha_27, ka_27⟩ := hV.elem (t := 5) ha_26 ka_26 (by decide) rfl (zx_ix (i := (q.1 a0 13)) (show 0 ≤ (q.1 a0 13).toInt by omega) (show (q.1 a0 13).toInt < (h.2.1 a_26 : Int) by omega))
      refine wa_aaload B (t0 := 3) ha_26 ka_26 (by decide) rfl (show 0 ≤ (q.1 a0 13).toInt by omega) (show (q.1 a0 13).toInt < (h.2.1 a_26 : Int) by omega) (v := a_27) ea_27 dX11_tablet_49 ?_
      refine wa_callVi B (x := (RX6, TX6, 8)) (As := [.ref t0, .ref uu, .ref a_27]) (rest := []) (k_X6_read l dC dI h L hN q hV (a0 := a_25) ha_25 ka_25 (a1 := t0) ht0 kt0 (a2 := uu) huu kuu (a3 := a_27) ha_27 ka_27  ) (cwV 3 B.1.2.2.2.2 gX11_tablet_X6_read rfl rfl rfl (by decide +kernel) ⟨Nat.le_of_ble_eq_true rfl, Nat.le_of_ble_eq_true rfl⟩) ha_25 ka_25 (by decide) rfl rfl rfl (Nat.le_of_ble_eq_true rfl) dX11_tablet_50 (fun r_29 q_28 w_30 => ?_)
      obtain ⟨hV_q_28, h2_q_28, hw_30⟩ := w_30
      have hF_q_28 : sx_fr h L (fun a => sx_c6 h a) q q_28 := hF.tr (h2_q_28.mono (fun a (z : h.1 a = 6 ∨ h.1 a = 8 ∨ h.1 a = 5 ∨ h.1 a = 2 ∨ h.1 a = 1) => ((fun z => z.elim (fun z => (sx_c6.k z (by decide))) (fun z => z.elim (fun z => (sx_c6.k z (by decide))) (fun z => z.elim (fun z => (sx_c6.k z (by decide))) (fun z => z.elim (fun z => (sx_c6.k z (by decide))) (fun z => (sx_c6.k z (by decide))))))) z)))
      refine wa_if_eq B 60 dX11_tablet_53 (by decide) (fun (t_31 : r_29.toInt = 0) => ?_) (fun (t_31 : ¬ r_29.toInt = 0) => ?_)
      · refine wa_iconst B 0 dX11_tablet_60 (by decide) ?_
        refine wa_istore_n B [(2, .int 0), (1, .int 1), (0, .ref a0)] dX11_tablet_61 rfl (by decide) rfl ?_
        refine wa_aload_n B dX11_tablet_62 rfl 2 rfl ?_
        have z_32 : q_28.2.2.1 a0 0 = t0 := (h2_q_28.R ha0 (show ¬ ((h.1 a0 = 6 ∨ h.1 a0 = 8 ∨ h.1 a0 = 5 ∨ h.1 a0 = 2 ∨ h.1 a0 = 1) ∧ (h.1 a0 = 8 ∨ h.1 a0 = 11)) from fun z9 => (show ¬ (h.1 a0 = 6 ∨ h.1 a0 = 8 ∨ h.1 a0 = 5 ∨ h.1 a0 = 2 ∨ h.1 a0 = 1) from (fun z => z.elim (fun z => absurd (z.symm.trans ka0) (by decide)) (fun z => z.elim (fun z => absurd (z.symm.trans ka0) (by decide)) (fun z => z.elim (fun z => absurd (z.symm.trans ka0) (by decide)) (fun z => z.elim (fun z => absurd (z.symm.trans ka0) (by decide)) (fun z => absurd (z.symm.trans ka0) (by decide))))))) z9.1) 0).trans (et0)
        refine wa_getR B (C := RX11) (T := TX11) (N := 16) iq_X11_tablet_X11 ha0 ka0 (by decide) rfl 0 (by decide) (by decide) (by decide +kernel) rfl (fun _ _ _ => rfl) (v := t0) z_32 dX11_tablet_63 ?_
        refine wa_callVv B (x := (RX7, TX7, 2)) (As := []) (rest := []) (k_X7_clear l dC dI h L hN q_28 hV_q_28 (a0 := t0) ht0 kt0  ) (cwV 0 B.1.2.2.2.2 gX11_tablet_X7_clear rfl rfl rfl (by decide +kernel) ⟨Nat.le_of_ble_eq_true rfl, Nat.le_of_ble_eq_true rfl⟩) ht0 kt0 (by decide) rfl rfl rfl (Nat.le_of_ble_eq_true rfl) dX11_tablet_66 (fun q_33 w_34 => ?_)
        obtain ⟨hV_q_33, h2_q_33, hw_34⟩ := w_34
        have hF_q_33 : sx_fr h L (fun a => sx_c6 h a) q q_33 := hF_q_28.tr (h2_q_33.mono (fun a (z : a = t0 ∧ h.1 a = 7) => ((fun z => (sx_c6.k7 z.2 ((congrArg h.2.1 z.1).trans lt0) (by decide))) z)))
        refine wa_iload_n B dX11_tablet_69 rfl 1 rfl ?_
        refine wa_if_ne B 77 dX11_tablet_70 (by decide) (fun _ => ?_) (fun z => absurd z (by decide))
        refine wa_aload_n B dX11_tablet_77 rfl 2 rfl ?_
        refine wa_aload_n B dX11_tablet_78 rfl 2 rfl ?_
        have z_35 : q_33.2.2.1 a0 4 = a_25 := (h2_q_33.R ha0 (show ¬ ((a0 = t0 ∧ h.1 a0 = 7) ∧ (h.1 a0 = 8 ∨ h.1 a0 = 11)) from fun z9 => (show ¬ (a0 = t0 ∧ h.1 a0 = 7) from (fun z => absurd (z.2.symm.trans ka0) (by decide))) z9.1) 4).trans ((h2_q_28.R ha0 (show ¬ ((h.1 a0 = 6 ∨ h.1 a0 = 8 ∨ h.1 a0 = 5 ∨ h.1 a0 = 2 ∨ h.1 a0 = 1) ∧ (h.1 a0 = 8 ∨ h.1 a0 = 11)) from fun z9 => (show ¬ (h.1 a0 = 6 ∨ h.1 a0 = 8 ∨ h.1 a0 = 5 ∨ h.1 a0 = 2 ∨ h.1 a0 = 1) from (fun z => z.elim (fun z => absurd (z.symm.trans ka0) (by decide)) (fun z => z.elim (fun z => absurd (z.symm.trans ka0) (by decide)) (fun z => z.elim (fun z => absurd (z.symm.trans ka0) (by decide)) (fun z => z.elim (fun z => absurd (z.symm.trans ka0) (by decide)) (fun z => absurd (z.symm.trans ka0) (by decide))))))) z9.1) 4).trans (ea_25))
        refine wa_getR B (C := RX11) (T := TX11) (N := 16) iq_X11_tablet_X11 ha0 ka0 (by decide) rfl 4 (by decide) (by decide) (by decide +kernel) rfl (fun _ _ _ => rfl) (v := a_25) z_35 dX11_tablet_79 ?_
        obtain ⟨a_36, ea_36, ha_36, ka_36⟩ := hV_q_33.ref (t := 8) ha_25 ka_25 0 rfl (by decide)
        refine wa_getR B (C := RX6) (T := TX6) (N := 8) iq_X11_tablet_X6 ha_25 ka_25 (by decide) rfl 0 (by decide) (by decide) (by decide +kernel) rfl (fun _ _ _ => rfl) (v := a_36) ea_36 dX11_tablet_82 ?_
        refine wa_getI B (C := RX8) (T := TX8) (N := 11) iq_X11_tablet_X8 ha_36 ka_36 (by decide) rfl 5 (by decide) (by decide) (by decide +kernel) rfl (by decide) (v := (q_33.1 a_36 5)) rfl dX11_tablet_85 ?_
        refine wa_putI B (C := RX11) (T := TX11) (N := 16) iq_X11_tablet_X11 ha0 ka0 (by decide) rfl 15 (by decide) (by decide) (by decide +kernel) rfl (by decide) (v := (q_33.1 a_36 5)) (ty := .int) tyX11 tyX11_ok nmX11 rfl (by decide +kernel) rfl rfl dX11_tablet_88 (fun q_37 eq_37 => ?_)
        have hV_q_37 : sx_V h L q_37 := by rw [eq_37]; exact hV_q_33.pI ka0 trivial
        have hF_q_37 : sx_fr h L (fun a => sx_c6 h a) q q_37 := hF_q_33.tr (by rw [eq_37]; exact sx_fr.pI (show sx_c6 h a0 from (sx_c6.k ka0 (by decide))))
        have z_38 : q_37.1 a0 15 = (q_33.1 a_36 5) := by rw [eq_37]; exact sg_pI_e
        refine wa_iload_n B dX11_tablet_91 rfl 0 rfl ?_
        refine wa_if_ne B 108 dX11_tablet_92 (by decide) (fun z => absurd z (by decide)) (fun _ => ?_)
        refine wa_iconst B (-1) dX11_tablet_95 (by decide) ?_
        refine wa_aload_n B dX11_tablet_96 rfl 2 rfl ?_
        have z_39 : q_37.2.2.1 a0 4 = a_25 := ((show q_37.2.2.1 a0 4 = q_33.2.2.1 a0 4 from by rw [eq_37]; rfl)).trans (z_35)
        refine wa_getR B (C := RX11) (T := TX11) (N := 16) iq_X11_tablet_X11 ha0 ka0 (by decide) rfl 4 (by decide) (by decide) (by decide +kernel) rfl (fun _ _ _ => rfl) (v := a_25) z_39 dX11_tablet_97 ?_
        have z_40 : q_37.2.2.1 a_25 0 = a_36 := ((show q_37.2.2.1 a_25 0 = q_33.2.2.1 a_25 0 from by rw [eq_37]; rfl)).trans (ea_36)
        refine wa_getR B (C := RX6) (T := TX6) (N := 8) iq_X11_tablet_X6 ha_25 ka_25 (by decide) rfl 0 (by decide) (by decide) (by decide +kernel) rfl (fun _ _ _ => rfl) (v := a_36) z_40 dX11_tablet_100 ?_
        refine wa_getI B (C := RX8) (T := TX8) (N := 11) iq_X11_tablet_X8 ha_36 ka_36 (by decide) rfl 6 (by decide) (by decide) (by decide +kernel) rfl (by decide) (v := (q_37.1 a_36 6)) rfl dX11_tablet_103 ?_
        refine wa_isub B dX11_tablet_106 (fun v_41 ev_41 => ?_)
        have tv_41 : v_41.toInt = (-1) - (q_37.1 a_36 6).toInt := by have b1 := zx_bd (q_37.1 a_36 6); rw [ev_41]; exact zx_sub (show (-2147483648 : Int) ≤ (-1) - (q_37.1 a_36 6).toInt by omega) (show (-1) - (q_37.1 a_36 6).toInt < (2147483648 : Int) by omega)
        have z_42 : q_37.1 a0 14 = q.1 a0 14 := ((show q_37.1 a0 14 = q_33.1 a0 14 from by rw [eq_37]; exact sg_pI_k (by decide))).trans ((h2_q_33.I ha0 (show ¬ (a0 = t0 ∧ h.1 a0 = 7) from (fun z => absurd (z.2.symm.trans ka0) (by decide))) 14).trans (h2_q_28.I ha0 (show ¬ (h.1 a0 = 6 ∨ h.1 a0 = 8 ∨ h.1 a0 = 5 ∨ h.1 a0 = 2 ∨ h.1 a0 = 1) from (fun z => z.elim (fun z => absurd (z.symm.trans ka0) (by decide)) (fun z => z.elim (fun z => absurd (z.symm.trans ka0) (by decide)) (fun z => z.elim (fun z => absurd (z.symm.trans ka0) (by decide)) (fun z => z.elim (fun z => absurd (z.symm.trans ka0) (by decide)) (fun z => absurd (z.symm.trans ka0) (by decide))))))) 14))
        have y_43 : (q_37.1 a0 14).toInt = (q.1 a0 14).toInt := by rw [z_42]
        have z_44 : q_37.1 t0 1 = 0 := ((show q_37.1 t0 1 = q_33.1 t0 1 from by rw [eq_37]; exact sg_pI_k (by decide))).trans (hw_34)
        have y_45 : (q_37.1 t0 1).toInt = 0 := by rw [z_44]; rfl
        have z_46 : q_37.2.2.1 a0 0 = t0 := ((show q_37.2.2.1 a0 0 = q_33.2.2.1 a0 0 from by rw [eq_37]; rfl)).trans ((h2_q_33.R ha0 (show ¬ ((a0 = t0 ∧ h.1 a0 = 7) ∧ (h.1 a0 = 8 ∨ h.1 a0 = 11)) from fun z9 => (show ¬ (a0 = t0 ∧ h.1 a0 = 7) from (fun z => absurd (z.2.symm.trans ka0) (by decide))) z9.1) 0).trans (z_32))
        have z_47 : q_37.2.2.1 a0 9 = fa := ((show q_37.2.2.1 a0 9 = q_33.2.2.1 a0 9 from by rw [eq_37]; rfl)).trans ((h2_q_33.R ha0 (show ¬ ((a0 = t0 ∧ h.1 a0 = 7) ∧ (h.1 a0 = 8 ∨ h.1 a0 = 11)) from fun z9 => (show ¬ (a0 = t0 ∧ h.1 a0 = 7) from (fun z => absurd (z.2.symm.trans ka0) (by decide))) z9.1) 9).trans ((h2_q_28.R ha0 (show ¬ ((h.1 a0 = 6 ∨ h.1 a0 = 8 ∨ h.1 a0 = 5 ∨ h.1 a0 = 2 ∨ h.1 a0 = 1) ∧ (h.1 a0 = 8 ∨ h.1 a0 = 11)) from fun z9 => (show ¬ (h.1 a0 = 6 ∨ h.1 a0 = 8 ∨ h.1 a0 = 5 ∨ h.1 a0 = 2 ∨ h.1 a0 = 1) from (fun z => z.elim (fun z => absurd (z.symm.trans ka0) (by decide)) (fun z => z.elim (fun z => absurd (z.symm.trans ka0) (by decide)) (fun z => z.elim (fun z => absurd (z.symm.trans ka0) (by decide)) (fun z => z.elim (fun z => absurd (z.symm.trans ka0) (by decide)) (fun z => absurd (z.symm.trans ka0) (by decide))))))) z9.1) 9).trans (efa)))
        have z_48 : q_37.2.2.1 a0 11 = uu := ((show q_37.2.2.1 a0 11 = q_33.2.2.1 a0 11 from by rw [eq_37]; rfl)).trans ((h2_q_33.R ha0 (show ¬ ((a0 = t0 ∧ h.1 a0 = 7) ∧ (h.1 a0 = 8 ∨ h.1 a0 = 11)) from fun z9 => (show ¬ (a0 = t0 ∧ h.1 a0 = 7) from (fun z => absurd (z.2.symm.trans ka0) (by decide))) z9.1) 11).trans ((h2_q_28.R ha0 (show ¬ ((h.1 a0 = 6 ∨ h.1 a0 = 8 ∨ h.1 a0 = 5 ∨ h.1 a0 = 2 ∨ h.1 a0 = 1) ∧ (h.1 a0 = 8 ∨ h.1 a0 = 11)) from fun z9 => (show ¬ (h.1 a0 = 6 ∨ h.1 a0 = 8 ∨ h.1 a0 = 5 ∨ h.1 a0 = 2 ∨ h.1 a0 = 1) from (fun z => z.elim (fun z => absurd (z.symm.trans ka0) (by decide)) (fun z => z.elim (fun z => absurd (z.symm.trans ka0) (by decide)) (fun z => z.elim (fun z => absurd (z.symm.trans ka0) (by decide)) (fun z => z.elim (fun z => absurd (z.symm.trans ka0) (by decide)) (fun z => absurd (z.symm.trans ka0) (by decide))))))) z9.1) 11).trans (euu)))
        have z_49 : q_37.2.2.1 a0 12 = q.2.2.1 a0 12 := ((show q_37.2.2.1 a0 12 = q_33.2.2.1 a0 12 from by rw [eq_37]; rfl)).trans ((h2_q_33.R ha0 (show ¬ ((a0 = t0 ∧ h.1 a0 = 7) ∧ (h.1 a0 = 8 ∨ h.1 a0 = 11)) from fun z9 => (show ¬ (a0 = t0 ∧ h.1 a0 = 7) from (fun z => absurd (z.2.symm.trans ka0) (by decide))) z9.1) 12).trans (h2_q_28.R ha0 (show ¬ ((h.1 a0 = 6 ∨ h.1 a0 = 8 ∨ h.1 a0 = 5 ∨ h.1 a0 = 2 ∨ h.1 a0 = 1) ∧ (h.1 a0 = 8 ∨ h.1 a0 = 11)) from fun z9 => (show ¬ (h.1 a0 = 6 ∨ h.1 a0 = 8 ∨ h.1 a0 = 5 ∨ h.1 a0 = 2 ∨ h.1 a0 = 1) from (fun z => z.elim (fun z => absurd (z.symm.trans ka0) (by decide)) (fun z => z.elim (fun z => absurd (z.symm.trans ka0) (by decide)) (fun z => z.elim (fun z => absurd (z.symm.trans ka0) (by decide)) (fun z => z.elim (fun z => absurd (z.symm.trans ka0) (by decide)) (fun z => absurd (z.symm.trans ka0) (by decide))))))) z9.1) 12))
        have z_50 : q_37.2.2.1 a0 1 = o0 := ((show q_37.2.2.1 a0 1 = q_33.2.2.1 a0 1 from by rw [eq_37]; rfl)).trans ((h2_q_33.R ha0 (show ¬ ((a0 = t0 ∧ h.1 a0 = 7) ∧ (h.1 a0 = 8 ∨ h.1 a0 = 11)) from fun z9 => (show ¬ (a0 = t0 ∧ h.1 a0 = 7) from (fun z => absurd (z.2.symm.trans ka0) (by decide))) z9.1) 1).trans ((h2_q_28.R ha0 (show ¬ ((h.1 a0 = 6 ∨ h.1 a0 = 8 ∨ h.1 a0 = 5 ∨ h.1 a0 = 2 ∨ h.1 a0 = 1) ∧ (h.1 a0 = 8 ∨ h.1 a0 = 11)) from fun z9 => (show ¬ (h.1 a0 = 6 ∨ h.1 a0 = 8 ∨ h.1 a0 = 5 ∨ h.1 a0 = 2 ∨ h.1 a0 = 1) from (fun z => z.elim (fun z => absurd (z.symm.trans ka0) (by decide)) (fun z => z.elim (fun z => absurd (z.symm.trans ka0) (by decide)) (fun z => z.elim (fun z => absurd (z.symm.trans ka0) (by decide)) (fun z => z.elim (fun z => absurd (z.symm.trans ka0) (by decide)) (fun z => absurd (z.symm.trans ka0) (by decide))))))) z9.1) 1).trans (eo0)))
        exact hret _ _ _ _ dX11_tablet_107 ⟨hV_q_37, hF_q_37, ⟨z_46, by omega, by omega, z_48, z_49, ⟨z_47, z_50⟩⟩⟩
      · refine wa_iconst B 1 dX11_tablet_56 (by decide) ?_
        refine wa_goto B 61 dX11_tablet_57 (by decide) ?_
        refine wa_istore_n B [(2, .int 1), (1, .int 1), (0, .ref a0)] dX11_tablet_61 rfl (by decide) rfl ?_
        refine wa_aload_n B dX11_tablet_62 rfl 2 rfl ?_
        have z_51 : q_28.2.2.1 a0 0 = t0 := (h2_q_28.R ha0 (show ¬ ((h.1 a0 = 6 ∨ h.1 a0 = 8 ∨ h.1 a0 = 5 ∨ h.1 a0 = 2 ∨ h.1 a0 = 1) ∧ (h.1 a0 = 8 ∨ h.1 a0 = 11)) from fun z9 => (show ¬ (h.1 a0 = 6 ∨ h.1 a0 = 8 ∨ h.1 a0 = 5 ∨ h.1 a0 = 2 ∨ h.1 a0 = 1) from (fun z => z.elim (fun z => absurd (z.symm.trans ka0) (by decide)) (fun z => z.elim (fun z => absurd (z.symm.trans ka0) (by decide)) (fun z => z.elim (fun z => absurd (z.symm.trans ka0) (by decide)) (fun z => z.elim (fun z => absurd (z.symm.trans ka0) (by decide)) (fun z => absurd (z.symm.trans ka0) (by decide))))))) z9.1) 0).trans (et0)
        refine wa_getR B (C := RX11) (T := TX11) (N := 16) iq_X11_tablet_X11 ha0 ka0 (by decide) rfl 0 (by decide) (by decide) (by decide +kernel) rfl (fun _ _ _ => rfl) (v := t0) z_51 dX11_tablet_63 ?_
        refine wa_callVv B (x := (RX7, TX7, 2)) (As := []) (rest := []) (k_X7_clear l dC dI h L hN q_28 hV_q_28 (a0 := t0) ht0 kt0  ) (cwV 0 B.1.2.2.2.2 gX11_tablet_X7_clear rfl rfl rfl (by decide +kernel) ⟨Nat.le_of_ble_eq_true rfl, Nat.le_of_ble_eq_true rfl⟩) ht0 kt0 (by decide) rfl rfl rfl (Nat.le_of_ble_eq_true rfl) dX11_tablet_66 (fun q_52 w_53 => ?_)
        obtain ⟨hV_q_52, h2_q_52, hw_53⟩ := w_53
        have hF_q_52 : sx_fr h L (fun a => sx_c6 h a) q q_52 := hF_q_28.tr (h2_q_52.mono (fun a (z : a = t0 ∧ h.1 a = 7) => ((fun z => (sx_c6.k7 z.2 ((congrArg h.2.1 z.1).trans lt0) (by decide))) z)))
        refine wa_iload_n B dX11_tablet_69 rfl 1 rfl ?_
        refine wa_if_ne B 77 dX11_tablet_70 (by decide) (fun _ => ?_) (fun z => absurd z (by decide))
        refine wa_aload_n B dX11_tablet_77 rfl 2 rfl ?_
        refine wa_aload_n B dX11_tablet_78 rfl 2 rfl ?_
        have z_54 : q_52.2.2.1 a0 4 = a_25 := (h2_q_52.R ha0 (show ¬ ((a0 = t0 ∧ h.1 a0 = 7) ∧ (h.1 a0 = 8 ∨ h.1 a0 = 11)) from fun z9 => (show ¬ (a0 = t0 ∧ h.1 a0 = 7) from (fun z => absurd (z.2.symm.trans ka0) (by decide))) z9.1) 4).trans ((h2_q_28.R ha0 (show ¬ ((h.1 a0 = 6 ∨ h.1 a0 = 8 ∨ h.1 a0 = 5 ∨ h.1 a0 = 2 ∨ h.1 a0 = 1) ∧ (h.1 a0 = 8 ∨ h.1 a0 = 11)) from fun z9 => (show ¬ (h.1 a0 = 6 ∨ h.1 a0 = 8 ∨ h.1 a0 = 5 ∨ h.1 a0 = 2 ∨ h.1 a0 = 1) from (fun z => z.elim (fun z => absurd (z.symm.trans ka0) (by decide)) (fun z => z.elim (fun z => absurd (z.symm.trans ka0) (by decide)) (fun z => z.elim (fun z => absurd (z.symm.trans ka0) (by decide)) (fun z => z.elim (fun z => absurd (z.symm.trans ka0) (by decide)) (fun z => absurd (z.symm.trans ka0) (by decide))))))) z9.1) 4).trans (ea_25))
        refine wa_getR B (C := RX11) (T := TX11) (N := 16) iq_X11_tablet_X11 ha0 ka0 (by decide) rfl 4 (by decide) (by decide) (by decide +kernel) rfl (fun _ _ _ => rfl) (v := a_25) z_54 dX11_tablet_79 ?_
        obtain ⟨a_55, ea_55, ha_55, ka_55⟩ := hV_q_52.ref (t := 8) ha_25 ka_25 0 rfl (by decide)
        refine wa_getR B (C := RX6) (T := TX6) (N := 8) iq_X11_tablet_X6 ha_25 ka_25 (by decide) rfl 0 (by decide) (by decide) (by decide +kernel) rfl (fun _ _ _ => rfl) (v := a_55) ea_55 dX11_tablet_82 ?_
        refine wa_getI B (C := RX8) (T := TX8) (N := 11) iq_X11_tablet_X8 ha_55 ka_55 (by decide) rfl 5 (by decide) (by decide) (by decide +kernel) rfl (by decide) (v := (q_52.1 a_55 5)) rfl dX11_tablet_85 ?_
        refine wa_putI B (C := RX11) (T := TX11) (N := 16) iq_X11_tablet_X11 ha0 ka0 (by decide) rfl 15 (by decide) (by decide) (by decide +kernel) rfl (by decide) (v := (q_52.1 a_55 5)) (ty := .int) tyX11 tyX11_ok nmX11 rfl (by decide +kernel) rfl rfl dX11_tablet_88 (fun q_56 eq_56 => ?_)
        have hV_q_56 : sx_V h L q_56 := by rw [eq_56]; exact hV_q_52.pI ka0 trivial
        have hF_q_56 : sx_fr h L (fun a => sx_c6 h a) q q_56 := hF_q_52.tr (by rw [eq_56]; exact sx_fr.pI (show sx_c6 h a0 from (sx_c6.k ka0 (by decide))))
        have z_57 : q_56.1 a0 15 = (q_52.1 a_55 5) := by rw [eq_56]; exact sg_pI_e
        refine wa_iload_n B dX11_tablet_91 rfl 0 rfl ?_
        refine wa_if_ne B 108 dX11_tablet_92 (by decide) (fun _ => ?_) (fun z => absurd z (by decide))
        refine wa_aload_n B dX11_tablet_108 rfl 2 rfl ?_
        refine wa_dup B dX11_tablet_109 rfl ?_
        have z_58 : q_56.1 a0 13 = q.1 a0 13 := ((show q_56.1 a0 13 = q_52.1 a0 13 from by rw [eq_56]; exact sg_pI_k (by decide))).trans ((h2_q_52.I ha0 (show ¬ (a0 = t0 ∧ h.1 a0 = 7) from (fun z => absurd (z.2.symm.trans ka0) (by decide))) 13).trans (h2_q_28.I ha0 (show ¬ (h.1 a0 = 6 ∨ h.1 a0 = 8 ∨ h.1 a0 = 5 ∨ h.1 a0 = 2 ∨ h.1 a0 = 1) from (fun z => z.elim (fun z => absurd (z.symm.trans ka0) (by decide)) (fun z => z.elim (fun z => absurd (z.symm.trans ka0) (by decide)) (fun z => z.elim (fun z => absurd (z.symm.trans ka0) (by decide)) (fun z => z.elim (fun z => absurd (z.symm.trans ka0) (by decide)) (fun z => absurd (z.symm.trans ka0) (by decide))))))) 13))
        refine wa_getI B (C := RX11) (T := TX11) (N := 16) iq_X11_tablet_X11 ha0 ka0 (by decide) rfl 13 (by decide) (by decide) (by decide +kernel) rfl (by decide) (v := (q.1 a0 13)) z_58 dX11_tablet_110 ?_
        refine wa_iconst B 1 dX11_tablet_113 (by decide) ?_
        refine wa_iadd B dX11_tablet_114 (fun v_59 ev_59 => ?_)
        have tv_59 : v_59.toInt = (q.1 a0 13).toInt + 1 := by have b0 := zx_bd (q.1 a0 13); rw [ev_59]; exact zx_add (show (-2147483648 : Int) ≤ (q.1 a0 13).toInt + 1 by omega) (show (q.1 a0 13).toInt + 1 < (2147483648 : Int) by omega)
        refine wa_putI B (C := RX11) (T := TX11) (N := 16) iq_X11_tablet_X11 ha0 ka0 (by decide) rfl 13 (by decide) (by decide) (by decide +kernel) rfl (by decide) (v := v_59) (ty := .int) tyX11 tyX11_ok nmX11 rfl (by decide +kernel) rfl rfl dX11_tablet_115 (fun q_60 eq_60 => ?_)
        have hV_q_60 : sx_V h L q_60 := by rw [eq_60]; exact hV_q_56.pI ka0 (show sx_in v_59 (0) 8 from ⟨by omega, by omega⟩)
        have hF_q_60 : sx_fr h L (fun a => sx_c6 h a) q q_60 := hF_q_56.tr (by rw [eq_60]; exact sx_fr.pI (show sx_c6 h a0 from (sx_c6.k ka0 (by decide))))
        have z_61 : q_60.1 a0 13 = v_59 := by rw [eq_60]; exact sg_pI_e
        refine wa_aload_n B dX11_tablet_118 rfl 2 rfl ?_
        refine wa_getI B (C := RX11) (T := TX11) (N := 16) iq_X11_tablet_X11 ha0 ka0 (by decide) rfl 13 (by decide) (by decide) (by decide +kernel) rfl (by decide) (v := v_59) z_61 dX11_tablet_119 ?_
        have g_62 : (0 : Int) ≤ v_59.toInt ∧ v_59.toInt ≤ 8 := by rw [← z_61]; exact hV_q_60.int ha0 ka0 13
        refine wa_iconst B 1 dX11_tablet_122 (by decide) ?_
        refine wa_isub B dX11_tablet_123 (fun v_63 ev_63 => ?_)
        have tv_63 : v_63.toInt = v_59.toInt - 1 := by have b0 := zx_bd v_59; rw [ev_63]; exact zx_sub (show (-2147483648 : Int) ≤ v_59.toInt - 1 by omega) (show v_59.toInt - 1 < (2147483648 : Int) by omega)
        have z_64 : q_60.1 a0 14 = q.1 a0 14 := ((show q_60.1 a0 14 = q_56.1 a0 14 from by rw [eq_60]; exact sg_pI_k (by decide))).trans (((show q_56.1 a0 14 = q_52.1 a0 14 from by rw [eq_56]; exact sg_pI_k (by decide))).trans ((h2_q_52.I ha0 (show ¬ (a0 = t0 ∧ h.1 a0 = 7) from (fun z => absurd (z.2.symm.trans ka0) (by decide))) 14).trans (h2_q_28.I ha0 (show ¬ (h.1 a0 = 6 ∨ h.1 a0 = 8 ∨ h.1 a0 = 5 ∨ h.1 a0 = 2 ∨ h.1 a0 = 1) from (fun z => z.elim (fun z => absurd (z.symm.trans ka0) (by decide)) (fun z => z.elim (fun z => absurd (z.symm.trans ka0) (by decide)) (fun z => z.elim (fun z => absurd (z.symm.trans ka0) (by decide)) (fun z => z.elim (fun z => absurd (z.symm.trans ka0) (by decide)) (fun z => absurd (z.symm.trans ka0) (by decide))))))) 14)))
        have y_65 : (q_60.1 a0 14).toInt = (q.1 a0 14).toInt := by rw [z_64]
        have z_66 : q_60.1 t0 1 = 0 := ((show q_60.1 t0 1 = q_56.1 t0 1 from by rw [eq_60]; exact sg_pI_k (by decide))).trans (((show q_56.1 t0 1 = q_52.1 t0 1 from by rw [eq_56]; exact sg_pI_k (by decide))).trans (hw_53))
        have y_67 : (q_60.1 t0 1).toInt = 0 := by rw [z_66]; rfl
        have z_68 : q_60.2.2.1 a0 0 = t0 := ((show q_60.2.2.1 a0 0 = q_56.2.2.1 a0 0 from by rw [eq_60]; rfl)).trans (((show q_56.2.2.1 a0 0 = q_52.2.2.1 a0 0 from by rw [eq_56]; rfl)).trans ((h2_q_52.R ha0 (show ¬ ((a0 = t0 ∧ h.1 a0 = 7) ∧ (h.1 a0 = 8 ∨ h.1 a0 = 11)) from fun z9 => (show ¬ (a0 = t0 ∧ h.1 a0 = 7) from (fun z => absurd (z.2.symm.trans ka0) (by decide))) z9.1) 0).trans (z_51)))
        have z_69 : q_60.2.2.1 a0 9 = fa := ((show q_60.2.2.1 a0 9 = q_56.2.2.1 a0 9 from by rw [eq_60]; rfl)).trans (((show q_56.2.2.1 a0 9 = q_52.2.2.1 a0 9 from by rw [eq_56]; rfl)).trans ((h2_q_52.R ha0 (show ¬ ((a0 = t0 ∧ h.1 a0 = 7) ∧ (h.1 a0 = 8 ∨ h.1 a0 = 11)) from fun z9 => (show ¬ (a0 = t0 ∧ h.1 a0 = 7) from (fun z => absurd (z.2.symm.trans ka0) (by decide))) z9.1) 9).trans ((h2_q_28.R ha0 (show ¬ ((h.1 a0 = 6 ∨ h.1 a0 = 8 ∨ h.1 a0 = 5 ∨ h.1 a0 = 2 ∨ h.1 a0 = 1) ∧ (h.1 a0 = 8 ∨ h.1 a0 = 11)) from fun z9 => (show ¬ (h.1 a0 = 6 ∨ h.1 a0 = 8 ∨ h.1 a0 = 5 ∨ h.1 a0 = 2 ∨ h.1 a0 = 1) from (fun z => z.elim (fun z => absurd (z.symm.trans ka0) (by decide)) (fun z => z.elim (fun z => absurd (z.symm.trans ka0) (by decide)) (fun z => z.elim (fun z => absurd (z.symm.trans ka0) (by decide)) (fun z => z.elim (fun z => absurd (z.symm.trans ka0) (by decide)) (fun z => absurd (z.symm.trans ka0) (by decide))))))) z9.1) 9).trans (efa))))
        have z_70 : q_60.2.2.1 a0 11 = uu := ((show q_60.2.2.1 a0 11 = q_56.2.2.1 a0 11 from by rw [eq_60]; rfl)).trans (((show q_56.2.2.1 a0 11 = q_52.2.2.1 a0 11 from by rw [eq_56]; rfl)).trans ((h2_q_52.R ha0 (show ¬ ((a0 = t0 ∧ h.1 a0 = 7) ∧ (h.1 a0 = 8 ∨ h.1 a0 = 11)) from fun z9 => (show ¬ (a0 = t0 ∧ h.1 a0 = 7) from (fun z => absurd (z.2.symm.trans ka0) (by decide))) z9.1) 11).trans ((h2_q_28.R ha0 (show ¬ ((h.1 a0 = 6 ∨ h.1 a0 = 8 ∨ h.1 a0 = 5 ∨ h.1 a0 = 2 ∨ h.1 a0 = 1) ∧ (h.1 a0 = 8 ∨ h.1 a0 = 11)) from fun z9 => (show ¬ (h.1 a0 = 6 ∨ h.1 a0 = 8 ∨ h.1 a0 = 5 ∨ h.1 a0 = 2 ∨ h.1 a0 = 1) from (fun z => z.elim (fun z => absurd (z.symm.trans ka0) (by decide)) (fun z => z.elim (fun z => absurd (z.symm.trans ka0) (by decide)) (fun z => z.elim (fun z => absurd (z.symm.trans ka0) (by decide)) (fun z => z.elim (fun z => absurd (z.symm.trans ka0) (by decide)) (fun z => absurd (z.symm.trans ka0) (by decide))))))) z9.1) 11).trans (euu))))
        have z_71 : q_60.2.2.1 a0 12 = q.2.2.1 a0 12 := ((show q_60.2.2.1 a0 12 = q_56.2.2.1 a0 12 from by rw [eq_60]; rfl)).trans (((show q_56.2.2.1 a0 12 = q_52.2.2.1 a0 12 from by rw [eq_56]; rfl)).trans ((h2_q_52.R ha0 (show ¬ ((a0 = t0 ∧ h.1 a0 = 7) ∧ (h.1 a0 = 8 ∨ h.1 a0 = 11)) from fun z9 => (show ¬ (a0 = t0 ∧ h.1 a0 = 7) from (fun z => absurd (z.2.symm.trans ka0) (by decide))) z9.1) 12).trans (h2_q_28.R ha0 (show ¬ ((h.1 a0 = 6 ∨ h.1 a0 = 8 ∨ h.1 a0 = 5 ∨ h.1 a0 = 2 ∨ h.1 a0 = 1) ∧ (h.1 a0 = 8 ∨ h.1 a0 = 11)) from fun z9 => (show ¬ (h.1 a0 = 6 ∨ h.1 a0 = 8 ∨ h.1 a0 = 5 ∨ h.1 a0 = 2 ∨ h.1 a0 = 1) from (fun z => z.elim (fun z => absurd (z.symm.trans ka0) (by decide)) (fun z => z.elim (fun z => absurd (z.symm.trans ka0) (by decide)) (fun z => z.elim (fun z => absurd (z.symm.trans ka0) (by decide)) (fun z => z.elim (fun z => absurd (z.symm.trans ka0) (by decide)) (fun z => absurd (z.symm.trans ka0) (by decide))))))) z9.1) 12)))
        have z_72 : q_60.2.2.1 a0 1 = o0 := ((show q_60.2.2.1 a0 1 = q_56.2.2.1 a0 1 from by rw [eq_60]; rfl)).trans (((show q_56.2.2.1 a0 1 = q_52.2.2.1 a0 1 from by rw [eq_56]; rfl)).trans ((h2_q_52.R ha0 (show ¬ ((a0 = t0 ∧ h.1 a0 = 7) ∧ (h.1 a0 = 8 ∨ h.1 a0 = 11)) from fun z9 => (show ¬ (a0 = t0 ∧ h.1 a0 = 7) from (fun z => absurd (z.2.symm.trans ka0) (by decide))) z9.1) 1).trans ((h2_q_28.R ha0 (show ¬ ((h.1 a0 = 6 ∨ h.1 a0 = 8 ∨ h.1 a0 = 5 ∨ h.1 a0 = 2 ∨ h.1 a0 = 1) ∧ (h.1 a0 = 8 ∨ h.1 a0 = 11)) from fun z9 => (show ¬ (h.1 a0 = 6 ∨ h.1 a0 = 8 ∨ h.1 a0 = 5 ∨ h.1 a0 = 2 ∨ h.1 a0 = 1) from (fun z => z.elim (fun z => absurd (z.symm.trans ka0) (by decide)) (fun z => z.elim (fun z => absurd (z.symm.trans ka0) (by decide)) (fun z => z.elim (fun z => absurd (z.symm.trans ka0) (by decide)) (fun z => z.elim (fun z => absurd (z.symm.trans ka0) (by decide)) (fun z => absurd (z.symm.trans ka0) (by decide))))))) z9.1) 1).trans (eo0))))
        exact hret _ _ _ _ dX11_tablet_124 ⟨hV_q_60, hF_q_60, ⟨z_68, by omega, by omega, z_70, z_71, ⟨z_69, z_72⟩⟩⟩
set_option maxHeartbeats 4000000 in
set_option maxRecDepth 100000 in
theorem k_X11_readings_c (l : Launch) (dC : Nat → ClassId) (dI : Nat → Nat → Nat) (h : Sh) (L : List Nat) (hN : sx_nd L) (q : Sg) (hV : sx_V h L q) {a0 : Nat} (ha0 : a0 ∈ L) (ka0 : h.1 a0 = 11) (n1 : Int32) {t0 : Nat} (et0 : q.2.2.1 a0 0 = t0) {tb : Nat} (etb : q.2.2.1 t0 0 = tb) {fa : Nat} (efa : q.2.2.1 a0 9 = fa) {uu : Nat} (euu : q.2.2.1 a0 11 = uu) {o0 : Nat} (eo0 : q.2.2.1 a0 1 = o0) {ob : Nat} (eob : q.2.2.1 o0 0 = ob)    : CMi l dC dI h L yX11_readings wsX11_readings ({ frames := 10, cells := 0, slots := 0, locals := 243 } : Room) q [.ref a0, .int n1] (fun r q' => sx_V h L q' ∧ sx_fr h L (fun a => sx_c6 h a) q q' ∧ (q'.2.2.1 a0 0 = t0 ∧ (q'.1 t0 1).toInt = (q.1 t0 1).toInt ∧ (q'.1 a0 14).toInt = (q.1 a0 14).toInt ∧ q'.2.2.1 a0 11 = uu ∧ q'.2.2.1 a0 12 = q.2.2.1 a0 12 ∧ (q'.2.2.1 a0 9 = fa ∧ q'.2.2.1 a0 1 = o0))) := by
  refine cm_i (cc := cX11_readings) (mL := 2) (own := RX11) hN (by decide) rfl rfl (Nat.le_of_ble_eq_true rfl) (fun Z B hret => ?_)
  have hF : sx_fr h L (fun a => sx_c6 h a) q q := sx_fr.rf
  obtain ⟨ht0, kt0, lt0⟩ : t0 ∈ L ∧ h.1 t0 = 7 ∧ h.2.1 t0 = 1 := by obtain ⟨r9, e9, z1, z2, z3⟩ := hV.refn (t := 7) (n := 1) ha0 ka0 0 rfl (by decide) rfl (by decide); rw [← et0, e9]; exact ⟨z1, z2, z3⟩
  obtain ⟨htb, ktb, ltb⟩ : tb ∈ L ∧ h.1 tb = 300 ∧ h.2.1 tb = 440 := by obtain ⟨r9, e9, z1, z2, z3⟩ := hV.refn (t := 300) (n := 440) ht0 kt0 0 rfl (by decide) (by rw [lt0]; rfl) (by decide); rw [← etb, e9]; exact ⟨z1, z2, z3⟩
  obtain ⟨hfa, kfa, lfa⟩ : fa ∈ L ∧ h.1 fa = 403 ∧ h.2.1 fa = 12 := by obtain ⟨r9, e9, z1, z2, z3⟩ := hV.refn (t := 403) (n := 12) ha0 ka0 9 rfl (by decide) rfl (by decide); rw [← efa, e9]; exact ⟨z1, z2, z3⟩
  obtain ⟨huu, kuu⟩ : uu ∈ L ∧ h.1 uu = 9 := by obtain ⟨r9, e9, z1, z2⟩ := hV.ref (t := 9) ha0 ka0 11 rfl (by decide); rw [← euu, e9]; exact ⟨z1, z2⟩
  obtain ⟨ho0, ko0, lo0⟩ : o0 ∈ L ∧ h.1 o0 = 7 ∧ h.2.1 o0 = 2 := by obtain ⟨r9, e9, z1, z2, z3⟩ := hV.refn (t := 7) (n := 2) ha0 ka0 1 rfl (by decide) rfl (by decide); rw [← eo0, e9]; exact ⟨z1, z2, z3⟩
  have nt0_o0 : ¬ t0 = o0 := fun z9 => absurd (z9 ▸ lt0 : h.2.1 o0 = 1) (by rw [lo0]; decide)
  obtain ⟨hob, kob, lob⟩ : ob ∈ L ∧ h.1 ob = 300 ∧ h.2.1 ob = 59 := by obtain ⟨r9, e9, z1, z2, z3⟩ := hV.refn (t := 300) (n := 59) ho0 ko0 0 rfl (by decide) (by rw [lo0]; rfl) (by decide); rw [← eob, e9]; exact ⟨z1, z2, z3⟩
  show WA l dC dI h L ({ frames := 10, cells := 0, slots := 0, locals := 243 } : Room) 2 Z q 0 [(0, .ref a0), (1, .int n1)] []
  refine wa_aload_n B dX11_readings_0 rfl 0 rfl ?_
  refine wa_iload_n B dX11_readings_1 rfl 1 rfl ?_
  refine wa_callVi B (x := (RX11, TX11, 16)) (As := [.int n1]) (rest := []) (k_X11_isTablet l dC dI h L hN q hV (a0 := a0) ha0 ka0 n1  ) (cwV 1 B.1.2.2.2.2 gX11_readings_X11_isTablet rfl rfl rfl (by decide +kernel) ⟨Nat.le_of_ble_eq_true rfl, Nat.le_of_ble_eq_true rfl⟩) ha0 ka0 (by decide) rfl rfl rfl (Nat.le_of_ble_eq_true rfl) dX11_readings_2 (fun r_2 q_1 w_3 => ?_)
  obtain ⟨ew_3, hw_3⟩ := w_3
  subst ew_3
  refine wa_if_eq B 19 dX11_readings_5 (by decide) (fun (t_4 : r_2.toInt = 0) => ?_) (fun (t_4 : ¬ r_2.toInt = 0) => ?_)
  · refine wa_iconst B (-1) dX11_readings_19 (by decide) ?_
    exact hret _ _ _ _ dX11_readings_20 ⟨hV, hF, ⟨et0, by have h9 : ((-1) : Int32).toInt = (-1) := rfl; omega, by have h9 : ((-1) : Int32).toInt = (-1) := rfl; omega, euu, rfl, ⟨efa, eo0⟩⟩⟩
  · refine wa_aload_n B dX11_readings_8 rfl 0 rfl ?_
    refine wa_iload_n B dX11_readings_9 rfl 1 rfl ?_
    refine wa_callVr B (x := (RX11, TX11, 16)) (As := [.int n1]) (rest := []) (k_X11_solved l dC dI h L hN q hV (a0 := a0) ha0 ka0 n1  (by first | assumption | omega | decide) (by first | assumption | omega | decide)) (cwV 1 B.1.2.2.2.2 gX11_readings_X11_solved rfl rfl rfl (by decide +kernel) ⟨Nat.le_of_ble_eq_true rfl, Nat.le_of_ble_eq_true rfl⟩) ha0 ka0 (by decide) rfl rfl rfl (Nat.le_of_ble_eq_true rfl) dX11_readings_10 (fun r_6 q_5 w_7 => ?_)
    obtain ⟨hV_q_5, h2_q_5, hw_7⟩ := w_7
    have hF_q_5 : sx_fr h L (fun a => sx_c6 h a) q q_5 := hF.tr (h2_q_5.mono (fun a (z : h.1 a = 4 ∨ h.1 a = 5 ∨ h.1 a = 1 ∨ h.1 a = 2) => ((fun z => z.elim (fun z => (sx_c6.k z (by decide))) (fun z => z.elim (fun z => (sx_c6.k z (by decide))) (fun z => z.elim (fun z => (sx_c6.k z (by decide))) (fun z => (sx_c6.k z (by decide)))))) z)))
    obtain ⟨hr_6, kr_6⟩ := hw_7
    refine wa_getI B (C := RX5) (T := TX5) (N := 7) iq_X11_readings_X5 hr_6 kr_6 (by decide) rfl 5 (by decide) (by decide) (by decide +kernel) rfl (by decide) (v := (q_5.1 r_6 5)) rfl dX11_readings_13 ?_
    refine wa_goto B 20 dX11_readings_16 (by decide) ?_
    have z_8 : q_5.1 a0 14 = q.1 a0 14 := h2_q_5.I ha0 (show ¬ (h.1 a0 = 4 ∨ h.1 a0 = 5 ∨ h.1 a0 = 1 ∨ h.1 a0 = 2) from (fun z => z.elim (fun z => absurd (z.symm.trans ka0) (by decide)) (fun z => z.elim (fun z => absurd (z.symm.trans ka0) (by decide)) (fun z => z.elim (fun z => absurd (z.symm.trans ka0) (by decide)) (fun z => absurd (z.symm.trans ka0) (by decide)))))) 14
    have y_9 : (q_5.1 a0 14).toInt = (q.1 a0 14).toInt := by rw [z_8]
    have z_10 : q_5.1 t0 1 = q.1 t0 1 := h2_q_5.I ht0 (show ¬ (h.1 t0 = 4 ∨ h.1 t0 = 5 ∨ h.1 t0 = 1 ∨ h.1 t0 = 2) from (fun z => z.elim (fun z => absurd (z.symm.trans kt0) (by decide)) (fun z => z.elim (fun z => absurd (z.symm.trans kt0) (by decide)) (fun z => z.elim (fun z => absurd (z.symm.trans kt0) (by decide)) (fun z => absurd (z.symm.trans kt0) (by decide)))))) 1
    have y_11 : (q_5.1 t0 1).toInt = (q.1 t0 1).toInt := by rw [z_10]
    have z_12 : q_5.2.2.1 a0 0 = t0 := (h2_q_5.R ha0 (show ¬ ((h.1 a0 = 4 ∨ h.1 a0 = 5 ∨ h.1 a0 = 1 ∨ h.1 a0 = 2) ∧ (h.1 a0 = 8 ∨ h.1 a0 = 11)) from fun z9 => (show ¬ (h.1 a0 = 4 ∨ h.1 a0 = 5 ∨ h.1 a0 = 1 ∨ h.1 a0 = 2) from (fun z => z.elim (fun z => absurd (z.symm.trans ka0) (by decide)) (fun z => z.elim (fun z => absurd (z.symm.trans ka0) (by decide)) (fun z => z.elim (fun z => absurd (z.symm.trans ka0) (by decide)) (fun z => absurd (z.symm.trans ka0) (by decide)))))) z9.1) 0).trans (et0)
    have z_13 : q_5.2.2.1 a0 9 = fa := (h2_q_5.R ha0 (show ¬ ((h.1 a0 = 4 ∨ h.1 a0 = 5 ∨ h.1 a0 = 1 ∨ h.1 a0 = 2) ∧ (h.1 a0 = 8 ∨ h.1 a0 = 11)) from fun z9 => (show ¬ (h.1 a0 = 4 ∨ h.1 a0 = 5 ∨ h.1 a0 = 1 ∨ h.1 a0 = 2) from (fun z => z.elim (fun z => absurd (z.symm.trans ka0) (by decide)) (fun z => z.elim (fun z => absurd (z.symm.trans ka0) (by decide)) (fun z => z.elim (fun z => absurd (z.symm.trans ka0) (by decide)) (fun z => absurd (z.symm.trans ka0) (by decide)))))) z9.1) 9).trans (efa)
    have z_14 : q_5.2.2.1 a0 11 = uu := (h2_q_5.R ha0 (show ¬ ((h.1 a0 = 4 ∨ h.1 a0 = 5 ∨ h.1 a0 = 1 ∨ h.1 a0 = 2) ∧ (h.1 a0 = 8 ∨ h.1 a0 = 11)) from fun z9 => (show ¬ (h.1 a0 = 4 ∨ h.1 a0 = 5 ∨ h.1 a0 = 1 ∨ h.1 a0 = 2) from (fun z => z.elim (fun z => absurd (z.symm.trans ka0) (by decide)) (fun z => z.elim (fun z => absurd (z.symm.trans ka0) (by decide)) (fun z => z.elim (fun z => absurd (z.symm.trans ka0) (by decide)) (fun z => absurd (z.symm.trans ka0) (by decide)))))) z9.1) 11).trans (euu)
    have z_15 : q_5.2.2.1 a0 12 = q.2.2.1 a0 12 := h2_q_5.R ha0 (show ¬ ((h.1 a0 = 4 ∨ h.1 a0 = 5 ∨ h.1 a0 = 1 ∨ h.1 a0 = 2) ∧ (h.1 a0 = 8 ∨ h.1 a0 = 11)) from fun z9 => (show ¬ (h.1 a0 = 4 ∨ h.1 a0 = 5 ∨ h.1 a0 = 1 ∨ h.1 a0 = 2) from (fun z => z.elim (fun z => absurd (z.symm.trans ka0) (by decide)) (fun z => z.elim (fun z => absurd (z.symm.trans ka0) (by decide)) (fun z => z.elim (fun z => absurd (z.symm.trans ka0) (by decide)) (fun z => absurd (z.symm.trans ka0) (by decide)))))) z9.1) 12
    have z_16 : q_5.2.2.1 a0 1 = o0 := (h2_q_5.R ha0 (show ¬ ((h.1 a0 = 4 ∨ h.1 a0 = 5 ∨ h.1 a0 = 1 ∨ h.1 a0 = 2) ∧ (h.1 a0 = 8 ∨ h.1 a0 = 11)) from fun z9 => (show ¬ (h.1 a0 = 4 ∨ h.1 a0 = 5 ∨ h.1 a0 = 1 ∨ h.1 a0 = 2) from (fun z => z.elim (fun z => absurd (z.symm.trans ka0) (by decide)) (fun z => z.elim (fun z => absurd (z.symm.trans ka0) (by decide)) (fun z => z.elim (fun z => absurd (z.symm.trans ka0) (by decide)) (fun z => absurd (z.symm.trans ka0) (by decide)))))) z9.1) 1).trans (eo0)
    exact hret _ _ _ _ dX11_readings_20 ⟨hV_q_5, hF_q_5, ⟨z_12, by omega, by omega, z_14, z_15, ⟨z_13, z_16⟩⟩⟩
set_option maxHeartbeats 4000000 in
set_option maxRecDepth 100000 in
theorem k_X11_wrong_c (l : Launch) (dC : Nat → ClassId) (dI : Nat → Nat → Nat) (h : Sh) (L : List Nat) (hN : sx_nd L) (q : Sg) (hV : sx_V h L q) {a0 : Nat} (ha0 : a0 ∈ L) (ka0 : h.1 a0 = 11) (n1 : Int32) {t0 : Nat} (et0 : q.2.2.1 a0 0 = t0) {tb : Nat} (etb : q.2.2.1 t0 0 = tb) {fa : Nat} (efa : q.2.2.1 a0 9 = fa) {uu : Nat} (euu : q.2.2.1 a0 11 = uu) {o0 : Nat} (eo0 : q.2.2.1 a0 1 = o0) {ob : Nat} (eob : q.2.2.1 o0 0 = ob)    : CMi l dC dI h L yX11_wrong wsX11_wrong ({ frames := 10, cells := 0, slots := 0, locals := 243 } : Room) q [.ref a0, .int n1] (fun r q' => sx_V h L q' ∧ sx_fr h L (fun a => sx_c6 h a) q q' ∧ (q'.2.2.1 a0 0 = t0 ∧ (q'.1 t0 1).toInt = (q.1 t0 1).toInt ∧ (q'.1 a0 14).toInt = (q.1 a0 14).toInt ∧ q'.2.2.1 a0 11 = uu ∧ q'.2.2.1 a0 12 = q.2.2.1 a0 12 ∧ (q'.2.2.1 a0 9 = fa ∧ q'.2.2.1 a0 1 = o0))) := by
  refine cm_i (cc := cX11_wrong) (mL := 2) (own := RX11) hN (by decide) rfl rfl (Nat.le_of_ble_eq_true rfl) (fun Z B hret => ?_)
  have hF : sx_fr h L (fun a => sx_c6 h a) q q := sx_fr.rf
  obtain ⟨ht0, kt0, lt0⟩ : t0 ∈ L ∧ h.1 t0 = 7 ∧ h.2.1 t0 = 1 := by obtain ⟨r9, e9, z1, z2, z3⟩ := hV.refn (t := 7) (n := 1) ha0 ka0 0 rfl (by decide) rfl (by decide); rw [← et0, e9]; exact ⟨z1, z2, z3⟩
  obtain ⟨htb, ktb, ltb⟩ : tb ∈ L ∧ h.1 tb = 300 ∧ h.2.1 tb = 440 := by obtain ⟨r9, e9, z1, z2, z3⟩ := hV.refn (t := 300) (n := 440) ht0 kt0 0 rfl (by decide) (by rw [lt0]; rfl) (by decide); rw [← etb, e9]; exact ⟨z1, z2, z3⟩
  obtain ⟨hfa, kfa, lfa⟩ : fa ∈ L ∧ h.1 fa = 403 ∧ h.2.1 fa = 12 := by obtain ⟨r9, e9, z1, z2, z3⟩ := hV.refn (t := 403) (n := 12) ha0 ka0 9 rfl (by decide) rfl (by decide); rw [← efa, e9]; exact ⟨z1, z2, z3⟩
  obtain ⟨huu, kuu⟩ : uu ∈ L ∧ h.1 uu = 9 := by obtain ⟨r9, e9, z1, z2⟩ := hV.ref (t := 9) ha0 ka0 11 rfl (by decide); rw [← euu, e9]; exact ⟨z1, z2⟩
  obtain ⟨ho0, ko0, lo0⟩ : o0 ∈ L ∧ h.1 o0 = 7 ∧ h.2.1 o0 = 2 := by obtain ⟨r9, e9, z1, z2, z3⟩ := hV.refn (t := 7) (n := 2) ha0 ka0 1 rfl (by decide) rfl (by decide); rw [← eo0, e9]; exact ⟨z1, z2, z3⟩
  have nt0_o0 : ¬ t0 = o0 := fun z9 => absurd (z9 ▸ lt0 : h.2.1 o0 = 1) (by rw [lo0]; decide)
  obtain ⟨hob, kob, lob⟩ : ob ∈ L ∧ h.1 ob = 300 ∧ h.2.1 ob = 59 := by obtain ⟨r9, e9, z1, z2, z3⟩ := hV.refn (t := 300) (n := 59) ho0 ko0 0 rfl (by decide) (by rw [lo0]; rfl) (by decide); rw [← eob, e9]; exact ⟨z1, z2, z3⟩
  show WA l dC dI h L ({ frames := 10, cells := 0, slots := 0, locals := 243 } : Room) 2 Z q 0 [(0, .ref a0), (1, .int n1)] []
  refine wa_aload_n B dX11_wrong_0 rfl 0 rfl ?_
  refine wa_iload_n B dX11_wrong_1 rfl 1 rfl ?_
  refine wa_callVi B (x := (RX11, TX11, 16)) (As := [.int n1]) (rest := []) (k_X11_isTablet l dC dI h L hN q hV (a0 := a0) ha0 ka0 n1  ) (cwV 1 B.1.2.2.2.2 gX11_wrong_X11_isTablet rfl rfl rfl (by decide +kernel) ⟨Nat.le_of_ble_eq_true rfl, Nat.le_of_ble_eq_true rfl⟩) ha0 ka0 (by decide) rfl rfl rfl (Nat.le_of_ble_eq_true rfl) dX11_wrong_2 (fun r_2 q_1 w_3 => ?_)
  obtain ⟨ew_3, hw_3⟩ := w_3
  subst ew_3
  refine wa_if_eq B 19 dX11_wrong_5 (by decide) (fun (t_4 : r_2.toInt = 0) => ?_) (fun (t_4 : ¬ r_2.toInt = 0) => ?_)
  · refine wa_iconst B (-1) dX11_wrong_19 (by decide) ?_
    exact hret _ _ _ _ dX11_wrong_20 ⟨hV, hF, ⟨et0, by have h9 : ((-1) : Int32).toInt = (-1) := rfl; omega, by have h9 : ((-1) : Int32).toInt = (-1) := rfl; omega, euu, rfl, ⟨efa, eo0⟩⟩⟩
  · refine wa_aload_n B dX11_wrong_8 rfl 0 rfl ?_
    refine wa_iload_n B dX11_wrong_9 rfl 1 rfl ?_
    refine wa_callVr B (x := (RX11, TX11, 16)) (As := [.int n1]) (rest := []) (k_X11_solved l dC dI h L hN q hV (a0 := a0) ha0 ka0 n1  (by first | assumption | omega | decide) (by first | assumption | omega | decide)) (cwV 1 B.1.2.2.2.2 gX11_wrong_X11_solved rfl rfl rfl (by decide +kernel) ⟨Nat.le_of_ble_eq_true rfl, Nat.le_of_ble_eq_true rfl⟩) ha0 ka0 (by decide) rfl rfl rfl (Nat.le_of_ble_eq_true rfl) dX11_wrong_10 (fun r_6 q_5 w_7 => ?_)
    obtain ⟨hV_q_5, h2_q_5, hw_7⟩ := w_7
    have hF_q_5 : sx_fr h L (fun a => sx_c6 h a) q q_5 := hF.tr (h2_q_5.mono (fun a (z : h.1 a = 4 ∨ h.1 a = 5 ∨ h.1 a = 1 ∨ h.1 a = 2) => ((fun z => z.elim (fun z => (sx_c6.k z (by decide))) (fun z => z.elim (fun z => (sx_c6.k z (by decide))) (fun z => z.elim (fun z => (sx_c6.k z (by decide))) (fun z => (sx_c6.k z (by decide)))))) z)))
    obtain ⟨hr_6, kr_6⟩ := hw_7
    refine wa_getI B (C := RX5) (T := TX5) (N := 7) iq_X11_wrong_X5 hr_6 kr_6 (by decide) rfl 6 (by decide) (by decide) (by decide +kernel) rfl (by decide) (v := (q_5.1 r_6 6)) rfl dX11_wrong_13 ?_
    refine wa_goto B 20 dX11_wrong_16 (by decide) ?_
    have z_8 : q_5.1 a0 14 = q.1 a0 14 := h2_q_5.I ha0 (show ¬ (h.1 a0 = 4 ∨ h.1 a0 = 5 ∨ h.1 a0 = 1 ∨ h.1 a0 = 2) from (fun z => z.elim (fun z => absurd (z.symm.trans ka0) (by decide)) (fun z => z.elim (fun z => absurd (z.symm.trans ka0) (by decide)) (fun z => z.elim (fun z => absurd (z.symm.trans ka0) (by decide)) (fun z => absurd (z.symm.trans ka0) (by decide)))))) 14
    have y_9 : (q_5.1 a0 14).toInt = (q.1 a0 14).toInt := by rw [z_8]
    have z_10 : q_5.1 t0 1 = q.1 t0 1 := h2_q_5.I ht0 (show ¬ (h.1 t0 = 4 ∨ h.1 t0 = 5 ∨ h.1 t0 = 1 ∨ h.1 t0 = 2) from (fun z => z.elim (fun z => absurd (z.symm.trans kt0) (by decide)) (fun z => z.elim (fun z => absurd (z.symm.trans kt0) (by decide)) (fun z => z.elim (fun z => absurd (z.symm.trans kt0) (by decide)) (fun z => absurd (z.symm.trans kt0) (by decide)))))) 1
    have y_11 : (q_5.1 t0 1).toInt = (q.1 t0 1).toInt := by rw [z_10]
    have z_12 : q_5.2.2.1 a0 0 = t0 := (h2_q_5.R ha0 (show ¬ ((h.1 a0 = 4 ∨ h.1 a0 = 5 ∨ h.1 a0 = 1 ∨ h.1 a0 = 2) ∧ (h.1 a0 = 8 ∨ h.1 a0 = 11)) from fun z9 => (show ¬ (h.1 a0 = 4 ∨ h.1 a0 = 5 ∨ h.1 a0 = 1 ∨ h.1 a0 = 2) from (fun z => z.elim (fun z => absurd (z.symm.trans ka0) (by decide)) (fun z => z.elim (fun z => absurd (z.symm.trans ka0) (by decide)) (fun z => z.elim (fun z => absurd (z.symm.trans ka0) (by decide)) (fun z => absurd (z.symm.trans ka0) (by decide)))))) z9.1) 0).trans (et0)
    have z_13 : q_5.2.2.1 a0 9 = fa := (h2_q_5.R ha0 (show ¬ ((h.1 a0 = 4 ∨ h.1 a0 = 5 ∨ h.1 a0 = 1 ∨ h.1 a0 = 2) ∧ (h.1 a0 = 8 ∨ h.1 a0 = 11)) from fun z9 => (show ¬ (h.1 a0 = 4 ∨ h.1 a0 = 5 ∨ h.1 a0 = 1 ∨ h.1 a0 = 2) from (fun z => z.elim (fun z => absurd (z.symm.trans ka0) (by decide)) (fun z => z.elim (fun z => absurd (z.symm.trans ka0) (by decide)) (fun z => z.elim (fun z => absurd (z.symm.trans ka0) (by decide)) (fun z => absurd (z.symm.trans ka0) (by decide)))))) z9.1) 9).trans (efa)
    have z_14 : q_5.2.2.1 a0 11 = uu := (h2_q_5.R ha0 (show ¬ ((h.1 a0 = 4 ∨ h.1 a0 = 5 ∨ h.1 a0 = 1 ∨ h.1 a0 = 2) ∧ (h.1 a0 = 8 ∨ h.1 a0 = 11)) from fun z9 => (show ¬ (h.1 a0 = 4 ∨ h.1 a0 = 5 ∨ h.1 a0 = 1 ∨ h.1 a0 = 2) from (fun z => z.elim (fun z => absurd (z.symm.trans ka0) (by decide)) (fun z => z.elim (fun z => absurd (z.symm.trans ka0) (by decide)) (fun z => z.elim (fun z => absurd (z.symm.trans ka0) (by decide)) (fun z => absurd (z.symm.trans ka0) (by decide)))))) z9.1) 11).trans (euu)
    have z_15 : q_5.2.2.1 a0 12 = q.2.2.1 a0 12 := h2_q_5.R ha0 (show ¬ ((h.1 a0 = 4 ∨ h.1 a0 = 5 ∨ h.1 a0 = 1 ∨ h.1 a0 = 2) ∧ (h.1 a0 = 8 ∨ h.1 a0 = 11)) from fun z9 => (show ¬ (h.1 a0 = 4 ∨ h.1 a0 = 5 ∨ h.1 a0 = 1 ∨ h.1 a0 = 2) from (fun z => z.elim (fun z => absurd (z.symm.trans ka0) (by decide)) (fun z => z.elim (fun z => absurd (z.symm.trans ka0) (by decide)) (fun z => z.elim (fun z => absurd (z.symm.trans ka0) (by decide)) (fun z => absurd (z.symm.trans ka0) (by decide)))))) z9.1) 12
    have z_16 : q_5.2.2.1 a0 1 = o0 := (h2_q_5.R ha0 (show ¬ ((h.1 a0 = 4 ∨ h.1 a0 = 5 ∨ h.1 a0 = 1 ∨ h.1 a0 = 2) ∧ (h.1 a0 = 8 ∨ h.1 a0 = 11)) from fun z9 => (show ¬ (h.1 a0 = 4 ∨ h.1 a0 = 5 ∨ h.1 a0 = 1 ∨ h.1 a0 = 2) from (fun z => z.elim (fun z => absurd (z.symm.trans ka0) (by decide)) (fun z => z.elim (fun z => absurd (z.symm.trans ka0) (by decide)) (fun z => z.elim (fun z => absurd (z.symm.trans ka0) (by decide)) (fun z => absurd (z.symm.trans ka0) (by decide)))))) z9.1) 1).trans (eo0)
    exact hret _ _ _ _ dX11_wrong_20 ⟨hV_q_5, hF_q_5, ⟨z_12, by omega, by omega, z_14, z_15, ⟨z_13, z_16⟩⟩⟩
set_option maxHeartbeats 4000000 in
set_option maxRecDepth 100000 in
theorem k_X11_join_c (l : Launch) (dC : Nat → ClassId) (dI : Nat → Nat → Nat) (h : Sh) (L : List Nat) (hN : sx_nd L) (q : Sg) (hV : sx_V h L q) {a0 : Nat} (ha0 : a0 ∈ L) (ka0 : h.1 a0 = 11) (n1 : Int32) (n2 : Int32) {t0 : Nat} (et0 : q.2.2.1 a0 0 = t0) {tb : Nat} (etb : q.2.2.1 t0 0 = tb) {fa : Nat} (efa : q.2.2.1 a0 9 = fa) {uu : Nat} (euu : q.2.2.1 a0 11 = uu) {o0 : Nat} (eo0 : q.2.2.1 a0 1 = o0) {ob : Nat} (eob : q.2.2.1 o0 0 = ob)    : CMi l dC dI h L yX11_join wsX11_join ({ frames := 10, cells := 0, slots := 0, locals := 245 } : Room) q [.ref a0, .int n1, .int n2] (fun r q' => sx_V h L q' ∧ sx_fr h L (fun a => sx_c6 h a) q q' ∧ (q'.2.2.1 a0 0 = t0 ∧ (q'.1 t0 1).toInt = (q.1 t0 1).toInt ∧ (q'.1 a0 14).toInt = (q.1 a0 14).toInt ∧ q'.2.2.1 a0 11 = uu ∧ q'.2.2.1 a0 12 = q.2.2.1 a0 12 ∧ (q'.2.2.1 a0 9 = fa ∧ q'.2.2.1 a0 1 = o0))) := by
  refine cm_i (cc := cX11_join) (mL := 3) (own := RX11) hN (by decide) rfl rfl (Nat.le_of_ble_eq_true rfl) (fun Z B hret => ?_)
  have hF : sx_fr h L (fun a => sx_c6 h a) q q := sx_fr.rf
  obtain ⟨ht0, kt0, lt0⟩ : t0 ∈ L ∧ h.1 t0 = 7 ∧ h.2.1 t0 = 1 := by obtain ⟨r9, e9, z1, z2, z3⟩ := hV.refn (t := 7) (n := 1) ha0 ka0 0 rfl (by decide) rfl (by decide); rw [← et0, e9]; exact ⟨z1, z2, z3⟩
  obtain ⟨htb, ktb, ltb⟩ : tb ∈ L ∧ h.1 tb = 300 ∧ h.2.1 tb = 440 := by obtain ⟨r9, e9, z1, z2, z3⟩ := hV.refn (t := 300) (n := 440) ht0 kt0 0 rfl (by decide) (by rw [lt0]; rfl) (by decide); rw [← etb, e9]; exact ⟨z1, z2, z3⟩
  obtain ⟨hfa, kfa, lfa⟩ : fa ∈ L ∧ h.1 fa = 403 ∧ h.2.1 fa = 12 := by obtain ⟨r9, e9, z1, z2, z3⟩ := hV.refn (t := 403) (n := 12) ha0 ka0 9 rfl (by decide) rfl (by decide); rw [← efa, e9]; exact ⟨z1, z2, z3⟩
  obtain ⟨huu, kuu⟩ : uu ∈ L ∧ h.1 uu = 9 := by obtain ⟨r9, e9, z1, z2⟩ := hV.ref (t := 9) ha0 ka0 11 rfl (by decide); rw [← euu, e9]; exact ⟨z1, z2⟩
  obtain ⟨ho0, ko0, lo0⟩ : o0 ∈ L ∧ h.1 o0 = 7 ∧ h.2.1 o0 = 2 := by obtain ⟨r9, e9, z1, z2, z3⟩ := hV.refn (t := 7) (n := 2) ha0 ka0 1 rfl (by decide) rfl (by decide); rw [← eo0, e9]; exact ⟨z1, z2, z3⟩
  have nt0_o0 : ¬ t0 = o0 := fun z9 => absurd (z9 ▸ lt0 : h.2.1 o0 = 1) (by rw [lo0]; decide)
  obtain ⟨hob, kob, lob⟩ : ob ∈ L ∧ h.1 ob = 300 ∧ h.2.1 ob = 59 := by obtain ⟨r9, e9, z1, z2, z3⟩ := hV.refn (t := 300) (n := 59) ho0 ko0 0 rfl (by decide) (by rw [lo0]; rfl) (by decide); rw [← eob, e9]; exact ⟨z1, z2, z3⟩
  show WA l dC dI h L ({ frames := 10, cells := 0, slots := 0, locals := 245 } : Room) 3 Z q 0 [(0, .ref a0), (1, .int n1), (2, .int n2)] []
  refine wa_aload_n B dX11_join_0 rfl 0 rfl ?_
  refine wa_iload_n B dX11_join_1 rfl 1 rfl ?_
  refine wa_callVi B (x := (RX11, TX11, 16)) (As := [.int n1]) (rest := []) (k_X11_isFragment l dC dI h L hN q hV (a0 := a0) ha0 ka0 n1  ) (cwV 1 B.1.2.2.2.2 gX11_join_X11_isFragment rfl rfl rfl (by decide +kernel) ⟨Nat.le_of_ble_eq_true rfl, Nat.le_of_ble_eq_true rfl⟩) ha0 ka0 (by decide) rfl rfl rfl (Nat.le_of_ble_eq_true rfl) dX11_join_2 (fun r_2 q_1 w_3 => ?_)
  obtain ⟨ew_3, hw_3⟩ := w_3
  subst ew_3
  refine wa_if_eq B 21 dX11_join_5 (by decide) (fun (t_4 : r_2.toInt = 0) => ?_) (fun (t_4 : ¬ r_2.toInt = 0) => ?_)
  · refine wa_iconst B (-1) dX11_join_21 (by decide) ?_
    exact hret _ _ _ _ dX11_join_22 ⟨hV, hF, ⟨et0, by have h9 : ((-1) : Int32).toInt = (-1) := rfl; omega, by have h9 : ((-1) : Int32).toInt = (-1) := rfl; omega, euu, rfl, ⟨efa, eo0⟩⟩⟩
  · refine wa_aload_n B dX11_join_8 rfl 0 rfl ?_
    refine wa_iload_n B dX11_join_9 rfl 2 rfl ?_
    refine wa_callVi B (x := (RX11, TX11, 16)) (As := [.int n2]) (rest := []) (k_X11_isFragment l dC dI h L hN q hV (a0 := a0) ha0 ka0 n2  ) (cwV 1 B.1.2.2.2.2 gX11_join_X11_isFragment rfl rfl rfl (by decide +kernel) ⟨Nat.le_of_ble_eq_true rfl, Nat.le_of_ble_eq_true rfl⟩) ha0 ka0 (by decide) rfl rfl rfl (Nat.le_of_ble_eq_true rfl) dX11_join_10 (fun r_6 q_5 w_7 => ?_)
    obtain ⟨ew_7, hw_7⟩ := w_7
    subst ew_7
    refine wa_if_eq B 21 dX11_join_13 (by decide) (fun (t_8 : r_6.toInt = 0) => ?_) (fun (t_8 : ¬ r_6.toInt = 0) => ?_)
    · refine wa_iconst B (-1) dX11_join_21 (by decide) ?_
      exact hret _ _ _ _ dX11_join_22 ⟨hV, hF, ⟨et0, by have h9 : ((-1) : Int32).toInt = (-1) := rfl; omega, by have h9 : ((-1) : Int32).toInt = (-1) := rfl; omega, euu, rfl, ⟨efa, eo0⟩⟩⟩
    · refine wa_iload_n B dX11_join_16 rfl 1 rfl ?_
      refine wa_iload_n B dX11_join_17 rfl 2 rfl ?_
      refine wa_icmp_ne B 23 dX11_join_18 (by decide) (fun (t_9 : ¬ n1.toInt = n2.toInt) => ?_) (fun (t_9 : n1.toInt = n2.toInt) => ?_)
      · refine wa_aload_n B dX11_join_23 rfl 0 rfl ?_
        refine wa_iload_n B dX11_join_24 rfl 1 rfl ?_
        refine wa_iload_n B dX11_join_25 rfl 2 rfl ?_
        obtain ⟨a_10, ea_10, ha_10, ka_10, la_10⟩ := hV.refn (n := 3) (t := 7) ha0 ka0 2 rfl (by decide) rfl (by decide)
        have nt0_a_10 : ¬ t0 = a_10 := fun z9 => absurd (z9 ▸ lt0 : h.2.1 a_10 = 1) (by rw [la_10]; decide)
        have no0_a_10 : ¬ o0 = a_10 := fun z9 => absurd (z9 ▸ lo0 : h.2.1 a_10 = 2) (by rw [la_10]; decide)
        obtain ⟨a_11, ea_11, ha_11, ka_11, la_11⟩ := hV.refn (n := 402) (t := 300) ha_10 ka_10 0 rfl (by decide) (by rw [la_10]; rfl) (by decide)
        refine wa_callVi B (x := (RX11, TX11, 16)) (As := [.int n1, .int n2]) (rest := []) (k_X11_joined_c l dC dI h L hN q hV (a0 := a0) ha0 ka0 n1 n2 (s0 := a_10) ea_10 (sb := a_11) ea_11  (by first | assumption | omega | decide) (by first | assumption | omega | decide) (by first | assumption | omega | decide) (by first | assumption | omega | decide)) (cwV 2 B.1.2.2.2.2 gX11_join_X11_joined rfl rfl rfl (by decide +kernel) ⟨Nat.le_of_ble_eq_true rfl, Nat.le_of_ble_eq_true rfl⟩) ha0 ka0 (by decide) rfl rfl rfl (Nat.le_of_ble_eq_true rfl) dX11_join_26 (fun r_13 q_12 w_14 => ?_)
        obtain ⟨hV_q_12, h2_q_12⟩ := w_14
        have hF_q_12 : sx_fr h L (fun a => sx_c6 h a) q q_12 := hF.tr (h2_q_12.mono (fun a (z : h.1 a = 6 ∨ h.1 a = 8 ∨ h.1 a = 5 ∨ h.1 a = 2 ∨ h.1 a = 1 ∨ h.1 a = 4 ∨ a = a_10 ∧ h.1 a = 7 ∨ a = a_11 ∧ h.1 a = 300) => ((fun z => z.elim (fun z => (sx_c6.k z (by decide))) (fun z => z.elim (fun z => (sx_c6.k z (by decide))) (fun z => z.elim (fun z => (sx_c6.k z (by decide))) (fun z => z.elim (fun z => (sx_c6.k z (by decide))) (fun z => z.elim (fun z => (sx_c6.k z (by decide))) (fun z => z.elim (fun z => (sx_c6.k z (by decide))) (fun z => z.elim (fun z => (sx_c6.k7 z.2 ((congrArg h.2.1 z.1).trans la_10) (by decide))) (fun z => (sx_c6.k3 z.2 ((congrArg h.2.1 z.1).trans la_11) (by decide)))))))))) z)))
        have z_15 : q_12.1 a0 14 = q.1 a0 14 := h2_q_12.I ha0 (show ¬ (h.1 a0 = 6 ∨ h.1 a0 = 8 ∨ h.1 a0 = 5 ∨ h.1 a0 = 2 ∨ h.1 a0 = 1 ∨ h.1 a0 = 4 ∨ a0 = a_10 ∧ h.1 a0 = 7 ∨ a0 = a_11 ∧ h.1 a0 = 300) from (fun z => z.elim (fun z => absurd (z.symm.trans ka0) (by decide)) (fun z => z.elim (fun z => absurd (z.symm.trans ka0) (by decide)) (fun z => z.elim (fun z => absurd (z.symm.trans ka0) (by decide)) (fun z => z.elim (fun z => absurd (z.symm.trans ka0) (by decide)) (fun z => z.elim (fun z => absurd (z.symm.trans ka0) (by decide)) (fun z => z.elim (fun z => absurd (z.symm.trans ka0) (by decide)) (fun z => z.elim (fun z => absurd (z.2.symm.trans ka0) (by decide)) (fun z => absurd (z.2.symm.trans ka0) (by decide)))))))))) 14
        have y_16 : (q_12.1 a0 14).toInt = (q.1 a0 14).toInt := by rw [z_15]
        have z_17 : q_12.1 t0 1 = q.1 t0 1 := h2_q_12.I ht0 (show ¬ (h.1 t0 = 6 ∨ h.1 t0 = 8 ∨ h.1 t0 = 5 ∨ h.1 t0 = 2 ∨ h.1 t0 = 1 ∨ h.1 t0 = 4 ∨ t0 = a_10 ∧ h.1 t0 = 7 ∨ t0 = a_11 ∧ h.1 t0 = 300) from (fun z => z.elim (fun z => absurd (z.symm.trans kt0) (by decide)) (fun z => z.elim (fun z => absurd (z.symm.trans kt0) (by decide)) (fun z => z.elim (fun z => absurd (z.symm.trans kt0) (by decide)) (fun z => z.elim (fun z => absurd (z.symm.trans kt0) (by decide)) (fun z => z.elim (fun z => absurd (z.symm.trans kt0) (by decide)) (fun z => z.elim (fun z => absurd (z.symm.trans kt0) (by decide)) (fun z => z.elim (fun z => absurd z.1 (by omega)) (fun z => absurd (z.2.symm.trans kt0) (by decide)))))))))) 1
        have y_18 : (q_12.1 t0 1).toInt = (q.1 t0 1).toInt := by rw [z_17]
        have z_19 : q_12.2.2.1 a0 0 = t0 := (h2_q_12.R ha0 (show ¬ ((h.1 a0 = 6 ∨ h.1 a0 = 8 ∨ h.1 a0 = 5 ∨ h.1 a0 = 2 ∨ h.1 a0 = 1 ∨ h.1 a0 = 4 ∨ a0 = a_10 ∧ h.1 a0 = 7 ∨ a0 = a_11 ∧ h.1 a0 = 300) ∧ (h.1 a0 = 8 ∨ h.1 a0 = 11)) from fun z9 => (show ¬ (h.1 a0 = 6 ∨ h.1 a0 = 8 ∨ h.1 a0 = 5 ∨ h.1 a0 = 2 ∨ h.1 a0 = 1 ∨ h.1 a0 = 4 ∨ a0 = a_10 ∧ h.1 a0 = 7 ∨ a0 = a_11 ∧ h.1 a0 = 300) from (fun z => z.elim (fun z => absurd (z.symm.trans ka0) (by decide)) (fun z => z.elim (fun z => absurd (z.symm.trans ka0) (by decide)) (fun z => z.elim (fun z => absurd (z.symm.trans ka0) (by decide)) (fun z => z.elim (fun z => absurd (z.symm.trans ka0) (by decide)) (fun z => z.elim (fun z => absurd (z.symm.trans ka0) (by decide)) (fun z => z.elim (fun z => absurd (z.symm.trans ka0) (by decide)) (fun z => z.elim (fun z => absurd (z.2.symm.trans ka0) (by decide)) (fun z => absurd (z.2.symm.trans ka0) (by decide)))))))))) z9.1) 0).trans (et0)
        have z_20 : q_12.2.2.1 a0 9 = fa := (h2_q_12.R ha0 (show ¬ ((h.1 a0 = 6 ∨ h.1 a0 = 8 ∨ h.1 a0 = 5 ∨ h.1 a0 = 2 ∨ h.1 a0 = 1 ∨ h.1 a0 = 4 ∨ a0 = a_10 ∧ h.1 a0 = 7 ∨ a0 = a_11 ∧ h.1 a0 = 300) ∧ (h.1 a0 = 8 ∨ h.1 a0 = 11)) from fun z9 => (show ¬ (h.1 a0 = 6 ∨ h.1 a0 = 8 ∨ h.1 a0 = 5 ∨ h.1 a0 = 2 ∨ h.1 a0 = 1 ∨ h.1 a0 = 4 ∨ a0 = a_10 ∧ h.1 a0 = 7 ∨ a0 = a_11 ∧ h.1 a0 = 300) from (fun z => z.elim (fun z => absurd (z.symm.trans ka0) (by decide)) (fun z => z.elim (fun z => absurd (z.symm.trans ka0) (by decide)) (fun z => z.elim (fun z => absurd (z.symm.trans ka0) (by decide)) (fun z => z.elim (fun z => absurd (z.symm.trans ka0) (by decide)) (fun z => z.elim (fun z => absurd (z.symm.trans ka0) (by decide)) (fun z => z.elim (fun z => absurd (z.symm.trans ka0) (by decide)) (fun z => z.elim (fun z => absurd (z.2.symm.trans ka0) (by decide)) (fun z => absurd (z.2.symm.trans ka0) (by decide)))))))))) z9.1) 9).trans (efa)
        have z_21 : q_12.2.2.1 a0 11 = uu := (h2_q_12.R ha0 (show ¬ ((h.1 a0 = 6 ∨ h.1 a0 = 8 ∨ h.1 a0 = 5 ∨ h.1 a0 = 2 ∨ h.1 a0 = 1 ∨ h.1 a0 = 4 ∨ a0 = a_10 ∧ h.1 a0 = 7 ∨ a0 = a_11 ∧ h.1 a0 = 300) ∧ (h.1 a0 = 8 ∨ h.1 a0 = 11)) from fun z9 => (show ¬ (h.1 a0 = 6 ∨ h.1 a0 = 8 ∨ h.1 a0 = 5 ∨ h.1 a0 = 2 ∨ h.1 a0 = 1 ∨ h.1 a0 = 4 ∨ a0 = a_10 ∧ h.1 a0 = 7 ∨ a0 = a_11 ∧ h.1 a0 = 300) from (fun z => z.elim (fun z => absurd (z.symm.trans ka0) (by decide)) (fun z => z.elim (fun z => absurd (z.symm.trans ka0) (by decide)) (fun z => z.elim (fun z => absurd (z.symm.trans ka0) (by decide)) (fun z => z.elim (fun z => absurd (z.symm.trans ka0) (by decide)) (fun z => z.elim (fun z => absurd (z.symm.trans ka0) (by decide)) (fun z => z.elim (fun z => absurd (z.symm.trans ka0) (by decide)) (fun z => z.elim (fun z => absurd (z.2.symm.trans ka0) (by decide)) (fun z => absurd (z.2.symm.trans ka0) (by decide)))))))))) z9.1) 11).trans (euu)
        have z_22 : q_12.2.2.1 a0 12 = q.2.2.1 a0 12 := h2_q_12.R ha0 (show ¬ ((h.1 a0 = 6 ∨ h.1 a0 = 8 ∨ h.1 a0 = 5 ∨ h.1 a0 = 2 ∨ h.1 a0 = 1 ∨ h.1 a0 = 4 ∨ a0 = a_10 ∧ h.1 a0 = 7 ∨ a0 = a_11 ∧ h.1 a0 = 300) ∧ (h.1 a0 = 8 ∨ h.1 a0 = 11)) from fun z9 => (show ¬ (h.1 a0 = 6 ∨ h.1 a0 = 8 ∨ h.1 a0 = 5 ∨ h.1 a0 = 2 ∨ h.1 a0 = 1 ∨ h.1 a0 = 4 ∨ a0 = a_10 ∧ h.1 a0 = 7 ∨ a0 = a_11 ∧ h.1 a0 = 300) from (fun z => z.elim (fun z => absurd (z.symm.trans ka0) (by decide)) (fun z => z.elim (fun z => absurd (z.symm.trans ka0) (by decide)) (fun z => z.elim (fun z => absurd (z.symm.trans ka0) (by decide)) (fun z => z.elim (fun z => absurd (z.symm.trans ka0) (by decide)) (fun z => z.elim (fun z => absurd (z.symm.trans ka0) (by decide)) (fun z => z.elim (fun z => absurd (z.symm.trans ka0) (by decide)) (fun z => z.elim (fun z => absurd (z.2.symm.trans ka0) (by decide)) (fun z => absurd (z.2.symm.trans ka0) (by decide)))))))))) z9.1) 12
        have z_23 : q_12.2.2.1 a0 1 = o0 := (h2_q_12.R ha0 (show ¬ ((h.1 a0 = 6 ∨ h.1 a0 = 8 ∨ h.1 a0 = 5 ∨ h.1 a0 = 2 ∨ h.1 a0 = 1 ∨ h.1 a0 = 4 ∨ a0 = a_10 ∧ h.1 a0 = 7 ∨ a0 = a_11 ∧ h.1 a0 = 300) ∧ (h.1 a0 = 8 ∨ h.1 a0 = 11)) from fun z9 => (show ¬ (h.1 a0 = 6 ∨ h.1 a0 = 8 ∨ h.1 a0 = 5 ∨ h.1 a0 = 2 ∨ h.1 a0 = 1 ∨ h.1 a0 = 4 ∨ a0 = a_10 ∧ h.1 a0 = 7 ∨ a0 = a_11 ∧ h.1 a0 = 300) from (fun z => z.elim (fun z => absurd (z.symm.trans ka0) (by decide)) (fun z => z.elim (fun z => absurd (z.symm.trans ka0) (by decide)) (fun z => z.elim (fun z => absurd (z.symm.trans ka0) (by decide)) (fun z => z.elim (fun z => absurd (z.symm.trans ka0) (by decide)) (fun z => z.elim (fun z => absurd (z.symm.trans ka0) (by decide)) (fun z => z.elim (fun z => absurd (z.symm.trans ka0) (by decide)) (fun z => z.elim (fun z => absurd (z.2.symm.trans ka0) (by decide)) (fun z => absurd (z.2.symm.trans ka0) (by decide)))))))))) z9.1) 1).trans (eo0)
        exact hret _ _ _ _ dX11_join_29 ⟨hV_q_12, hF_q_12, ⟨z_19, by omega, by omega, z_21, z_22, ⟨z_20, z_23⟩⟩⟩
      · refine wa_iconst B (-1) dX11_join_21 (by decide) ?_
        exact hret _ _ _ _ dX11_join_22 ⟨hV, hF, ⟨et0, by have h9 : ((-1) : Int32).toInt = (-1) := rfl; omega, by have h9 : ((-1) : Int32).toInt = (-1) := rfl; omega, euu, rfl, ⟨efa, eo0⟩⟩⟩
set_option maxHeartbeats 4000000 in
set_option maxRecDepth 100000 in
theorem k_X11_match_c (l : Launch) (dC : Nat → ClassId) (dI : Nat → Nat → Nat) (h : Sh) (L : List Nat) (hN : sx_nd L) (q : Sg) (hV : sx_V h L q) {a0 : Nat} (ha0 : a0 ∈ L) (ka0 : h.1 a0 = 11) {t0 : Nat} (et0 : q.2.2.1 a0 0 = t0) {tb : Nat} (etb : q.2.2.1 t0 0 = tb) {fa : Nat} (efa : q.2.2.1 a0 9 = fa) {uu : Nat} (euu : q.2.2.1 a0 11 = uu) {o0 : Nat} (eo0 : q.2.2.1 a0 1 = o0) {ob : Nat} (eob : q.2.2.1 o0 0 = ob)    : CMi l dC dI h L yX11_match wsX11_match ({ frames := 10, cells := 0, slots := 0, locals := 245 } : Room) q [.ref a0] (fun r q' => sx_V h L q' ∧ sx_fr h L (fun a => sx_c6 h a) q q' ∧ (q'.2.2.1 a0 0 = t0 ∧ (q'.1 t0 1).toInt = (q.1 t0 1).toInt ∧ (q'.1 a0 14).toInt = (q.1 a0 14).toInt ∧ q'.2.2.1 a0 11 = uu ∧ q'.2.2.1 a0 12 = q.2.2.1 a0 12 ∧ (q'.2.2.1 a0 9 = fa ∧ q'.2.2.1 a0 1 = o0))) := by
  refine cm_i (cc := cX11_match) (mL := 3) (own := RX11) hN (by decide) rfl rfl (Nat.le_of_ble_eq_true rfl) (fun Z B hret => ?_)
  have hF : sx_fr h L (fun a => sx_c6 h a) q q := sx_fr.rf
  obtain ⟨ht0, kt0, lt0⟩ : t0 ∈ L ∧ h.1 t0 = 7 ∧ h.2.1 t0 = 1 := by obtain ⟨r9, e9, z1, z2, z3⟩ := hV.refn (t := 7) (n := 1) ha0 ka0 0 rfl (by decide) rfl (by decide); rw [← et0, e9]; exact ⟨z1, z2, z3⟩
  obtain ⟨htb, ktb, ltb⟩ : tb ∈ L ∧ h.1 tb = 300 ∧ h.2.1 tb = 440 := by obtain ⟨r9, e9, z1, z2, z3⟩ := hV.refn (t := 300) (n := 440) ht0 kt0 0 rfl (by decide) (by rw [lt0]; rfl) (by decide); rw [← etb, e9]; exact ⟨z1, z2, z3⟩
  obtain ⟨hfa, kfa, lfa⟩ : fa ∈ L ∧ h.1 fa = 403 ∧ h.2.1 fa = 12 := by obtain ⟨r9, e9, z1, z2, z3⟩ := hV.refn (t := 403) (n := 12) ha0 ka0 9 rfl (by decide) rfl (by decide); rw [← efa, e9]; exact ⟨z1, z2, z3⟩
  obtain ⟨huu, kuu⟩ : uu ∈ L ∧ h.1 uu = 9 := by obtain ⟨r9, e9, z1, z2⟩ := hV.ref (t := 9) ha0 ka0 11 rfl (by decide); rw [← euu, e9]; exact ⟨z1, z2⟩
  obtain ⟨ho0, ko0, lo0⟩ : o0 ∈ L ∧ h.1 o0 = 7 ∧ h.2.1 o0 = 2 := by obtain ⟨r9, e9, z1, z2, z3⟩ := hV.refn (t := 7) (n := 2) ha0 ka0 1 rfl (by decide) rfl (by decide); rw [← eo0, e9]; exact ⟨z1, z2, z3⟩
  have nt0_o0 : ¬ t0 = o0 := fun z9 => absurd (z9 ▸ lt0 : h.2.1 o0 = 1) (by rw [lo0]; decide)
  obtain ⟨hob, kob, lob⟩ : ob ∈ L ∧ h.1 ob = 300 ∧ h.2.1 ob = 59 := by obtain ⟨r9, e9, z1, z2, z3⟩ := hV.refn (t := 300) (n := 59) ho0 ko0 0 rfl (by decide) (by rw [lo0]; rfl) (by decide); rw [← eob, e9]; exact ⟨z1, z2, z3⟩
  show WA l dC dI h L ({ frames := 10, cells := 0, slots := 0, locals := 245 } : Room) 3 Z q 0 [(0, .ref a0)] []
  refine wa_iconst B 0 dX11_match_0 (by decide) ?_
  refine wa_istore_n B [(1, .int 0), (0, .ref a0)] dX11_match_1 rfl (by decide) rfl ?_
  have Lp_2_4 : ∀ (n : Nat) (v_1 : Int32) (q_2 : Sg), sx_V h L q_2 → sx_fr h L (fun a => sx_c6 h a) q q_2 → q_2.1 t0 1 = (q.1 t0 1) → q_2.1 a0 14 = (q.1 a0 14) → q_2.2.2.1 a0 0 = t0 → q_2.2.2.1 t0 0 = tb → q_2.2.2.1 a0 9 = fa → q_2.2.2.1 a0 11 = uu → q_2.2.2.1 a0 1 = o0 → q_2.2.2.1 o0 0 = ob → q_2.2.2.1 a0 12 = (q.2.2.1 a0 12) → 0 ≤ v_1.toInt → ((q_2.1 a0 14).toInt - v_1.toInt : Int).toNat < n → WA l dC dI h L ({ frames := 10, cells := 0, slots := 0, locals := 245 } : Room) 3 Z q_2 2 [(1, .int v_1), (0, .ref a0)] [] := by
    intro n
    induction n with
    | zero =>
      intro v_1 q_2 hV_q_2 hF_q_2 p0_q_2 p1_q_2 p2_q_2 p3_q_2 p4_q_2 p5_q_2 p6_q_2 p7_q_2 p8_q_2 x_3 hn
      exact absurd hn (Nat.not_lt_zero _)
    | succ n ih_6 =>
      intro v_1 q_2 hV_q_2 hF_q_2 p0_q_2 p1_q_2 p2_q_2 p3_q_2 p4_q_2 p5_q_2 p6_q_2 p7_q_2 p8_q_2 x_3 hn
      have y_5 : (q_2.1 a0 14).toInt = (q.1 a0 14).toInt := by rw [p1_q_2]
      refine wa_iload_n B dX11_match_2 rfl 0 rfl ?_
      refine wa_aload_n B dX11_match_3 rfl 1 rfl ?_
      refine wa_getI B (C := RX11) (T := TX11) (N := 16) iq_X11_match_X11 ha0 ka0 (by decide) rfl 14 (by decide) (by decide) (by decide +kernel) rfl (by decide) (v := (q.1 a0 14)) p1_q_2 dX11_match_4 ?_
      have g_7 : (0 : Int) ≤ (q.1 a0 14).toInt ∧ (q.1 a0 14).toInt ≤ 12 := by rw [← p1_q_2]; exact hV_q_2.int ha0 ka0 14
      refine wa_icmp_ge B 58 dX11_match_7 (by decide) (fun (t_8 : (q.1 a0 14).toInt ≤ v_1.toInt) => ?_) (fun (t_8 : ¬ (q.1 a0 14).toInt ≤ v_1.toInt) => ?_)
      · refine wa_aload_n B dX11_match_58 rfl 1 rfl ?_
        obtain ⟨a_9, ea_9, ha_9, ka_9⟩ := hV_q_2.ref (t := 3) ha0 ka0 6 rfl (by decide)
        refine wa_getR B (C := RX11) (T := TX11) (N := 16) iq_X11_match_X11 ha0 ka0 (by decide) rfl 6 (by decide) (by decide) (by decide +kernel) rfl (fun _ _ _ => rfl) (v := a_9) ea_9 dX11_match_59 ?_
        refine wa_aload_n B dX11_match_62 rfl 1 rfl ?_
        refine wa_getI B (C := RX11) (T := TX11) (N := 16) iq_X11_match_X11 ha0 ka0 (by decide) rfl 14 (by decide) (by decide) (by decide +kernel) rfl (by decide) (v := (q.1 a0 14)) p1_q_2 dX11_match_63 ?_
        refine wa_callVv B (x := (RX3, TX3, 5)) (As := [.int (q.1 a0 14)]) (rest := []) (k_X3_pairUp l dC dI h L hN q_2 hV_q_2 (a0 := a_9) ha_9 ka_9 (q.1 a0 14)  (by first | assumption | omega | decide) (by first | assumption | omega | decide)) (cwV 1 B.1.2.2.2.2 gX11_match_X3_pairUp rfl rfl rfl (by decide +kernel) ⟨Nat.le_of_ble_eq_true rfl, Nat.le_of_ble_eq_true rfl⟩) ha_9 ka_9 (by decide) rfl rfl rfl (Nat.le_of_ble_eq_true rfl) dX11_match_66 (fun q_10 w_11 => ?_)
        obtain ⟨hV_q_10, h2_q_10⟩ := w_11
        have hF_q_10 : sx_fr h L (fun a => sx_c6 h a) q q_10 := hF_q_2.tr (h2_q_10.mono (fun a (z : a = a_9 ∧ h.1 a = 3) => ((fun z => (sx_c6.k z.2 (by decide))) z)))
        refine wa_aload_n B dX11_match_69 rfl 1 rfl ?_
        have z_12 : q_10.2.2.1 a0 6 = a_9 := (h2_q_10.R ha0 (show ¬ ((a0 = a_9 ∧ h.1 a0 = 3) ∧ (h.1 a0 = 8 ∨ h.1 a0 = 11)) from fun z9 => (show ¬ (a0 = a_9 ∧ h.1 a0 = 3) from (fun z => absurd (z.2.symm.trans ka0) (by decide))) z9.1) 6).trans (ea_9)
        refine wa_getR B (C := RX11) (T := TX11) (N := 16) iq_X11_match_X11 ha0 ka0 (by decide) rfl 6 (by decide) (by decide) (by decide +kernel) rfl (fun _ _ _ => rfl) (v := a_9) z_12 dX11_match_70 ?_
        refine wa_getI B (C := RX3) (T := TX3) (N := 5) iq_X11_match_X3 ha_9 ka_9 (by decide) rfl 1 (by decide) (by decide) (by decide +kernel) rfl (by decide) (v := (q_10.1 a_9 1)) rfl dX11_match_73 ?_
        have z_13 : q_10.1 a0 14 = (q.1 a0 14) := (h2_q_10.I ha0 (show ¬ (a0 = a_9 ∧ h.1 a0 = 3) from (fun z => absurd (z.2.symm.trans ka0) (by decide))) 14).trans (p1_q_2)
        have y_14 : (q_10.1 a0 14).toInt = (q.1 a0 14).toInt := by rw [z_13]
        have z_15 : q_10.1 t0 1 = (q.1 t0 1) := (h2_q_10.I ht0 (show ¬ (t0 = a_9 ∧ h.1 t0 = 3) from (fun z => absurd (z.2.symm.trans kt0) (by decide))) 1).trans (p0_q_2)
        have y_16 : (q_10.1 t0 1).toInt = (q.1 t0 1).toInt := by rw [z_15]
        have z_17 : q_10.2.2.1 a0 0 = t0 := (h2_q_10.R ha0 (show ¬ ((a0 = a_9 ∧ h.1 a0 = 3) ∧ (h.1 a0 = 8 ∨ h.1 a0 = 11)) from fun z9 => (show ¬ (a0 = a_9 ∧ h.1 a0 = 3) from (fun z => absurd (z.2.symm.trans ka0) (by decide))) z9.1) 0).trans (p2_q_2)
        have z_18 : q_10.2.2.1 a0 9 = fa := (h2_q_10.R ha0 (show ¬ ((a0 = a_9 ∧ h.1 a0 = 3) ∧ (h.1 a0 = 8 ∨ h.1 a0 = 11)) from fun z9 => (show ¬ (a0 = a_9 ∧ h.1 a0 = 3) from (fun z => absurd (z.2.symm.trans ka0) (by decide))) z9.1) 9).trans (p4_q_2)
        have z_19 : q_10.2.2.1 a0 11 = uu := (h2_q_10.R ha0 (show ¬ ((a0 = a_9 ∧ h.1 a0 = 3) ∧ (h.1 a0 = 8 ∨ h.1 a0 = 11)) from fun z9 => (show ¬ (a0 = a_9 ∧ h.1 a0 = 3) from (fun z => absurd (z.2.symm.trans ka0) (by decide))) z9.1) 11).trans (p5_q_2)
        have z_20 : q_10.2.2.1 a0 12 = (q.2.2.1 a0 12) := (h2_q_10.R ha0 (show ¬ ((a0 = a_9 ∧ h.1 a0 = 3) ∧ (h.1 a0 = 8 ∨ h.1 a0 = 11)) from fun z9 => (show ¬ (a0 = a_9 ∧ h.1 a0 = 3) from (fun z => absurd (z.2.symm.trans ka0) (by decide))) z9.1) 12).trans (p8_q_2)
        have z_21 : q_10.2.2.1 a0 1 = o0 := (h2_q_10.R ha0 (show ¬ ((a0 = a_9 ∧ h.1 a0 = 3) ∧ (h.1 a0 = 8 ∨ h.1 a0 = 11)) from fun z9 => (show ¬ (a0 = a_9 ∧ h.1 a0 = 3) from (fun z => absurd (z.2.symm.trans ka0) (by decide))) z9.1) 1).trans (p6_q_2)
        exact hret _ _ _ _ dX11_match_76 ⟨hV_q_10, hF_q_10, ⟨z_17, by omega, by omega, z_19, z_20, ⟨z_18, z_21⟩⟩⟩
      · refine wa_iload_n B dX11_match_10 rfl 0 rfl ?_
        refine wa_iconst B 1 dX11_match_11 (by decide) ?_
        refine wa_iadd B dX11_match_12 (fun v_22 ev_22 => ?_)
        refine wa_istore_n B [(2, .int v_22), (1, .int v_1), (0, .ref a0)] dX11_match_13 rfl (by decide) rfl ?_
        have Lp_14_27 : ∀ (n : Nat) (v_23 : Int32) (q_24 : Sg), sx_V h L q_24 → sx_fr h L (fun a => sx_c6 h a) q q_24 → q_24.1 t0 1 = (q.1 t0 1) → q_24.1 a0 14 = (q.1 a0 14) → q_24.2.2.1 a0 0 = t0 → q_24.2.2.1 t0 0 = tb → q_24.2.2.1 a0 9 = fa → q_24.2.2.1 a0 11 = uu → q_24.2.2.1 a0 1 = o0 → q_24.2.2.1 o0 0 = ob → q_24.2.2.1 a0 12 = (q.2.2.1 a0 12) → 0 ≤ v_23.toInt → v_1.toInt < (q_24.1 a0 14).toInt → ((q_24.1 a0 14).toInt - v_23.toInt : Int).toNat < n → WA l dC dI h L ({ frames := 10, cells := 0, slots := 0, locals := 245 } : Room) 3 Z q_24 14 [(2, .int v_23), (1, .int v_1), (0, .ref a0)] [] := by
          intro n
          induction n with
          | zero =>
            intro v_23 q_24 hV_q_24 hF_q_24 p0_q_24 p1_q_24 p2_q_24 p3_q_24 p4_q_24 p5_q_24 p6_q_24 p7_q_24 p8_q_24 x_25 x_26 hn
            exact absurd hn (Nat.not_lt_zero _)
          | succ n ih_29 =>
            intro v_23 q_24 hV_q_24 hF_q_24 p0_q_24 p1_q_24 p2_q_24 p3_q_24 p4_q_24 p5_q_24 p6_q_24 p7_q_24 p8_q_24 x_25 x_26 hn
            have y_28 : (q_24.1 a0 14).toInt = (q.1 a0 14).toInt := by rw [p1_q_24]
            refine wa_iload_n B dX11_match_14 rfl 0 rfl ?_
            refine wa_aload_n B dX11_match_15 rfl 2 rfl ?_
            refine wa_getI B (C := RX11) (T := TX11) (N := 16) iq_X11_match_X11 ha0 ka0 (by decide) rfl 14 (by decide) (by decide) (by decide +kernel) rfl (by decide) (v := (q.1 a0 14)) p1_q_24 dX11_match_16 ?_
            have g_30 : (0 : Int) ≤ (q.1 a0 14).toInt ∧ (q.1 a0 14).toInt ≤ 12 := by rw [← p1_q_24]; exact hV_q_24.int ha0 ka0 14
            refine wa_icmp_ge B 52 dX11_match_19 (by decide) (fun (t_31 : (q.1 a0 14).toInt ≤ v_23.toInt) => ?_) (fun (t_31 : ¬ (q.1 a0 14).toInt ≤ v_23.toInt) => ?_)
            · obtain ⟨v_32, ev_32⟩ : ∃ z : Int32, z = v_1 + 1 := ⟨_, rfl⟩
              refine wa_iinc B [(1, .int v_32), (2, .int v_23), (0, .ref a0)] v_32 dX11_match_52 1 rfl (by rw [ev_32]; rfl) (by decide) rfl ?_
              refine wa_goto B 2 dX11_match_55 (by decide) ?_
              have tv_32 : v_32.toInt = v_1.toInt + 1 := by have b0 := zx_bd v_1; rw [ev_32]; exact zx_add (show (-2147483648 : Int) ≤ v_1.toInt + 1 by omega) (show v_1.toInt + 1 < (2147483648 : Int) by omega)
              have y_33 : (q_24.1 a0 14).toInt = (q.1 a0 14).toInt := by rw [p1_q_24]
              refine WA.sub [0, 2] rfl ?_
              exact ih_6 v_32 q_24 hV_q_24 hF_q_24 p0_q_24 p1_q_24 p2_q_24 p3_q_24 p4_q_24 p5_q_24 p6_q_24 p7_q_24 p8_q_24 (show 0 ≤ v_32.toInt from by first | assumption | omega | decide) (show ((q_24.1 a0 14).toInt - v_32.toInt : Int).toNat < _ from by omega)
            · refine wa_aload_n B dX11_match_22 rfl 2 rfl ?_
              obtain ⟨a_34, ea_34, ha_34, ka_34⟩ := hV_q_24.ref (t := 3) ha0 ka0 6 rfl (by decide)
              refine wa_getR B (C := RX11) (T := TX11) (N := 16) iq_X11_match_X11 ha0 ka0 (by decide) rfl 6 (by decide) (by decide) (by decide +kernel) rfl (fun _ _ _ => rfl) (v := a_34) ea_34 dX11_match_23 ?_
              refine wa_iload_n B dX11_match_26 rfl 1 rfl ?_
              refine wa_iload_n B dX11_match_27 rfl 0 rfl ?_
              refine wa_aload_n B dX11_match_28 rfl 2 rfl ?_
              refine wa_iload_n B dX11_match_29 rfl 1 rfl ?_
              refine wa_iload_n B dX11_match_30 rfl 0 rfl ?_
              obtain ⟨a_35, ea_35, ha_35, ka_35, la_35⟩ := hV_q_24.refn (n := 3) (t := 7) ha0 ka0 2 rfl (by decide) rfl (by decide)
              have nt0_a_35 : ¬ t0 = a_35 := fun z9 => absurd (z9 ▸ lt0 : h.2.1 a_35 = 1) (by rw [la_35]; decide)
              have no0_a_35 : ¬ o0 = a_35 := fun z9 => absurd (z9 ▸ lo0 : h.2.1 a_35 = 2) (by rw [la_35]; decide)
              obtain ⟨a_36, ea_36, ha_36, ka_36, la_36⟩ := hV_q_24.refn (n := 402) (t := 300) ha_35 ka_35 0 rfl (by decide) (by rw [la_35]; rfl) (by decide)
              refine wa_callVi B (x := (RX11, TX11, 16)) (As := [.int v_1, .int v_23]) (rest := [.int v_23, .int v_1, .ref a_34]) (k_X11_joined_c l dC dI h L hN q_24 hV_q_24 (a0 := a0) ha0 ka0 v_1 v_23 (s0 := a_35) ea_35 (sb := a_36) ea_36  (by first | assumption | omega | decide) (by first | assumption | omega | decide) (by first | assumption | omega | decide) (by first | assumption | omega | decide)) (cwV 2 B.1.2.2.2.2 gX11_match_X11_joined rfl rfl rfl (by decide +kernel) ⟨Nat.le_of_ble_eq_true rfl, Nat.le_of_ble_eq_true rfl⟩) ha0 ka0 (by decide) rfl rfl rfl (Nat.le_of_ble_eq_true rfl) dX11_match_31 (fun r_38 q_37 w_39 => ?_)
              obtain ⟨hV_q_37, h2_q_37⟩ := w_39
              have hF_q_37 : sx_fr h L (fun a => sx_c6 h a) q q_37 := hF_q_24.tr (h2_q_37.mono (fun a (z : h.1 a = 6 ∨ h.1 a = 8 ∨ h.1 a = 5 ∨ h.1 a = 2 ∨ h.1 a = 1 ∨ h.1 a = 4 ∨ a = a_35 ∧ h.1 a = 7 ∨ a = a_36 ∧ h.1 a = 300) => ((fun z => z.elim (fun z => (sx_c6.k z (by decide))) (fun z => z.elim (fun z => (sx_c6.k z (by decide))) (fun z => z.elim (fun z => (sx_c6.k z (by decide))) (fun z => z.elim (fun z => (sx_c6.k z (by decide))) (fun z => z.elim (fun z => (sx_c6.k z (by decide))) (fun z => z.elim (fun z => (sx_c6.k z (by decide))) (fun z => z.elim (fun z => (sx_c6.k7 z.2 ((congrArg h.2.1 z.1).trans la_35) (by decide))) (fun z => (sx_c6.k3 z.2 ((congrArg h.2.1 z.1).trans la_36) (by decide)))))))))) z)))
              refine wa_aload_n B dX11_match_34 rfl 2 rfl ?_
              refine wa_iload_n B dX11_match_35 rfl 0 rfl ?_
              refine wa_iload_n B dX11_match_36 rfl 1 rfl ?_
              have z_40 : q_37.2.2.1 a0 2 = a_35 := (h2_q_37.R ha0 (show ¬ ((h.1 a0 = 6 ∨ h.1 a0 = 8 ∨ h.1 a0 = 5 ∨ h.1 a0 = 2 ∨ h.1 a0 = 1 ∨ h.1 a0 = 4 ∨ a0 = a_35 ∧ h.1 a0 = 7 ∨ a0 = a_36 ∧ h.1 a0 = 300) ∧ (h.1 a0 = 8 ∨ h.1 a0 = 11)) from fun z9 => (show ¬ (h.1 a0 = 6 ∨ h.1 a0 = 8 ∨ h.1 a0 = 5 ∨ h.1 a0 = 2 ∨ h.1 a0 = 1 ∨ h.1 a0 = 4 ∨ a0 = a_35 ∧ h.1 a0 = 7 ∨ a0 = a_36 ∧ h.1 a0 = 300) from (fun z => z.elim (fun z => absurd (z.symm.trans ka0) (by decide)) (fun z => z.elim (fun z => absurd (z.symm.trans ka0) (by decide)) (fun z => z.elim (fun z => absurd (z.symm.trans ka0) (by decide)) (fun z => z.elim (fun z => absurd (z.symm.trans ka0) (by decide)) (fun z => z.elim (fun z => absurd (z.symm.trans ka0) (by decide)) (fun z => z.elim (fun z => absurd (z.symm.trans ka0) (by decide)) (fun z => z.elim (fun z => absurd (z.2.symm.trans ka0) (by decide)) (fun z => absurd (z.2.symm.trans ka0) (by decide)))))))))) z9.1) 2).trans (ea_35)
              have z_41 : q_37.2.2.1 a_35 0 = a_36 := (h2_q_37.R ha_35 (fun z9 => absurd z9.2 (by omega)) 0).trans (ea_36)
              refine wa_callVi B (x := (RX11, TX11, 16)) (As := [.int v_23, .int v_1]) (rest := [.int r_38, .int v_23, .int v_1, .ref a_34]) (k_X11_joined_c l dC dI h L hN q_37 hV_q_37 (a0 := a0) ha0 ka0 v_23 v_1 (s0 := a_35) z_40 (sb := a_36) z_41  (by first | assumption | omega | decide) (by first | assumption | omega | decide) (by first | assumption | omega | decide) (by first | assumption | omega | decide)) (cwV 2 B.1.2.2.2.2 gX11_match_X11_joined rfl rfl rfl (by decide +kernel) ⟨Nat.le_of_ble_eq_true rfl, Nat.le_of_ble_eq_true rfl⟩) ha0 ka0 (by decide) rfl rfl rfl (Nat.le_of_ble_eq_true rfl) dX11_match_37 (fun r_43 q_42 w_44 => ?_)
              obtain ⟨hV_q_42, h2_q_42⟩ := w_44
              have hF_q_42 : sx_fr h L (fun a => sx_c6 h a) q q_42 := hF_q_37.tr (h2_q_42.mono (fun a (z : h.1 a = 6 ∨ h.1 a = 8 ∨ h.1 a = 5 ∨ h.1 a = 2 ∨ h.1 a = 1 ∨ h.1 a = 4 ∨ a = a_35 ∧ h.1 a = 7 ∨ a = a_36 ∧ h.1 a = 300) => ((fun z => z.elim (fun z => (sx_c6.k z (by decide))) (fun z => z.elim (fun z => (sx_c6.k z (by decide))) (fun z => z.elim (fun z => (sx_c6.k z (by decide))) (fun z => z.elim (fun z => (sx_c6.k z (by decide))) (fun z => z.elim (fun z => (sx_c6.k z (by decide))) (fun z => z.elim (fun z => (sx_c6.k z (by decide))) (fun z => z.elim (fun z => (sx_c6.k7 z.2 ((congrArg h.2.1 z.1).trans la_35) (by decide))) (fun z => (sx_c6.k3 z.2 ((congrArg h.2.1 z.1).trans la_36) (by decide)))))))))) z)))
              refine wa_mmax B (by decide +kernel) (by decide +kernel) (by decide +kernel) (by decide +kernel) (Nat.le_of_ble_eq_true rfl) (Nat.le_of_ble_eq_true rfl) dX11_match_40 (fun v_45 ev_45 => ?_)
              have gv_45 : (v_45.toInt = r_38.toInt ∨ v_45.toInt = r_43.toInt) ∧ r_38.toInt ≤ v_45.toInt ∧ r_43.toInt ≤ v_45.toInt := by rw [ev_45]; exact zx_max
              refine wa_callVv B (x := (RX3, TX3, 5)) (As := [.int v_1, .int v_23, .int v_45]) (rest := []) (k_X3_tell l dC dI h L hN q_42 hV_q_42 (a0 := a_34) ha_34 ka_34 v_1 v_23 v_45  (by first | assumption | omega | decide) (by first | assumption | omega | decide) (by first | assumption | omega | decide) (by first | assumption | omega | decide)) (cwV 3 B.1.2.2.2.2 gX11_match_X3_tell rfl rfl rfl (by decide +kernel) ⟨Nat.le_of_ble_eq_true rfl, Nat.le_of_ble_eq_true rfl⟩) ha_34 ka_34 (by decide) rfl rfl rfl (Nat.le_of_ble_eq_true rfl) dX11_match_43 (fun q_46 w_47 => ?_)
              obtain ⟨hV_q_46, h2_q_46⟩ := w_47
              have hF_q_46 : sx_fr h L (fun a => sx_c6 h a) q q_46 := hF_q_42.tr (h2_q_46.mono (fun a (z : False) => z.elim))
              obtain ⟨v_48, ev_48⟩ : ∃ z : Int32, z = v_23 + 1 := ⟨_, rfl⟩
              refine wa_iinc B [(2, .int v_48), (1, .int v_1), (0, .ref a0)] v_48 dX11_match_46 0 rfl (by rw [ev_48]; rfl) (by decide) rfl ?_
              refine wa_goto B 14 dX11_match_49 (by decide) ?_
              have tv_48 : v_48.toInt = v_23.toInt + 1 := by have b0 := zx_bd v_23; rw [ev_48]; exact zx_add (show (-2147483648 : Int) ≤ v_23.toInt + 1 by omega) (show v_23.toInt + 1 < (2147483648 : Int) by omega)
              have z_49 : q_46.1 a0 14 = (q.1 a0 14) := (h2_q_46.I ha0 (show ¬ (False) from id) 14).trans ((h2_q_42.I ha0 (show ¬ (h.1 a0 = 6 ∨ h.1 a0 = 8 ∨ h.1 a0 = 5 ∨ h.1 a0 = 2 ∨ h.1 a0 = 1 ∨ h.1 a0 = 4 ∨ a0 = a_35 ∧ h.1 a0 = 7 ∨ a0 = a_36 ∧ h.1 a0 = 300) from (fun z => z.elim (fun z => absurd (z.symm.trans ka0) (by decide)) (fun z => z.elim (fun z => absurd (z.symm.trans ka0) (by decide)) (fun z => z.elim (fun z => absurd (z.symm.trans ka0) (by decide)) (fun z => z.elim (fun z => absurd (z.symm.trans ka0) (by decide)) (fun z => z.elim (fun z => absurd (z.symm.trans ka0) (by decide)) (fun z => z.elim (fun z => absurd (z.symm.trans ka0) (by decide)) (fun z => z.elim (fun z => absurd (z.2.symm.trans ka0) (by decide)) (fun z => absurd (z.2.symm.trans ka0) (by decide)))))))))) 14).trans ((h2_q_37.I ha0 (show ¬ (h.1 a0 = 6 ∨ h.1 a0 = 8 ∨ h.1 a0 = 5 ∨ h.1 a0 = 2 ∨ h.1 a0 = 1 ∨ h.1 a0 = 4 ∨ a0 = a_35 ∧ h.1 a0 = 7 ∨ a0 = a_36 ∧ h.1 a0 = 300) from (fun z => z.elim (fun z => absurd (z.symm.trans ka0) (by decide)) (fun z => z.elim (fun z => absurd (z.symm.trans ka0) (by decide)) (fun z => z.elim (fun z => absurd (z.symm.trans ka0) (by decide)) (fun z => z.elim (fun z => absurd (z.symm.trans ka0) (by decide)) (fun z => z.elim (fun z => absurd (z.symm.trans ka0) (by decide)) (fun z => z.elim (fun z => absurd (z.symm.trans ka0) (by decide)) (fun z => z.elim (fun z => absurd (z.2.symm.trans ka0) (by decide)) (fun z => absurd (z.2.symm.trans ka0) (by decide)))))))))) 14).trans (p1_q_24)))
              have y_50 : (q_46.1 a0 14).toInt = (q.1 a0 14).toInt := by rw [z_49]
              have z_51 : q_46.1 t0 1 = (q.1 t0 1) := (h2_q_46.I ht0 (show ¬ (False) from id) 1).trans ((h2_q_42.I ht0 (show ¬ (h.1 t0 = 6 ∨ h.1 t0 = 8 ∨ h.1 t0 = 5 ∨ h.1 t0 = 2 ∨ h.1 t0 = 1 ∨ h.1 t0 = 4 ∨ t0 = a_35 ∧ h.1 t0 = 7 ∨ t0 = a_36 ∧ h.1 t0 = 300) from (fun z => z.elim (fun z => absurd (z.symm.trans kt0) (by decide)) (fun z => z.elim (fun z => absurd (z.symm.trans kt0) (by decide)) (fun z => z.elim (fun z => absurd (z.symm.trans kt0) (by decide)) (fun z => z.elim (fun z => absurd (z.symm.trans kt0) (by decide)) (fun z => z.elim (fun z => absurd (z.symm.trans kt0) (by decide)) (fun z => z.elim (fun z => absurd (z.symm.trans kt0) (by decide)) (fun z => z.elim (fun z => absurd z.1 (by omega)) (fun z => absurd (z.2.symm.trans kt0) (by decide)))))))))) 1).trans ((h2_q_37.I ht0 (show ¬ (h.1 t0 = 6 ∨ h.1 t0 = 8 ∨ h.1 t0 = 5 ∨ h.1 t0 = 2 ∨ h.1 t0 = 1 ∨ h.1 t0 = 4 ∨ t0 = a_35 ∧ h.1 t0 = 7 ∨ t0 = a_36 ∧ h.1 t0 = 300) from (fun z => z.elim (fun z => absurd (z.symm.trans kt0) (by decide)) (fun z => z.elim (fun z => absurd (z.symm.trans kt0) (by decide)) (fun z => z.elim (fun z => absurd (z.symm.trans kt0) (by decide)) (fun z => z.elim (fun z => absurd (z.symm.trans kt0) (by decide)) (fun z => z.elim (fun z => absurd (z.symm.trans kt0) (by decide)) (fun z => z.elim (fun z => absurd (z.symm.trans kt0) (by decide)) (fun z => z.elim (fun z => absurd z.1 (by omega)) (fun z => absurd (z.2.symm.trans kt0) (by decide)))))))))) 1).trans (p0_q_24)))
              have z_52 : q_46.2.2.1 a0 0 = t0 := (h2_q_46.R ha0 (show ¬ ((False) ∧ (h.1 a0 = 8 ∨ h.1 a0 = 11)) from fun z9 => (show ¬ (False) from id) z9.1) 0).trans ((h2_q_42.R ha0 (show ¬ ((h.1 a0 = 6 ∨ h.1 a0 = 8 ∨ h.1 a0 = 5 ∨ h.1 a0 = 2 ∨ h.1 a0 = 1 ∨ h.1 a0 = 4 ∨ a0 = a_35 ∧ h.1 a0 = 7 ∨ a0 = a_36 ∧ h.1 a0 = 300) ∧ (h.1 a0 = 8 ∨ h.1 a0 = 11)) from fun z9 => (show ¬ (h.1 a0 = 6 ∨ h.1 a0 = 8 ∨ h.1 a0 = 5 ∨ h.1 a0 = 2 ∨ h.1 a0 = 1 ∨ h.1 a0 = 4 ∨ a0 = a_35 ∧ h.1 a0 = 7 ∨ a0 = a_36 ∧ h.1 a0 = 300) from (fun z => z.elim (fun z => absurd (z.symm.trans ka0) (by decide)) (fun z => z.elim (fun z => absurd (z.symm.trans ka0) (by decide)) (fun z => z.elim (fun z => absurd (z.symm.trans ka0) (by decide)) (fun z => z.elim (fun z => absurd (z.symm.trans ka0) (by decide)) (fun z => z.elim (fun z => absurd (z.symm.trans ka0) (by decide)) (fun z => z.elim (fun z => absurd (z.symm.trans ka0) (by decide)) (fun z => z.elim (fun z => absurd (z.2.symm.trans ka0) (by decide)) (fun z => absurd (z.2.symm.trans ka0) (by decide)))))))))) z9.1) 0).trans ((h2_q_37.R ha0 (show ¬ ((h.1 a0 = 6 ∨ h.1 a0 = 8 ∨ h.1 a0 = 5 ∨ h.1 a0 = 2 ∨ h.1 a0 = 1 ∨ h.1 a0 = 4 ∨ a0 = a_35 ∧ h.1 a0 = 7 ∨ a0 = a_36 ∧ h.1 a0 = 300) ∧ (h.1 a0 = 8 ∨ h.1 a0 = 11)) from fun z9 => (show ¬ (h.1 a0 = 6 ∨ h.1 a0 = 8 ∨ h.1 a0 = 5 ∨ h.1 a0 = 2 ∨ h.1 a0 = 1 ∨ h.1 a0 = 4 ∨ a0 = a_35 ∧ h.1 a0 = 7 ∨ a0 = a_36 ∧ h.1 a0 = 300) from (fun z => z.elim (fun z => absurd (z.symm.trans ka0) (by decide)) (fun z => z.elim (fun z => absurd (z.symm.trans ka0) (by decide)) (fun z => z.elim (fun z => absurd (z.symm.trans ka0) (by decide)) (fun z => z.elim (fun z => absurd (z.symm.trans ka0) (by decide)) (fun z => z.elim (fun z => absurd (z.symm.trans ka0) (by decide)) (fun z => z.elim (fun z => absurd (z.symm.trans ka0) (by decide)) (fun z => z.elim (fun z => absurd (z.2.symm.trans ka0) (by decide)) (fun z => absurd (z.2.symm.trans ka0) (by decide)))))))))) z9.1) 0).trans (p2_q_24)))
              have z_53 : q_46.2.2.1 t0 0 = tb := (h2_q_46.R ht0 (fun z9 => absurd z9.2 (by omega)) 0).trans ((h2_q_42.R ht0 (fun z9 => absurd z9.2 (by omega)) 0).trans ((h2_q_37.R ht0 (fun z9 => absurd z9.2 (by omega)) 0).trans (p3_q_24)))
              have z_54 : q_46.2.2.1 a0 9 = fa := (h2_q_46.R ha0 (show ¬ ((False) ∧ (h.1 a0 = 8 ∨ h.1 a0 = 11)) from fun z9 => (show ¬ (False) from id) z9.1) 9).trans ((h2_q_42.R ha0 (show ¬ ((h.1 a0 = 6 ∨ h.1 a0 = 8 ∨ h.1 a0 = 5 ∨ h.1 a0 = 2 ∨ h.1 a0 = 1 ∨ h.1 a0 = 4 ∨ a0 = a_35 ∧ h.1 a0 = 7 ∨ a0 = a_36 ∧ h.1 a0 = 300) ∧ (h.1 a0 = 8 ∨ h.1 a0 = 11)) from fun z9 => (show ¬ (h.1 a0 = 6 ∨ h.1 a0 = 8 ∨ h.1 a0 = 5 ∨ h.1 a0 = 2 ∨ h.1 a0 = 1 ∨ h.1 a0 = 4 ∨ a0 = a_35 ∧ h.1 a0 = 7 ∨ a0 = a_36 ∧ h.1 a0 = 300) from (fun z => z.elim (fun z => absurd (z.symm.trans ka0) (by decide)) (fun z => z.elim (fun z => absurd (z.symm.trans ka0) (by decide)) (fun z => z.elim (fun z => absurd (z.symm.trans ka0) (by decide)) (fun z => z.elim (fun z => absurd (z.symm.trans ka0) (by decide)) (fun z => z.elim (fun z => absurd (z.symm.trans ka0) (by decide)) (fun z => z.elim (fun z => absurd (z.symm.trans ka0) (by decide)) (fun z => z.elim (fun z => absurd (z.2.symm.trans ka0) (by decide)) (fun z => absurd (z.2.symm.trans ka0) (by decide)))))))))) z9.1) 9).trans ((h2_q_37.R ha0 (show ¬ ((h.1 a0 = 6 ∨ h.1 a0 = 8 ∨ h.1 a0 = 5 ∨ h.1 a0 = 2 ∨ h.1 a0 = 1 ∨ h.1 a0 = 4 ∨ a0 = a_35 ∧ h.1 a0 = 7 ∨ a0 = a_36 ∧ h.1 a0 = 300) ∧ (h.1 a0 = 8 ∨ h.1 a0 = 11)) from fun z9 => (show ¬ (h.1 a0 = 6 ∨ h.1 a0 = 8 ∨ h.1 a0 = 5 ∨ h.1 a0 = 2 ∨ h.1 a0 = 1 ∨ h.1 a0 = 4 ∨ a0 = a_35 ∧ h.1 a0 = 7 ∨ a0 = a_36 ∧ h.1 a0 = 300) from (fun z => z.elim (fun z => absurd (z.symm.trans ka0) (by decide)) (fun z => z.elim (fun z => absurd (z.symm.trans ka0) (by decide)) (fun z => z.elim (fun z => absurd (z.symm.trans ka0) (by decide)) (fun z => z.elim (fun z => absurd (z.symm.trans ka0) (by decide)) (fun z => z.elim (fun z => absurd (z.symm.trans ka0) (by decide)) (fun z => z.elim (fun z => absurd (z.symm.trans ka0) (by decide)) (fun z => z.elim (fun z => absurd (z.2.symm.trans ka0) (by decide)) (fun z => absurd (z.2.symm.trans ka0) (by decide)))))))))) z9.1) 9).trans (p4_q_24)))
              have z_55 : q_46.2.2.1 a0 11 = uu := (h2_q_46.R ha0 (show ¬ ((False) ∧ (h.1 a0 = 8 ∨ h.1 a0 = 11)) from fun z9 => (show ¬ (False) from id) z9.1) 11).trans ((h2_q_42.R ha0 (show ¬ ((h.1 a0 = 6 ∨ h.1 a0 = 8 ∨ h.1 a0 = 5 ∨ h.1 a0 = 2 ∨ h.1 a0 = 1 ∨ h.1 a0 = 4 ∨ a0 = a_35 ∧ h.1 a0 = 7 ∨ a0 = a_36 ∧ h.1 a0 = 300) ∧ (h.1 a0 = 8 ∨ h.1 a0 = 11)) from fun z9 => (show ¬ (h.1 a0 = 6 ∨ h.1 a0 = 8 ∨ h.1 a0 = 5 ∨ h.1 a0 = 2 ∨ h.1 a0 = 1 ∨ h.1 a0 = 4 ∨ a0 = a_35 ∧ h.1 a0 = 7 ∨ a0 = a_36 ∧ h.1 a0 = 300) from (fun z => z.elim (fun z => absurd (z.symm.trans ka0) (by decide)) (fun z => z.elim (fun z => absurd (z.symm.trans ka0) (by decide)) (fun z => z.elim (fun z => absurd (z.symm.trans ka0) (by decide)) (fun z => z.elim (fun z => absurd (z.symm.trans ka0) (by decide)) (fun z => z.elim (fun z => absurd (z.symm.trans ka0) (by decide)) (fun z => z.elim (fun z => absurd (z.symm.trans ka0) (by decide)) (fun z => z.elim (fun z => absurd (z.2.symm.trans ka0) (by decide)) (fun z => absurd (z.2.symm.trans ka0) (by decide)))))))))) z9.1) 11).trans ((h2_q_37.R ha0 (show ¬ ((h.1 a0 = 6 ∨ h.1 a0 = 8 ∨ h.1 a0 = 5 ∨ h.1 a0 = 2 ∨ h.1 a0 = 1 ∨ h.1 a0 = 4 ∨ a0 = a_35 ∧ h.1 a0 = 7 ∨ a0 = a_36 ∧ h.1 a0 = 300) ∧ (h.1 a0 = 8 ∨ h.1 a0 = 11)) from fun z9 => (show ¬ (h.1 a0 = 6 ∨ h.1 a0 = 8 ∨ h.1 a0 = 5 ∨ h.1 a0 = 2 ∨ h.1 a0 = 1 ∨ h.1 a0 = 4 ∨ a0 = a_35 ∧ h.1 a0 = 7 ∨ a0 = a_36 ∧ h.1 a0 = 300) from (fun z => z.elim (fun z => absurd (z.symm.trans ka0) (by decide)) (fun z => z.elim (fun z => absurd (z.symm.trans ka0) (by decide)) (fun z => z.elim (fun z => absurd (z.symm.trans ka0) (by decide)) (fun z => z.elim (fun z => absurd (z.symm.trans ka0) (by decide)) (fun z => z.elim (fun z => absurd (z.symm.trans ka0) (by decide)) (fun z => z.elim (fun z => absurd (z.symm.trans ka0) (by decide)) (fun z => z.elim (fun z => absurd (z.2.symm.trans ka0) (by decide)) (fun z => absurd (z.2.symm.trans ka0) (by decide)))))))))) z9.1) 11).trans (p5_q_24)))
              have z_56 : q_46.2.2.1 a0 1 = o0 := (h2_q_46.R ha0 (show ¬ ((False) ∧ (h.1 a0 = 8 ∨ h.1 a0 = 11)) from fun z9 => (show ¬ (False) from id) z9.1) 1).trans ((h2_q_42.R ha0 (show ¬ ((h.1 a0 = 6 ∨ h.1 a0 = 8 ∨ h.1 a0 = 5 ∨ h.1 a0 = 2 ∨ h.1 a0 = 1 ∨ h.1 a0 = 4 ∨ a0 = a_35 ∧ h.1 a0 = 7 ∨ a0 = a_36 ∧ h.1 a0 = 300) ∧ (h.1 a0 = 8 ∨ h.1 a0 = 11)) from fun z9 => (show ¬ (h.1 a0 = 6 ∨ h.1 a0 = 8 ∨ h.1 a0 = 5 ∨ h.1 a0 = 2 ∨ h.1 a0 = 1 ∨ h.1 a0 = 4 ∨ a0 = a_35 ∧ h.1 a0 = 7 ∨ a0 = a_36 ∧ h.1 a0 = 300) from (fun z => z.elim (fun z => absurd (z.symm.trans ka0) (by decide)) (fun z => z.elim (fun z => absurd (z.symm.trans ka0) (by decide)) (fun z => z.elim (fun z => absurd (z.symm.trans ka0) (by decide)) (fun z => z.elim (fun z => absurd (z.symm.trans ka0) (by decide)) (fun z => z.elim (fun z => absurd (z.symm.trans ka0) (by decide)) (fun z => z.elim (fun z => absurd (z.symm.trans ka0) (by decide)) (fun z => z.elim (fun z => absurd (z.2.symm.trans ka0) (by decide)) (fun z => absurd (z.2.symm.trans ka0) (by decide)))))))))) z9.1) 1).trans ((h2_q_37.R ha0 (show ¬ ((h.1 a0 = 6 ∨ h.1 a0 = 8 ∨ h.1 a0 = 5 ∨ h.1 a0 = 2 ∨ h.1 a0 = 1 ∨ h.1 a0 = 4 ∨ a0 = a_35 ∧ h.1 a0 = 7 ∨ a0 = a_36 ∧ h.1 a0 = 300) ∧ (h.1 a0 = 8 ∨ h.1 a0 = 11)) from fun z9 => (show ¬ (h.1 a0 = 6 ∨ h.1 a0 = 8 ∨ h.1 a0 = 5 ∨ h.1 a0 = 2 ∨ h.1 a0 = 1 ∨ h.1 a0 = 4 ∨ a0 = a_35 ∧ h.1 a0 = 7 ∨ a0 = a_36 ∧ h.1 a0 = 300) from (fun z => z.elim (fun z => absurd (z.symm.trans ka0) (by decide)) (fun z => z.elim (fun z => absurd (z.symm.trans ka0) (by decide)) (fun z => z.elim (fun z => absurd (z.symm.trans ka0) (by decide)) (fun z => z.elim (fun z => absurd (z.symm.trans ka0) (by decide)) (fun z => z.elim (fun z => absurd (z.symm.trans ka0) (by decide)) (fun z => z.elim (fun z => absurd (z.symm.trans ka0) (by decide)) (fun z => z.elim (fun z => absurd (z.2.symm.trans ka0) (by decide)) (fun z => absurd (z.2.symm.trans ka0) (by decide)))))))))) z9.1) 1).trans (p6_q_24)))
              have z_57 : q_46.2.2.1 o0 0 = ob := (h2_q_46.R ho0 (fun z9 => absurd z9.2 (by omega)) 0).trans ((h2_q_42.R ho0 (fun z9 => absurd z9.2 (by omega)) 0).trans ((h2_q_37.R ho0 (fun z9 => absurd z9.2 (by omega)) 0).trans (p7_q_24)))
              have z_58 : q_46.2.2.1 a0 12 = (q.2.2.1 a0 12) := (h2_q_46.R ha0 (show ¬ ((False) ∧ (h.1 a0 = 8 ∨ h.1 a0 = 11)) from fun z9 => (show ¬ (False) from id) z9.1) 12).trans ((h2_q_42.R ha0 (show ¬ ((h.1 a0 = 6 ∨ h.1 a0 = 8 ∨ h.1 a0 = 5 ∨ h.1 a0 = 2 ∨ h.1 a0 = 1 ∨ h.1 a0 = 4 ∨ a0 = a_35 ∧ h.1 a0 = 7 ∨ a0 = a_36 ∧ h.1 a0 = 300) ∧ (h.1 a0 = 8 ∨ h.1 a0 = 11)) from fun z9 => (show ¬ (h.1 a0 = 6 ∨ h.1 a0 = 8 ∨ h.1 a0 = 5 ∨ h.1 a0 = 2 ∨ h.1 a0 = 1 ∨ h.1 a0 = 4 ∨ a0 = a_35 ∧ h.1 a0 = 7 ∨ a0 = a_36 ∧ h.1 a0 = 300) from (fun z => z.elim (fun z => absurd (z.symm.trans ka0) (by decide)) (fun z => z.elim (fun z => absurd (z.symm.trans ka0) (by decide)) (fun z => z.elim (fun z => absurd (z.symm.trans ka0) (by decide)) (fun z => z.elim (fun z => absurd (z.symm.trans ka0) (by decide)) (fun z => z.elim (fun z => absurd (z.symm.trans ka0) (by decide)) (fun z => z.elim (fun z => absurd (z.symm.trans ka0) (by decide)) (fun z => z.elim (fun z => absurd (z.2.symm.trans ka0) (by decide)) (fun z => absurd (z.2.symm.trans ka0) (by decide)))))))))) z9.1) 12).trans ((h2_q_37.R ha0 (show ¬ ((h.1 a0 = 6 ∨ h.1 a0 = 8 ∨ h.1 a0 = 5 ∨ h.1 a0 = 2 ∨ h.1 a0 = 1 ∨ h.1 a0 = 4 ∨ a0 = a_35 ∧ h.1 a0 = 7 ∨ a0 = a_36 ∧ h.1 a0 = 300) ∧ (h.1 a0 = 8 ∨ h.1 a0 = 11)) from fun z9 => (show ¬ (h.1 a0 = 6 ∨ h.1 a0 = 8 ∨ h.1 a0 = 5 ∨ h.1 a0 = 2 ∨ h.1 a0 = 1 ∨ h.1 a0 = 4 ∨ a0 = a_35 ∧ h.1 a0 = 7 ∨ a0 = a_36 ∧ h.1 a0 = 300) from (fun z => z.elim (fun z => absurd (z.symm.trans ka0) (by decide)) (fun z => z.elim (fun z => absurd (z.symm.trans ka0) (by decide)) (fun z => z.elim (fun z => absurd (z.symm.trans ka0) (by decide)) (fun z => z.elim (fun z => absurd (z.symm.trans ka0) (by decide)) (fun z => z.elim (fun z => absurd (z.symm.trans ka0) (by decide)) (fun z => z.elim (fun z => absurd (z.symm.trans ka0) (by decide)) (fun z => z.elim (fun z => absurd (z.2.symm.trans ka0) (by decide)) (fun z => absurd (z.2.symm.trans ka0) (by decide)))))))))) z9.1) 12).trans (p8_q_24)))
              exact ih_29 v_48 q_46 hV_q_46 hF_q_46 z_51 z_49 z_52 z_53 z_54 z_55 z_56 z_57 z_58 (show 0 ≤ v_48.toInt from by first | assumption | omega | decide) (show v_1.toInt < (q_46.1 a0 14).toInt from by first | assumption | omega | decide) (show ((q_46.1 a0 14).toInt - v_48.toInt : Int).toNat < _ from by omega)
        have tv_22 : v_22.toInt = v_1.toInt + 1 := by have b0 := zx_bd v_1; rw [ev_22]; exact zx_add (show (-2147483648 : Int) ≤ v_1.toInt + 1 by omega) (show v_1.toInt + 1 < (2147483648 : Int) by omega)
        have y_59 : (q_2.1 a0 14).toInt = (q.1 a0 14).toInt := by rw [p1_q_2]
        exact Lp_14_27 _ v_22 q_2 hV_q_2 hF_q_2 p0_q_2 p1_q_2 p2_q_2 p3_q_2 p4_q_2 p5_q_2 p6_q_2 p7_q_2 p8_q_2 (show 0 ≤ v_22.toInt from by first | assumption | omega | decide) (show v_1.toInt < (q_2.1 a0 14).toInt from by first | assumption | omega | decide) (Nat.lt_succ_self _)
  exact Lp_2_4 _ 0 q hV hF rfl rfl et0 etb efa euu eo0 eob rfl (show 0 ≤ 0 from by first | assumption | omega | decide) (Nat.lt_succ_self _)
