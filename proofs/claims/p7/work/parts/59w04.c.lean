set_option maxHeartbeats 4000000 in
set_option maxRecDepth 100000 in
theorem k_X11_write_c (l : Launch) (dC : Nat → ClassId) (dI : Nat → Nat → Nat) (h : Sh) (L : List Nat) (hN : sx_nd L) (q : Sg) (hV : sx_V h L q) {a0 : Nat} (ha0 : a0 ∈ L) (ka0 : h.1 a0 = 11) (n1 : Int32) (n2 : Int32) {t0 : Nat} (et0 : q.2.2.1 a0 0 = t0) {tb : Nat} (etb : q.2.2.1 t0 0 = tb) {fa : Nat} (efa : q.2.2.1 a0 9 = fa) {uu : Nat} (euu : q.2.2.1 a0 11 = uu) {o0 : Nat} (eo0 : q.2.2.1 a0 1 = o0) {ob : Nat} (eob : q.2.2.1 o0 0 = ob) {c0 : Nat} (ec0 : q.2.2.1 uu 1 = c0) {m0 : Nat} (em0 : q.2.2.1 uu 2 = m0) {w0 : Nat} (ew0 : q.2.2.1 uu 4 = w0)  (Wf : Nat → Nat) (Xf : Nat → List Nat) (T9 : List Nat) (hcc : pz_hd (0 ≤ n1.toInt → n1.toInt < (q.1 uu 6).toInt → pw_c Wf Xf (q.2.2.2.1 c0 n1.toNatClampNeg) (q.2.2.2.1 w0) (q.2.2.2.2 m0) n1.toNatClampNeg)) (hT9 : pw_all Wf Xf (q.2.2.2.1 c0 n1.toNatClampNeg).toInt.toNat n2.toInt.toNat [] = T9) : CMi l dC dI h L yX11_write wsX11_write ({ frames := 3, cells := 0, slots := 0, locals := 74 } : Room) q [.ref a0, .int n1, .int n2] (fun r q' => sx_V h L q' ∧ sx_fr h L (fun a => a = o0 ∧ h.1 a = 7 ∨ a = ob ∧ h.1 a = 300) q q' ∧ (q'.2.2.1 a0 0 = t0 ∧ (q'.1 t0 1).toInt = (q.1 t0 1).toInt ∧ (q'.1 a0 14).toInt = (q.1 a0 14).toInt ∧ q'.2.2.1 a0 11 = uu ∧ q'.2.2.1 a0 12 = q.2.2.1 a0 12 ∧ (q'.2.2.1 a0 9 = fa ∧ q'.2.2.1 a0 1 = o0) ∧ (¬ ((0 ≤ n1.toInt ∧ n1.toInt < (q.1 uu 6).toInt) ∧ 1 ≤ n2.toInt ∧ n2.toInt.toNat / Wf ((q.2.2.2.1 c0 n1.toNatClampNeg).toInt.toNat - 1) ≤ 99) ∧ r.toInt = -1 ∧ q'.1 o0 1 = q.1 o0 1 ∧ q'.2.2.2.1 ob = q.2.2.2.1 ob ∨ ((0 ≤ n1.toInt ∧ n1.toInt < (q.1 uu 6).toInt) ∧ 1 ≤ n2.toInt ∧ n2.toInt.toNat / Wf ((q.2.2.2.1 c0 n1.toNatClampNeg).toInt.toNat - 1) ≤ 99) ∧ pw_C T9 (q'.1 o0 1) (q'.2.2.2.1 ob) ∧ r = q'.1 o0 1))) := by
  refine cm_i (cc := cX11_write) (mL := 3) (own := RX11) hN (by decide) rfl rfl (Nat.le_of_ble_eq_true rfl) (fun Z B hret => ?_)
  have hF : sx_fr h L (fun a => a = o0 ∧ h.1 a = 7 ∨ a = ob ∧ h.1 a = 300) q q := sx_fr.rf
  obtain ⟨ht0, kt0, lt0⟩ : t0 ∈ L ∧ h.1 t0 = 7 ∧ h.2.1 t0 = 1 := by obtain ⟨r9, e9, z1, z2, z3⟩ := hV.refn (t := 7) (n := 1) ha0 ka0 0 rfl (by decide) rfl (by decide); rw [← et0, e9]; exact ⟨z1, z2, z3⟩
  obtain ⟨htb, ktb, ltb⟩ : tb ∈ L ∧ h.1 tb = 300 ∧ h.2.1 tb = 440 := by obtain ⟨r9, e9, z1, z2, z3⟩ := hV.refn (t := 300) (n := 440) ht0 kt0 0 rfl (by decide) (by rw [lt0]; rfl) (by decide); rw [← etb, e9]; exact ⟨z1, z2, z3⟩
  obtain ⟨hfa, kfa, lfa⟩ : fa ∈ L ∧ h.1 fa = 403 ∧ h.2.1 fa = 12 := by obtain ⟨r9, e9, z1, z2, z3⟩ := hV.refn (t := 403) (n := 12) ha0 ka0 9 rfl (by decide) rfl (by decide); rw [← efa, e9]; exact ⟨z1, z2, z3⟩
  obtain ⟨huu, kuu⟩ : uu ∈ L ∧ h.1 uu = 9 := by obtain ⟨r9, e9, z1, z2⟩ := hV.ref (t := 9) ha0 ka0 11 rfl (by decide); rw [← euu, e9]; exact ⟨z1, z2⟩
  obtain ⟨ho0, ko0, lo0⟩ : o0 ∈ L ∧ h.1 o0 = 7 ∧ h.2.1 o0 = 2 := by obtain ⟨r9, e9, z1, z2, z3⟩ := hV.refn (t := 7) (n := 2) ha0 ka0 1 rfl (by decide) rfl (by decide); rw [← eo0, e9]; exact ⟨z1, z2, z3⟩
  have nt0_o0 : ¬ t0 = o0 := fun z9 => absurd (z9 ▸ lt0 : h.2.1 o0 = 1) (by rw [lo0]; decide)
  obtain ⟨hob, kob, lob⟩ : ob ∈ L ∧ h.1 ob = 300 ∧ h.2.1 ob = 59 := by obtain ⟨r9, e9, z1, z2, z3⟩ := hV.refn (t := 300) (n := 59) ho0 ko0 0 rfl (by decide) (by rw [lo0]; rfl) (by decide); rw [← eob, e9]; exact ⟨z1, z2, z3⟩
  obtain ⟨hc0, kc0, lc0⟩ : c0 ∈ L ∧ h.1 c0 = 101 ∧ h.2.1 c0 = 3 := by obtain ⟨r9, e9, z1, z2, z3⟩ := hV.refn (t := 101) (n := 3) huu kuu 1 rfl (by decide) rfl (by decide); rw [← ec0, e9]; exact ⟨z1, z2, z3⟩
  obtain ⟨hm0, km0, lm0⟩ : m0 ∈ L ∧ h.1 m0 = 202 ∧ h.2.1 m0 = 15 := by obtain ⟨r9, e9, z1, z2, z3⟩ := hV.refn (t := 202) (n := 15) huu kuu 2 rfl (by decide) rfl (by decide); rw [← em0, e9]; exact ⟨z1, z2, z3⟩
  obtain ⟨hw0, kw0, lw0⟩ : w0 ∈ L ∧ h.1 w0 = 103 ∧ h.2.1 w0 = 15 := by obtain ⟨r9, e9, z1, z2, z3⟩ := hV.refn (t := 103) (n := 15) huu kuu 4 rfl (by decide) rfl (by decide); rw [← ew0, e9]; exact ⟨z1, z2, z3⟩
  show WA l dC dI h L ({ frames := 3, cells := 0, slots := 0, locals := 74 } : Room) 3 Z q 0 [(0, .ref a0), (1, .int n1), (2, .int n2)] []
  refine wa_aload_n B dX11_write_0 rfl 0 rfl ?_
  refine wa_iload_n B dX11_write_1 rfl 1 rfl ?_
  refine wa_callVi B (x := (RX11, TX11, 16)) (As := [.int n1]) (rest := []) (k_X11_isSystem_c l dC dI h L hN q hV (a0 := a0) ha0 ka0 n1 (uu := uu) euu  ) (cwV 1 B.1.2.2.2.2 gX11_write_X11_isSystem rfl rfl rfl (by decide +kernel) ⟨Nat.le_of_ble_eq_true rfl, Nat.le_of_ble_eq_true rfl⟩) ha0 ka0 (by decide) rfl rfl rfl (Nat.le_of_ble_eq_true rfl) dX11_write_2 (fun r_2 q_1 w_3 => ?_)
  obtain ⟨ew_3, hw_3⟩ := w_3
  subst ew_3
  refine wa_if_eq B 25 dX11_write_5 (by decide) (fun (t_4 : r_2.toInt = 0) => ?_) (fun (t_4 : ¬ r_2.toInt = 0) => ?_)
  · refine wa_iconst B (-1) dX11_write_25 (by decide) ?_
    exact hret _ _ _ _ dX11_write_26 ⟨hV, hF, ⟨et0, by have h9 : ((-1) : Int32).toInt = (-1) := rfl; omega, by have h9 : ((-1) : Int32).toInt = (-1) := rfl; omega, euu, rfl, ⟨efa, eo0⟩, Or.inl ⟨by omega, rfl, rfl, rfl⟩⟩⟩
  · refine wa_iload_n B dX11_write_8 rfl 2 rfl ?_
    refine wa_iconst B 1 dX11_write_9 (by decide) ?_
    refine wa_icmp_lt B 25 dX11_write_10 (by decide) (fun (t_5 : n2.toInt < 1) => ?_) (fun (t_5 : ¬ n2.toInt < 1) => ?_)
    · refine wa_iconst B (-1) dX11_write_25 (by decide) ?_
      exact hret _ _ _ _ dX11_write_26 ⟨hV, hF, ⟨et0, by have h9 : ((-1) : Int32).toInt = (-1) := rfl; omega, by have h9 : ((-1) : Int32).toInt = (-1) := rfl; omega, euu, rfl, ⟨efa, eo0⟩, Or.inl ⟨by omega, rfl, rfl, rfl⟩⟩⟩
    · have hc8 := hcc
      unfold pz_hd at hc8
      have hc9 := hc8 (by omega) (by omega)
      clear hc8
      refine wa_aload_n B dX11_write_13 rfl 0 rfl ?_
      refine wa_getR B (C := RX11) (T := TX11) (N := 16) iq_X11_write_X11 ha0 ka0 (by decide) rfl 11 (by decide) (by decide) (by decide +kernel) rfl (fun _ _ _ => rfl) (v := uu) euu dX11_write_14 ?_
      refine wa_iload_n B dX11_write_17 rfl 1 rfl ?_
      refine wa_iload_n B dX11_write_18 rfl 2 rfl ?_
      refine wa_callVi B (x := (RX9, TX9, 7)) (As := [.int n1, .int n2]) (rest := []) (k_X9_canWrite_c l dC dI h L hN q hV (a0 := uu) huu kuu n1 n2 (c0 := c0) ec0 (m0 := m0) em0 (w0 := w0) ew0 Wf Xf (by first | assumption | omega | decide) (by first | assumption | omega | decide) (by first | assumption | omega | decide) hc9) (cwV 2 B.1.2.2.2.2 gX11_write_X9_canWrite rfl rfl rfl (by decide +kernel) ⟨Nat.le_of_ble_eq_true rfl, Nat.le_of_ble_eq_true rfl⟩) huu kuu (by decide) rfl rfl rfl (Nat.le_of_ble_eq_true rfl) dX11_write_19 (fun r_7 q_6 w_8 => ?_)
      obtain ⟨ew_8, hw_8⟩ := w_8
      subst ew_8
      refine wa_if_ne B 27 dX11_write_22 (by decide) (fun (t_9 : ¬ r_7.toInt = 0) => ?_) (fun (t_9 : r_7.toInt = 0) => ?_)
      · refine wa_aload_n B dX11_write_27 rfl 0 rfl ?_
        refine wa_getR B (C := RX11) (T := TX11) (N := 16) iq_X11_write_X11 ha0 ka0 (by decide) rfl 1 (by decide) (by decide) (by decide +kernel) rfl (fun _ _ _ => rfl) (v := o0) eo0 dX11_write_28 ?_
        refine wa_callVv B (x := (RX7, TX7, 2)) (As := []) (rest := []) (k_X7_clear l dC dI h L hN q hV (a0 := o0) ho0 ko0  ) (cwV 0 B.1.2.2.2.2 gX11_write_X7_clear rfl rfl rfl (by decide +kernel) ⟨Nat.le_of_ble_eq_true rfl, Nat.le_of_ble_eq_true rfl⟩) ho0 ko0 (by decide) rfl rfl rfl (Nat.le_of_ble_eq_true rfl) dX11_write_31 (fun q_10 w_11 => ?_)
        obtain ⟨hV_q_10, h2_q_10, hw_11⟩ := w_11
        have hF_q_10 : sx_fr h L (fun a => a = o0 ∧ h.1 a = 7 ∨ a = ob ∧ h.1 a = 300) q q_10 := hF.tr (h2_q_10.mono (fun a (z : a = o0 ∧ h.1 a = 7) => ((fun z => (Or.inl z)) z)))
        refine wa_aload_n B dX11_write_34 rfl 0 rfl ?_
        have z_12 : q_10.2.2.1 a0 11 = uu := (h2_q_10.R ha0 (show ¬ ((a0 = o0 ∧ h.1 a0 = 7) ∧ (h.1 a0 = 8 ∨ h.1 a0 = 11)) from fun z9 => (show ¬ (a0 = o0 ∧ h.1 a0 = 7) from (fun z => absurd (z.2.symm.trans ka0) (by decide))) z9.1) 11).trans (euu)
        refine wa_getR B (C := RX11) (T := TX11) (N := 16) iq_X11_write_X11 ha0 ka0 (by decide) rfl 11 (by decide) (by decide) (by decide +kernel) rfl (fun _ _ _ => rfl) (v := uu) z_12 dX11_write_35 ?_
        refine wa_aload_n B dX11_write_38 rfl 0 rfl ?_
        have z_13 : q_10.2.2.1 a0 1 = o0 := (h2_q_10.R ha0 (show ¬ ((a0 = o0 ∧ h.1 a0 = 7) ∧ (h.1 a0 = 8 ∨ h.1 a0 = 11)) from fun z9 => (show ¬ (a0 = o0 ∧ h.1 a0 = 7) from (fun z => absurd (z.2.symm.trans ka0) (by decide))) z9.1) 1).trans (eo0)
        refine wa_getR B (C := RX11) (T := TX11) (N := 16) iq_X11_write_X11 ha0 ka0 (by decide) rfl 1 (by decide) (by decide) (by decide +kernel) rfl (fun _ _ _ => rfl) (v := o0) z_13 dX11_write_39 ?_
        refine wa_iload_n B dX11_write_42 rfl 1 rfl ?_
        refine wa_iload_n B dX11_write_43 rfl 2 rfl ?_
        have z_14 : q_10.2.2.1 o0 0 = ob := (h2_q_10.R ho0 (fun z9 => absurd z9.2 (by omega)) 0).trans (eob)
        have z_15 : q_10.2.2.1 uu 1 = c0 := (h2_q_10.R huu (fun z9 => absurd z9.2 (by omega)) 1).trans (ec0)
        have z_16 : q_10.2.2.1 uu 2 = m0 := (h2_q_10.R huu (fun z9 => absurd z9.2 (by omega)) 2).trans (em0)
        have z_17 : q_10.2.2.1 uu 4 = w0 := (h2_q_10.R huu (fun z9 => absurd z9.2 (by omega)) 4).trans (ew0)
        have y_18 : (q_10.1 o0 1).toInt = 0 := by rw [hw_11]; rfl
        have z_19 : q_10.2.2.2.1 c0 = q.2.2.2.1 c0 := h2_q_10.G hc0 (show ¬ (c0 = o0 ∧ h.1 c0 = 7) from (fun z => absurd (z.2.symm.trans kc0) (by decide))) (by rw [kc0]; decide)
        have z_20 : q_10.2.2.2.1 w0 = q.2.2.2.1 w0 := h2_q_10.G hw0 (show ¬ (w0 = o0 ∧ h.1 w0 = 7) from (fun z => absurd (z.2.symm.trans kw0) (by decide))) (by rw [kw0]; decide)
        have z_21 : q_10.2.2.2.2 m0 = q.2.2.2.2 m0 := h2_q_10.Lg hm0 (show ¬ (m0 = o0 ∧ h.1 m0 = 7) from (fun z => absurd (z.2.symm.trans km0) (by decide))) (by rw [km0]; decide)
        refine wa_callVv B (x := (RX9, TX9, 7)) (As := [.ref o0, .int n1, .int n2]) (rest := []) (k_X9_writeTo_c l dC dI h L hN q_10 hV_q_10 (a0 := uu) huu kuu (a1 := o0) ho0 ko0 n1 n2 (b0 := ob) z_14 (c0 := c0) z_15 (m0 := m0) z_16 (w0 := w0) z_17 Wf Xf T9 (by first | assumption | omega | decide) (by first | assumption | omega | decide) (by first | assumption | omega | decide) (by first | assumption | omega | decide) (by rw [z_19, z_20, z_21]; exact hc9) (by rw [z_19]; exact hT9) (by rw [z_19]; omega) ⟨by rw [hw_11]; rfl, fun j hj => absurd hj (Nat.not_lt_zero j)⟩) (cwV 3 B.1.2.2.2.2 gX11_write_X9_writeTo rfl rfl rfl (by decide +kernel) ⟨Nat.le_of_ble_eq_true rfl, Nat.le_of_ble_eq_true rfl⟩) huu kuu (by decide) rfl rfl rfl (Nat.le_of_ble_eq_true rfl) dX11_write_44 (fun q_22 w_23 => ?_)
        obtain ⟨hV_q_22, h2_q_22, hw_23⟩ := w_23
        have hF_q_22 : sx_fr h L (fun a => a = o0 ∧ h.1 a = 7 ∨ a = ob ∧ h.1 a = 300) q q_22 := hF_q_10.tr (h2_q_22.mono (fun a (z : a = o0 ∧ h.1 a = 7 ∨ a = ob ∧ h.1 a = 300) => ((fun z => z.elim (fun z => (Or.inl z)) (fun z => (Or.inr z))) z)))
        refine wa_aload_n B dX11_write_47 rfl 0 rfl ?_
        have z_24 : q_22.2.2.1 a0 1 = o0 := (h2_q_22.R ha0 (show ¬ ((a0 = o0 ∧ h.1 a0 = 7 ∨ a0 = ob ∧ h.1 a0 = 300) ∧ (h.1 a0 = 8 ∨ h.1 a0 = 11)) from fun z9 => (show ¬ (a0 = o0 ∧ h.1 a0 = 7 ∨ a0 = ob ∧ h.1 a0 = 300) from (fun z => z.elim (fun z => absurd (z.2.symm.trans ka0) (by decide)) (fun z => absurd (z.2.symm.trans ka0) (by decide)))) z9.1) 1).trans (z_13)
        refine wa_getR B (C := RX11) (T := TX11) (N := 16) iq_X11_write_X11 ha0 ka0 (by decide) rfl 1 (by decide) (by decide) (by decide +kernel) rfl (fun _ _ _ => rfl) (v := o0) z_24 dX11_write_48 ?_
        refine wa_getI B (C := RX7) (T := TX7) (N := 2) iq_X11_write_X7 ho0 ko0 (by decide) rfl 1 (by decide) (by decide) (by decide +kernel) rfl (by decide) (v := (q_22.1 o0 1)) rfl dX11_write_51 ?_
        have z_26 : q_22.2.2.1 o0 0 = ob := (h2_q_22.R ho0 (fun z9 => absurd z9.2 (by omega)) 0).trans (z_14)
        have g_25 : (0 : Int) ≤ (q_22.1 o0 1).toInt ∧ (q_22.1 o0 1).toInt ≤ (h.2.1 ob : Int) := by have z9 := hV_q_22.int ho0 ko0 1; rw [z_26] at z9; exact z9
        have z_27 : q_22.1 a0 14 = q.1 a0 14 := (h2_q_22.I ha0 (show ¬ (a0 = o0 ∧ h.1 a0 = 7 ∨ a0 = ob ∧ h.1 a0 = 300) from (fun z => z.elim (fun z => absurd (z.2.symm.trans ka0) (by decide)) (fun z => absurd (z.2.symm.trans ka0) (by decide)))) 14).trans (h2_q_10.I ha0 (show ¬ (a0 = o0 ∧ h.1 a0 = 7) from (fun z => absurd (z.2.symm.trans ka0) (by decide))) 14)
        have y_28 : (q_22.1 a0 14).toInt = (q.1 a0 14).toInt := by rw [z_27]
        have z_29 : q_22.1 t0 1 = q.1 t0 1 := (h2_q_22.I ht0 (show ¬ (t0 = o0 ∧ h.1 t0 = 7 ∨ t0 = ob ∧ h.1 t0 = 300) from (fun z => z.elim (fun z => absurd z.1 (by omega)) (fun z => absurd (z.2.symm.trans kt0) (by decide)))) 1).trans (h2_q_10.I ht0 (show ¬ (t0 = o0 ∧ h.1 t0 = 7) from (fun z => absurd z.1 (by omega))) 1)
        have y_30 : (q_22.1 t0 1).toInt = (q.1 t0 1).toInt := by rw [z_29]
        have z_31 : q_22.2.2.1 a0 0 = t0 := (h2_q_22.R ha0 (show ¬ ((a0 = o0 ∧ h.1 a0 = 7 ∨ a0 = ob ∧ h.1 a0 = 300) ∧ (h.1 a0 = 8 ∨ h.1 a0 = 11)) from fun z9 => (show ¬ (a0 = o0 ∧ h.1 a0 = 7 ∨ a0 = ob ∧ h.1 a0 = 300) from (fun z => z.elim (fun z => absurd (z.2.symm.trans ka0) (by decide)) (fun z => absurd (z.2.symm.trans ka0) (by decide)))) z9.1) 0).trans ((h2_q_10.R ha0 (show ¬ ((a0 = o0 ∧ h.1 a0 = 7) ∧ (h.1 a0 = 8 ∨ h.1 a0 = 11)) from fun z9 => (show ¬ (a0 = o0 ∧ h.1 a0 = 7) from (fun z => absurd (z.2.symm.trans ka0) (by decide))) z9.1) 0).trans (et0))
        have z_32 : q_22.2.2.1 a0 9 = fa := (h2_q_22.R ha0 (show ¬ ((a0 = o0 ∧ h.1 a0 = 7 ∨ a0 = ob ∧ h.1 a0 = 300) ∧ (h.1 a0 = 8 ∨ h.1 a0 = 11)) from fun z9 => (show ¬ (a0 = o0 ∧ h.1 a0 = 7 ∨ a0 = ob ∧ h.1 a0 = 300) from (fun z => z.elim (fun z => absurd (z.2.symm.trans ka0) (by decide)) (fun z => absurd (z.2.symm.trans ka0) (by decide)))) z9.1) 9).trans ((h2_q_10.R ha0 (show ¬ ((a0 = o0 ∧ h.1 a0 = 7) ∧ (h.1 a0 = 8 ∨ h.1 a0 = 11)) from fun z9 => (show ¬ (a0 = o0 ∧ h.1 a0 = 7) from (fun z => absurd (z.2.symm.trans ka0) (by decide))) z9.1) 9).trans (efa))
        have z_33 : q_22.2.2.1 a0 11 = uu := (h2_q_22.R ha0 (show ¬ ((a0 = o0 ∧ h.1 a0 = 7 ∨ a0 = ob ∧ h.1 a0 = 300) ∧ (h.1 a0 = 8 ∨ h.1 a0 = 11)) from fun z9 => (show ¬ (a0 = o0 ∧ h.1 a0 = 7 ∨ a0 = ob ∧ h.1 a0 = 300) from (fun z => z.elim (fun z => absurd (z.2.symm.trans ka0) (by decide)) (fun z => absurd (z.2.symm.trans ka0) (by decide)))) z9.1) 11).trans (z_12)
        have z_34 : q_22.2.2.1 a0 12 = q.2.2.1 a0 12 := (h2_q_22.R ha0 (show ¬ ((a0 = o0 ∧ h.1 a0 = 7 ∨ a0 = ob ∧ h.1 a0 = 300) ∧ (h.1 a0 = 8 ∨ h.1 a0 = 11)) from fun z9 => (show ¬ (a0 = o0 ∧ h.1 a0 = 7 ∨ a0 = ob ∧ h.1 a0 = 300) from (fun z => z.elim (fun z => absurd (z.2.symm.trans ka0) (by decide)) (fun z => absurd (z.2.symm.trans ka0) (by decide)))) z9.1) 12).trans (h2_q_10.R ha0 (show ¬ ((a0 = o0 ∧ h.1 a0 = 7) ∧ (h.1 a0 = 8 ∨ h.1 a0 = 11)) from fun z9 => (show ¬ (a0 = o0 ∧ h.1 a0 = 7) from (fun z => absurd (z.2.symm.trans ka0) (by decide))) z9.1) 12)
        exact hret _ _ _ _ dX11_write_54 ⟨hV_q_22, hF_q_22, ⟨z_31, by omega, by omega, z_33, z_34, ⟨z_32, z_24⟩, Or.inr ⟨by omega, hw_23, rfl⟩⟩⟩
      · refine wa_iconst B (-1) dX11_write_25 (by decide) ?_
        exact hret _ _ _ _ dX11_write_26 ⟨hV, hF, ⟨et0, by have h9 : ((-1) : Int32).toInt = (-1) := rfl; omega, by have h9 : ((-1) : Int32).toInt = (-1) := rfl; omega, euu, rfl, ⟨efa, eo0⟩, Or.inl ⟨by omega, rfl, rfl, rfl⟩⟩⟩
