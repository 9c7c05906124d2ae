set_option maxHeartbeats 4000000 in
set_option maxRecDepth 100000 in
theorem k_X10_read_c (l : Launch) (dC : Nat → ClassId) (dI : Nat → Nat → Nat) (h : Sh) (L : List Nat) (hN : sx_nd L) (q : Sg) (hV : sx_V h L q) {a0 : Nat} (ha0 : a0 ∈ L) (ka0 : h.1 a0 = 10) {a1 : Nat} (ha1 : a1 ∈ L) (ka1 : h.1 a1 = 7) {a2 : Nat} (ha2 : a2 ∈ L) (ka2 : h.1 a2 = 9) {k0 : Nat} (ek0 : q.2.2.1 a0 0 = k0) {b0 : Nat} (eb0 : q.2.2.1 a1 0 = b0) {s0 : Nat} (es0 : q.2.2.1 a2 0 = s0) {c0 : Nat} (ec0 : q.2.2.1 a2 1 = c0) {m0 : Nat} (em0 : q.2.2.1 a2 2 = m0) {f0 : Nat} (ef0 : q.2.2.1 a2 3 = f0) {w0 : Nat} (ew0 : q.2.2.1 a2 4 = w0) {x0 : Nat} (ex0 : q.2.2.1 a2 5 = x0)  (F : Nat → Int32) (n9 : Nat) (R9 : Option Nat × PU) (hn9 : (n9 : Int) = (q.1 a1 1).toInt) (hFF : ∀ j : Nat, j < n9 → q.2.2.2.1 b0 j &&& 255 = F j) (hR9 : R9 = pm_run F n9 401 0 0 pu_0 0) : CMi l dC dI h L yX10_read wsX10_read ({ frames := 5, cells := 0, slots := 0, locals := 109 } : Room) q [.ref a0, .ref a1, .ref a2] (fun r q' => sx_V h L q' ∧ sx_fr h L (fun a => a = a0 ∧ h.1 a = 10 ∨ a = k0 ∧ h.1 a = 8 ∨ a = a2 ∧ h.1 a = 9 ∨ a = s0 ∧ h.1 a = 201 ∨ a = c0 ∧ h.1 a = 101 ∨ a = m0 ∧ h.1 a = 202 ∨ a = f0 ∧ h.1 a = 102 ∨ a = w0 ∧ h.1 a = 103 ∨ a = x0 ∧ h.1 a = 104) q q' ∧ (r.toInt = 0 ∧ 0 ≤ (q'.1 k0 6).toInt ∧ R9.1 = some (q'.1 k0 6).toInt.toNat ∨ r.toInt = 1 ∧ R9.1 = none ∧ ((R9.2.1 : Nat) : Int) = (q'.1 a2 6).toInt ∧ r8 F R9.2 (q'.1 a2 6) (q'.2.2.2.2 s0) (q'.2.2.2.1 c0) (q'.2.2.2.2 m0) (q'.2.2.2.1 f0) (q'.2.2.2.1 w0))) := by
  refine cm_z (cc := cX10_read) (mL := 4) (own := RX10) hN (by decide) rfl rfl (Nat.le_of_ble_eq_true rfl) (fun Z B hret => ?_)
  have hF : sx_fr h L (fun a => a = a0 ∧ h.1 a = 10 ∨ a = k0 ∧ h.1 a = 8 ∨ a = a2 ∧ h.1 a = 9 ∨ a = s0 ∧ h.1 a = 201 ∨ a = c0 ∧ h.1 a = 101 ∨ a = m0 ∧ h.1 a = 202 ∨ a = f0 ∧ h.1 a = 102 ∨ a = w0 ∧ h.1 a = 103 ∨ a = x0 ∧ h.1 a = 104) q q := sx_fr.rf
  obtain ⟨hk0, kk0⟩ : k0 ∈ L ∧ h.1 k0 = 8 := by obtain ⟨r9, e9, z1, z2⟩ := hV.ref (t := 8) ha0 ka0 0 rfl (by decide); rw [← ek0, e9]; exact ⟨z1, z2⟩
  obtain ⟨hb0, kb0⟩ : b0 ∈ L ∧ h.1 b0 = 300 := by obtain ⟨r9, e9, z1, z2⟩ := hV.ref (t := 300) ha1 ka1 0 rfl (by decide); rw [← eb0, e9]; exact ⟨z1, z2⟩
  obtain ⟨hs0, ks0, ls0⟩ : s0 ∈ L ∧ h.1 s0 = 201 ∧ h.2.1 s0 = 3 := by obtain ⟨r9, e9, z1, z2, z3⟩ := hV.refn (t := 201) (n := 3) ha2 ka2 0 rfl (by decide) rfl (by decide); rw [← es0, e9]; exact ⟨z1, z2, z3⟩
  obtain ⟨hc0, kc0, lc0⟩ : c0 ∈ L ∧ h.1 c0 = 101 ∧ h.2.1 c0 = 3 := by obtain ⟨r9, e9, z1, z2, z3⟩ := hV.refn (t := 101) (n := 3) ha2 ka2 1 rfl (by decide) rfl (by decide); rw [← ec0, e9]; exact ⟨z1, z2, z3⟩
  obtain ⟨hm0, km0, lm0⟩ : m0 ∈ L ∧ h.1 m0 = 202 ∧ h.2.1 m0 = 15 := by obtain ⟨r9, e9, z1, z2, z3⟩ := hV.refn (t := 202) (n := 15) ha2 ka2 2 rfl (by decide) rfl (by decide); rw [← em0, e9]; exact ⟨z1, z2, z3⟩
  obtain ⟨hf0, kf0, lf0⟩ : f0 ∈ L ∧ h.1 f0 = 102 ∧ h.2.1 f0 = 15 := by obtain ⟨r9, e9, z1, z2, z3⟩ := hV.refn (t := 102) (n := 15) ha2 ka2 3 rfl (by decide) rfl (by decide); rw [← ef0, e9]; exact ⟨z1, z2, z3⟩
  obtain ⟨hw0, kw0, lw0⟩ : w0 ∈ L ∧ h.1 w0 = 103 ∧ h.2.1 w0 = 15 := by obtain ⟨r9, e9, z1, z2, z3⟩ := hV.refn (t := 103) (n := 15) ha2 ka2 4 rfl (by decide) rfl (by decide); rw [← ew0, e9]; exact ⟨z1, z2, z3⟩
  obtain ⟨hx0, kx0, lx0⟩ : x0 ∈ L ∧ h.1 x0 = 104 ∧ h.2.1 x0 = 15 := by obtain ⟨r9, e9, z1, z2, z3⟩ := hV.refn (t := 104) (n := 15) ha2 ka2 5 rfl (by decide) rfl (by decide); rw [← ex0, e9]; exact ⟨z1, z2, z3⟩
  show WA l dC dI h L ({ frames := 5, cells := 0, slots := 0, locals := 109 } : Room) 4 Z q 0 [(0, .ref a0), (1, .ref a1), (2, .ref a2)] []
  have g_1 : (0 : Int) ≤ (q.1 a1 1).toInt ∧ (q.1 a1 1).toInt ≤ (h.2.1 b0 : Int) := by have z9 := hV.int ha1 ka1 1; rw [eb0] at z9; exact z9
  have l_2 : h.2.1 b0 ≤ 5000 := hV.len hb0
  refine wa_aload_n B dX10_read_0 rfl 2 rfl ?_
  refine wa_callVv B (x := (RX9, TX9, 7)) (As := []) (rest := []) (k_X9_clear_c l dC dI h L hN q hV (a0 := a2) ha2 ka2 (s0 := s0) es0 (c0 := c0) ec0 (m0 := m0) em0  ) (cwV 0 B.1.2.2.2.2 gX10_read_X9_clear rfl rfl rfl (by decide +kernel) ⟨Nat.le_of_ble_eq_true rfl, Nat.le_of_ble_eq_true rfl⟩) ha2 ka2 (by decide) rfl rfl rfl (Nat.le_of_ble_eq_true rfl) dX10_read_1 (fun q_3 w_4 => ?_)
  obtain ⟨hV_q_3, h2_q_3, hw_4⟩ := w_4
  have hF_q_3 : sx_fr h L (fun a => a = a0 ∧ h.1 a = 10 ∨ a = k0 ∧ h.1 a = 8 ∨ a = a2 ∧ h.1 a = 9 ∨ a = s0 ∧ h.1 a = 201 ∨ a = c0 ∧ h.1 a = 101 ∨ a = m0 ∧ h.1 a = 202 ∨ a = f0 ∧ h.1 a = 102 ∨ a = w0 ∧ h.1 a = 103 ∨ a = x0 ∧ h.1 a = 104) q q_3 := hF.tr (h2_q_3.mono (fun a (z : a = a2 ∧ h.1 a = 9 ∨ a = s0 ∧ h.1 a = 201 ∨ a = c0 ∧ h.1 a = 101 ∨ a = m0 ∧ h.1 a = 202) => ((fun z => z.elim (fun z => (Or.inr (Or.inr (Or.inl z)))) (fun z => z.elim (fun z => (Or.inr (Or.inr (Or.inr (Or.inl z))))) (fun z => z.elim (fun z => (Or.inr (Or.inr (Or.inr (Or.inr (Or.inl z)))))) (fun z => (Or.inr (Or.inr (Or.inr (Or.inr (Or.inr (Or.inl z)))))))))) z)))
  refine wa_aload_n B dX10_read_4 rfl 0 rfl ?_
  have z_5 : q_3.2.2.1 a0 0 = k0 := (h2_q_3.R ha0 (fun z9 => absurd z9.2 (by omega)) 0).trans (ek0)
  refine wa_getR B (C := RX10) (T := TX10) (N := 3) iq_X10_read_X10 ha0 ka0 (by decide) rfl 0 (by decide) (by decide) (by decide +kernel) rfl (fun _ _ _ => rfl) (v := k0) z_5 dX10_read_5 ?_
  refine wa_aload_n B dX10_read_8 rfl 1 rfl ?_
  refine wa_sipush B 400 dX10_read_9 (by decide) ?_
  refine wa_iconst B 0 dX10_read_12 (by decide) ?_
  have n_6 : (400 : Int32).toInt = 400 := rfl
  have n_7 : (0 : Int32).toInt = 0 := rfl
  refine wa_callVv B (x := (RX8, TX8, 11)) (As := [.ref a1, .int 400, .int 0]) (rest := []) (k_X8_begin_c l dC dI h L hN q_3 hV_q_3 (a0 := k0) hk0 kk0 (a1 := a1) ha1 ka1 400 0  (by first | assumption | omega | decide)) (cwV 3 B.1.2.2.2.2 gX10_read_X8_begin rfl rfl rfl (by decide +kernel) ⟨Nat.le_of_ble_eq_true rfl, Nat.le_of_ble_eq_true rfl⟩) hk0 kk0 (by decide) rfl rfl rfl (Nat.le_of_ble_eq_true rfl) dX10_read_13 (fun q_8 w_9 => ?_)
  obtain ⟨hV_q_8, h2_q_8, hw_9⟩ := w_9
  have hF_q_8 : sx_fr h L (fun a => a = a0 ∧ h.1 a = 10 ∨ a = k0 ∧ h.1 a = 8 ∨ a = a2 ∧ h.1 a = 9 ∨ a = s0 ∧ h.1 a = 201 ∨ a = c0 ∧ h.1 a = 101 ∨ a = m0 ∧ h.1 a = 202 ∨ a = f0 ∧ h.1 a = 102 ∨ a = w0 ∧ h.1 a = 103 ∨ a = x0 ∧ h.1 a = 104) q q_8 := hF_q_3.tr (h2_q_8.mono (fun a (z : a = k0 ∧ h.1 a = 8) => ((fun z => (Or.inr (Or.inl z))) z)))
  refine wa_aload_n B dX10_read_16 rfl 0 rfl ?_
  refine wa_iconst B 0 dX10_read_17 (by decide) ?_
  refine wa_putI B (C := RX10) (T := TX10) (N := 3) iq_X10_read_X10 ha0 ka0 (by decide) rfl 1 (by decide) (by decide) (by decide +kernel) rfl (by decide) (v := 0) (ty := .int) tyX10 tyX10_ok nmX10 rfl (by decide +kernel) rfl rfl dX10_read_18 (fun q_11 eq_11 => ?_)
  have hV_q_11 : sx_V h L q_11 := by rw [eq_11]; exact hV_q_8.pI ka0 trivial
  have hF_q_11 : sx_fr h L (fun a => a = a0 ∧ h.1 a = 10 ∨ a = k0 ∧ h.1 a = 8 ∨ a = a2 ∧ h.1 a = 9 ∨ a = s0 ∧ h.1 a = 201 ∨ a = c0 ∧ h.1 a = 101 ∨ a = m0 ∧ h.1 a = 202 ∨ a = f0 ∧ h.1 a = 102 ∨ a = w0 ∧ h.1 a = 103 ∨ a = x0 ∧ h.1 a = 104) q q_11 := hF_q_8.tr (by rw [eq_11]; exact sx_fr.pI (show a0 = a0 ∧ h.1 a0 = 10 ∨ a0 = k0 ∧ h.1 a0 = 8 ∨ a0 = a2 ∧ h.1 a0 = 9 ∨ a0 = s0 ∧ h.1 a0 = 201 ∨ a0 = c0 ∧ h.1 a0 = 101 ∨ a0 = m0 ∧ h.1 a0 = 202 ∨ a0 = f0 ∧ h.1 a0 = 102 ∨ a0 = w0 ∧ h.1 a0 = 103 ∨ a0 = x0 ∧ h.1 a0 = 104 from (Or.inl ⟨rfl, ka0⟩)))
  have z_12 : q_11.1 a0 1 = 0 := by rw [eq_11]; exact sg_pI_e
  refine wa_iconst B 0 dX10_read_21 (by decide) ?_
  refine wa_istore_n B [(3, .int 0), (0, .ref a0), (1, .ref a1), (2, .ref a2)] dX10_read_22 rfl (by decide) rfl ?_
  have z_15 : q_11.1 a1 1 = q.1 a1 1 := ((show q_11.1 a1 1 = q_8.1 a1 1 from by rw [eq_11]; exact sg_pI_a (sx_ka h ka1 ka0 (by decide)))).trans ((h2_q_8.I ha1 (show ¬ (a1 = k0 ∧ h.1 a1 = 8) from (fun z => absurd (z.2.symm.trans ka1) (by decide))) 1).trans (h2_q_3.I ha1 (show ¬ (a1 = a2 ∧ h.1 a1 = 9 ∨ a1 = s0 ∧ h.1 a1 = 201 ∨ a1 = c0 ∧ h.1 a1 = 101 ∨ a1 = m0 ∧ h.1 a1 = 202) from (fun z => z.elim (fun z => absurd (z.2.symm.trans ka1) (by decide)) (fun z => z.elim (fun z => absurd (z.2.symm.trans ka1) (by decide)) (fun z => z.elim (fun z => absurd (z.2.symm.trans ka1) (by decide)) (fun z => absurd (z.2.symm.trans ka1) (by decide)))))) 1))
  have z_16 : q_11.1 a2 6 = q_3.1 a2 6 := ((show q_11.1 a2 6 = q_8.1 a2 6 from by rw [eq_11]; exact sg_pI_k (by decide))).trans (h2_q_8.I ha2 (show ¬ (a2 = k0 ∧ h.1 a2 = 8) from (fun z => absurd (z.2.symm.trans ka2) (by decide))) 6)
  have z_17 : q_11.1 k0 10 = q_8.1 k0 10 := (show q_11.1 k0 10 = q_8.1 k0 10 from by rw [eq_11]; exact sg_pI_k (by decide))
  have z_18 : q_11.1 k0 8 = q_8.1 k0 8 := (show q_11.1 k0 8 = q_8.1 k0 8 from by rw [eq_11]; exact sg_pI_k (by decide))
  have z_19 : q_11.1 k0 9 = q_8.1 k0 9 := (show q_11.1 k0 9 = q_8.1 k0 9 from by rw [eq_11]; exact sg_pI_k (by decide))
  have z_20 : q_11.2.2.1 a0 0 = k0 := ((show q_11.2.2.1 a0 0 = q_8.2.2.1 a0 0 from by rw [eq_11]; rfl)).trans ((h2_q_8.R ha0 (fun z9 => absurd z9.2 (by omega)) 0).trans (z_5))
  have z_21 : q_11.2.2.1 a1 0 = b0 := ((show q_11.2.2.1 a1 0 = q_8.2.2.1 a1 0 from by rw [eq_11]; rfl)).trans ((h2_q_8.R ha1 (fun z9 => absurd z9.2 (by omega)) 0).trans ((h2_q_3.R ha1 (fun z9 => absurd z9.2 (by omega)) 0).trans (eb0)))
  have z_22 : q_11.2.2.1 a2 0 = s0 := ((show q_11.2.2.1 a2 0 = q_8.2.2.1 a2 0 from by rw [eq_11]; rfl)).trans ((h2_q_8.R ha2 (fun z9 => absurd z9.2 (by omega)) 0).trans ((h2_q_3.R ha2 (fun z9 => absurd z9.2 (by omega)) 0).trans (es0)))
  have z_23 : q_11.2.2.1 a2 1 = c0 := ((show q_11.2.2.1 a2 1 = q_8.2.2.1 a2 1 from by rw [eq_11]; rfl)).trans ((h2_q_8.R ha2 (fun z9 => absurd z9.2 (by omega)) 1).trans ((h2_q_3.R ha2 (fun z9 => absurd z9.2 (by omega)) 1).trans (ec0)))
  have z_24 : q_11.2.2.1 a2 2 = m0 := ((show q_11.2.2.1 a2 2 = q_8.2.2.1 a2 2 from by rw [eq_11]; rfl)).trans ((h2_q_8.R ha2 (fun z9 => absurd z9.2 (by omega)) 2).trans ((h2_q_3.R ha2 (fun z9 => absurd z9.2 (by omega)) 2).trans (em0)))
  have z_25 : q_11.2.2.1 a2 3 = f0 := ((show q_11.2.2.1 a2 3 = q_8.2.2.1 a2 3 from by rw [eq_11]; rfl)).trans ((h2_q_8.R ha2 (fun z9 => absurd z9.2 (by omega)) 3).trans ((h2_q_3.R ha2 (fun z9 => absurd z9.2 (by omega)) 3).trans (ef0)))
  have z_26 : q_11.2.2.1 a2 4 = w0 := ((show q_11.2.2.1 a2 4 = q_8.2.2.1 a2 4 from by rw [eq_11]; rfl)).trans ((h2_q_8.R ha2 (fun z9 => absurd z9.2 (by omega)) 4).trans ((h2_q_3.R ha2 (fun z9 => absurd z9.2 (by omega)) 4).trans (ew0)))
  have z_27 : q_11.2.2.1 a2 5 = x0 := ((show q_11.2.2.1 a2 5 = q_8.2.2.1 a2 5 from by rw [eq_11]; rfl)).trans ((h2_q_8.R ha2 (fun z9 => absurd z9.2 (by omega)) 5).trans ((h2_q_3.R ha2 (fun z9 => absurd z9.2 (by omega)) 5).trans (ex0)))
  have z_28 : q_11.2.2.1 k0 7 = a1 := ((show q_11.2.2.1 k0 7 = q_8.2.2.1 k0 7 from by rw [eq_11]; rfl)).trans (hw_9.1)
  have z_29 : q_11.2.2.2.1 b0 = q.2.2.2.1 b0 := ((show q_11.2.2.2.1 b0 = q_8.2.2.2.1 b0 from by rw [eq_11]; rfl)).trans ((h2_q_8.G hb0 (show ¬ (b0 = k0 ∧ h.1 b0 = 8) from (fun z => absurd (z.2.symm.trans kb0) (by decide))) (by rw [kb0]; decide)).trans (h2_q_3.G hb0 (show ¬ (b0 = a2 ∧ h.1 b0 = 9 ∨ b0 = s0 ∧ h.1 b0 = 201 ∨ b0 = c0 ∧ h.1 b0 = 101 ∨ b0 = m0 ∧ h.1 b0 = 202) from (fun z => z.elim (fun z => absurd (z.2.symm.trans kb0) (by decide)) (fun z => z.elim (fun z => absurd (z.2.symm.trans kb0) (by decide)) (fun z => z.elim (fun z => absurd (z.2.symm.trans kb0) (by decide)) (fun z => absurd (z.2.symm.trans kb0) (by decide)))))) (by rw [kb0]; decide)))
  have z_30 : q_11.2.2.2.1 c0 = q_3.2.2.2.1 c0 := ((show q_11.2.2.2.1 c0 = q_8.2.2.2.1 c0 from by rw [eq_11]; rfl)).trans (h2_q_8.G hc0 (show ¬ (c0 = k0 ∧ h.1 c0 = 8) from (fun z => absurd (z.2.symm.trans kc0) (by decide))) (by rw [kc0]; decide))
  have z_31 : q_11.2.2.2.2 s0 = q_3.2.2.2.2 s0 := ((show q_11.2.2.2.2 s0 = q_8.2.2.2.2 s0 from by rw [eq_11]; rfl)).trans (h2_q_8.Lg hs0 (show ¬ (s0 = k0 ∧ h.1 s0 = 8) from (fun z => absurd (z.2.symm.trans ks0) (by decide))) (by rw [ks0]; decide))
  have z_32 : q_11.2.2.2.2 m0 = q_3.2.2.2.2 m0 := ((show q_11.2.2.2.2 m0 = q_8.2.2.2.2 m0 from by rw [eq_11]; rfl)).trans (h2_q_8.Lg hm0 (show ¬ (m0 = k0 ∧ h.1 m0 = 8) from (fun z => absurd (z.2.symm.trans km0) (by decide))) (by rw [km0]; decide))
  have Lp_23_37 : ∀ (n : Nat) (v_13 : Int32) (q_14 : Sg), sx_V h L q_14 → sx_fr h L (fun a => a = a0 ∧ h.1 a = 10 ∨ a = k0 ∧ h.1 a = 8 ∨ a = a2 ∧ h.1 a = 9 ∨ a = s0 ∧ h.1 a = 201 ∨ a = c0 ∧ h.1 a = 101 ∨ a = m0 ∧ h.1 a = 202 ∨ a = f0 ∧ h.1 a = 102 ∨ a = w0 ∧ h.1 a = 103 ∨ a = x0 ∧ h.1 a = 104) q q_14 → q_14.1 a1 1 = (q.1 a1 1) → q_14.1 k0 8 = (q_8.1 k0 8) → q_14.1 k0 9 = (q_8.1 k0 9) → q_14.2.2.1 a0 0 = k0 → q_14.2.2.1 a1 0 = b0 → q_14.2.2.1 a2 0 = s0 → q_14.2.2.1 a2 1 = c0 → q_14.2.2.1 a2 2 = m0 → q_14.2.2.1 a2 3 = f0 → q_14.2.2.1 a2 4 = w0 → q_14.2.2.1 a2 5 = x0 → q_14.2.2.1 k0 7 = a1 → q_14.2.2.2.1 b0 = (q.2.2.2.1 b0) → 0 ≤ v_13.toInt → v_13.toInt ≤ 400 → v_13.toInt ≤ (q_14.1 k0 10).toInt → pm_c F n9 ((401 : Int) - v_13.toInt).toNat R9 (q_14.1 k0 10).toInt.toNat (q_14.1 a0 1) (q_14.1 a0 2) (q_14.1 a2 6) (q_14.2.2.2.2 s0) (q_14.2.2.2.1 c0) (q_14.2.2.2.2 m0) (q_14.2.2.2.1 f0) (q_14.2.2.2.1 w0) → (401 - v_13.toInt : Int).toNat < n → WA l dC dI h L ({ frames := 5, cells := 0, slots := 0, locals := 109 } : Room) 4 Z q_14 23 [(3, .int v_13), (0, .ref a0), (1, .ref a1), (2, .ref a2)] [] := by
    intro n
    induction n with
    | zero =>
      intro v_13 q_14 hV_q_14 hF_q_14 p0_q_14 p1_q_14 p2_q_14 p3_q_14 p4_q_14 p5_q_14 p6_q_14 p7_q_14 p8_q_14 p9_q_14 p10_q_14 p11_q_14 p12_q_14 x_33 x_34 x_35 x_36 hn
      exact absurd hn (Nat.not_lt_zero _)
    | succ n ih_38 =>
      intro v_13 q_14 hV_q_14 hF_q_14 p0_q_14 p1_q_14 p2_q_14 p3_q_14 p4_q_14 p5_q_14 p6_q_14 p7_q_14 p8_q_14 p9_q_14 p10_q_14 p11_q_14 p12_q_14 x_33 x_34 x_35 x_36 hn
      refine wa_iload_n B dX10_read_23 rfl 0 rfl ?_
      refine wa_sipush B 400 dX10_read_24 (by decide) ?_
      refine wa_icmp_gt B 82 dX10_read_27 (by decide) (fun (t_39 : 400 < v_13.toInt) => ?_) (fun (t_39 : ¬ 400 < v_13.toInt) => ?_)
      · exfalso
        omega
      · have hC9 : pm_c F n9 (((400 : Int) - v_13.toInt).toNat + 1) R9 (q_14.1 k0 10).toInt.toNat (q_14.1 a0 1) (q_14.1 a0 2) (q_14.1 a2 6) (q_14.2.2.2.2 s0) (q_14.2.2.2.1 c0) (q_14.2.2.2.2 m0) (q_14.2.2.2.1 f0) (q_14.2.2.2.1 w0) := by rw [show ((400 : Int) - v_13.toInt).toNat + 1 = ((401 : Int) - v_13.toInt).toNat by omega]; exact x_36
        have hlt := pc_lt hC9
        refine wa_aload_n B dX10_read_30 rfl 1 rfl ?_
        refine wa_getR B (C := RX10) (T := TX10) (N := 3) iq_X10_read_X10 ha0 ka0 (by decide) rfl 0 (by decide) (by decide) (by decide +kernel) rfl (fun _ _ _ => rfl) (v := k0) p3_q_14 dX10_read_31 ?_
        have y_40 : (q_14.1 a1 1).toInt = (q.1 a1 1).toInt := by rw [p0_q_14]
        have y_41 : (q_14.1 k0 8).toInt = (q_8.1 k0 8).toInt := by rw [p1_q_14]
        have y_42 : (q_14.1 k0 9).toInt = (q_8.1 k0 9).toInt := by rw [p2_q_14]
        refine wa_callVv B (x := (RX8, TX8, 11)) (As := []) (rest := []) (k_X8_advance_c l dC dI h L hN q_14 hV_q_14 (a0 := k0) hk0 kk0 (t0 := a1) p11_q_14 (b0 := b0) p4_q_14 F n9 (by first | assumption | omega | decide) (by first | assumption | omega | decide) (by first | assumption | omega | decide) (by first | assumption | omega | decide) (fun j hj => by rw [p12_q_14]; exact hFF j hj)) (cwV 0 B.1.2.2.2.2 gX10_read_X8_advance rfl rfl rfl (by decide +kernel) ⟨Nat.le_of_ble_eq_true rfl, Nat.le_of_ble_eq_true rfl⟩) hk0 kk0 (by decide) rfl rfl rfl (Nat.le_of_ble_eq_true rfl) dX10_read_34 (fun q_43 w_44 => ?_)
        obtain ⟨hV_q_43, h2_q_43, h3_q_43, hw_44⟩ := w_44
        have hF_q_43 : sx_fr h L (fun a => a = a0 ∧ h.1 a = 10 ∨ a = k0 ∧ h.1 a = 8 ∨ a = a2 ∧ h.1 a = 9 ∨ a = s0 ∧ h.1 a = 201 ∨ a = c0 ∧ h.1 a = 101 ∨ a = m0 ∧ h.1 a = 202 ∨ a = f0 ∧ h.1 a = 102 ∨ a = w0 ∧ h.1 a = 103 ∨ a = x0 ∧ h.1 a = 104) q q_43 := hF_q_14.tr (h2_q_43.mono (fun a (z : a = k0 ∧ h.1 a = 8) => ((fun z => (Or.inr (Or.inl z))) z)))
        have z_45 : q_43.1 a0 1 = q_14.1 a0 1 := h2_q_43.I ha0 (show ¬ (a0 = k0 ∧ h.1 a0 = 8) from (fun z => absurd (z.2.symm.trans ka0) (by decide))) 1
        have z_46 : q_43.1 a0 2 = q_14.1 a0 2 := h2_q_43.I ha0 (show ¬ (a0 = k0 ∧ h.1 a0 = 8) from (fun z => absurd (z.2.symm.trans ka0) (by decide))) 2
        have z_47 : q_43.1 a2 6 = q_14.1 a2 6 := h2_q_43.I ha2 (show ¬ (a2 = k0 ∧ h.1 a2 = 8) from (fun z => absurd (z.2.symm.trans ka2) (by decide))) 6
        have z_48 : q_43.2.2.2.2 s0 = q_14.2.2.2.2 s0 := h2_q_43.Lg hs0 (show ¬ (s0 = k0 ∧ h.1 s0 = 8) from (fun z => absurd (z.2.symm.trans ks0) (by decide))) (by rw [ks0]; decide)
        have z_49 : q_43.2.2.2.1 c0 = q_14.2.2.2.1 c0 := h2_q_43.G hc0 (show ¬ (c0 = k0 ∧ h.1 c0 = 8) from (fun z => absurd (z.2.symm.trans kc0) (by decide))) (by rw [kc0]; decide)
        have z_50 : q_43.2.2.2.2 m0 = q_14.2.2.2.2 m0 := h2_q_43.Lg hm0 (show ¬ (m0 = k0 ∧ h.1 m0 = 8) from (fun z => absurd (z.2.symm.trans km0) (by decide))) (by rw [km0]; decide)
        have z_51 : q_43.2.2.2.1 f0 = q_14.2.2.2.1 f0 := h2_q_43.G hf0 (show ¬ (f0 = k0 ∧ h.1 f0 = 8) from (fun z => absurd (z.2.symm.trans kf0) (by decide))) (by rw [kf0]; decide)
        have z_52 : q_43.2.2.2.1 w0 = q_14.2.2.2.1 w0 := h2_q_43.G hw0 (show ¬ (w0 = k0 ∧ h.1 w0 = 8) from (fun z => absurd (z.2.symm.trans kw0) (by decide))) (by rw [kw0]; decide)
        have hpl := hw_44.2.1
        have hkd := hw_44.1
        have hat := hw_44.2.2.1
        refine wa_aload_n B dX10_read_37 rfl 1 rfl ?_
        refine wa_getI B (C := RX10) (T := TX10) (N := 3) iq_X10_read_X10 ha0 ka0 (by decide) rfl 1 (by decide) (by decide) (by decide +kernel) rfl (by decide) (v := (q_14.1 a0 1)) z_45 dX10_read_38 ?_
        refine wa_if_ne B 66 dX10_read_41 (by decide) (fun (t_53 : ¬ (q_14.1 a0 1).toInt = 0) => ?_) (fun (t_53 : (q_14.1 a0 1).toInt = 0) => ?_)
        · refine wa_aload_n B dX10_read_66 rfl 1 rfl ?_
          refine wa_aload_n B dX10_read_67 rfl 3 rfl ?_
          have z_54 : q_43.2.2.1 a0 0 = k0 := (h2_q_43.R ha0 (fun z9 => absurd z9.2 (by omega)) 0).trans (p3_q_14)
          have z_55 : q_43.2.2.1 a2 0 = s0 := (h2_q_43.R ha2 (fun z9 => absurd z9.2 (by omega)) 0).trans (p5_q_14)
          have z_56 : q_43.2.2.1 a2 1 = c0 := (h2_q_43.R ha2 (fun z9 => absurd z9.2 (by omega)) 1).trans (p6_q_14)
          have z_57 : q_43.2.2.1 a2 2 = m0 := (h2_q_43.R ha2 (fun z9 => absurd z9.2 (by omega)) 2).trans (p7_q_14)
          have z_58 : q_43.2.2.1 a2 3 = f0 := (h2_q_43.R ha2 (fun z9 => absurd z9.2 (by omega)) 3).trans (p8_q_14)
          have z_59 : q_43.2.2.1 a2 4 = w0 := (h2_q_43.R ha2 (fun z9 => absurd z9.2 (by omega)) 4).trans (p9_q_14)
          have z_60 : q_43.2.2.1 a2 5 = x0 := (h2_q_43.R ha2 (fun z9 => absurd z9.2 (by omega)) 5).trans (p10_q_14)
          have y_61 : (q_43.1 a0 2).toInt = (q_14.1 a0 2).toInt := by rw [z_46]
          have y_62 : (q_43.1 a0 1).toInt = (q_14.1 a0 1).toInt := by rw [z_45]
          have y_63 : (q_43.1 a2 6).toInt = (q_14.1 a2 6).toInt := by rw [z_47]
          refine wa_callVi B (x := (RX10, TX10, 3)) (As := [.ref a2]) (rest := []) (k_X10_takeToken_c l dC dI h L hN q_43 hV_q_43 (a0 := a0) ha0 ka0 (a1 := a2) ha2 ka2 (k0 := k0) z_54 (s0 := s0) z_55 (c0 := c0) z_56 (m0 := m0) z_57 (f0 := f0) z_58 (w0 := w0) z_59 (x0 := x0) z_60 F n9 (((400 : Int) - v_13.toInt).toNat) R9 ((q_14.1 k0 10).toInt.toNat) hw_44 (by rw [z_45, z_46, z_47, z_48, z_49, z_50, z_51, z_52]; exact hC9) (by first | assumption | omega | decide)) (cwV 1 B.1.2.2.2.2 gX10_read_X10_takeToken rfl rfl rfl (by decide +kernel) ⟨Nat.le_of_ble_eq_true rfl, Nat.le_of_ble_eq_true rfl⟩) ha0 ka0 (by decide) rfl rfl rfl (Nat.le_of_ble_eq_true rfl) dX10_read_68 (fun r_65 q_64 w_66 => ?_)
          obtain ⟨hV_q_64, h2_q_64, h4_q_64, hw_66⟩ := w_66
          have hF_q_64 : sx_fr h L (fun a => a = a0 ∧ h.1 a = 10 ∨ a = k0 ∧ h.1 a = 8 ∨ a = a2 ∧ h.1 a = 9 ∨ a = s0 ∧ h.1 a = 201 ∨ a = c0 ∧ h.1 a = 101 ∨ a = m0 ∧ h.1 a = 202 ∨ a = f0 ∧ h.1 a = 102 ∨ a = w0 ∧ h.1 a = 103 ∨ a = x0 ∧ h.1 a = 104) q q_64 := hF_q_43.tr (h2_q_64.mono (fun a (z : a = a0 ∧ h.1 a = 10 ∨ a = k0 ∧ h.1 a = 8 ∨ a = a2 ∧ h.1 a = 9 ∨ a = s0 ∧ h.1 a = 201 ∨ a = c0 ∧ h.1 a = 101 ∨ a = m0 ∧ h.1 a = 202 ∨ a = f0 ∧ h.1 a = 102 ∨ a = w0 ∧ h.1 a = 103 ∨ a = x0 ∧ h.1 a = 104) => ((fun z => z.elim (fun z => (Or.inl z)) (fun z => z.elim (fun z => (Or.inr (Or.inl z))) (fun z => z.elim (fun z => (Or.inr (Or.inr (Or.inl z)))) (fun z => z.elim (fun z => (Or.inr (Or.inr (Or.inr (Or.inl z))))) (fun z => z.elim (fun z => (Or.inr (Or.inr (Or.inr (Or.inr (Or.inl z)))))) (fun z => z.elim (fun z => (Or.inr (Or.inr (Or.inr (Or.inr (Or.inr (Or.inl z))))))) (fun z => z.elim (fun z => (Or.inr (Or.inr (Or.inr (Or.inr (Or.inr (Or.inr (Or.inl z)))))))) (fun z => z.elim (fun z => (Or.inr (Or.inr (Or.inr (Or.inr (Or.inr (Or.inr (Or.inr (Or.inl z))))))))) (fun z => (Or.inr (Or.inr (Or.inr (Or.inr (Or.inr (Or.inr (Or.inr (Or.inr z))))))))))))))))) z)))
          have hE9 : ¬ r_65.toInt = 0 → (q_14.1 k0 10).toInt.toNat < 400 ∧ (q_14.1 k0 10).toInt.toNat + 1 ≤ pz_E F n9 (q_14.1 k0 10).toInt.toNat ∧ pz_E F n9 (q_14.1 k0 10).toInt.toNat ≤ n9 := fun z9 => pz_E_lt (by have y9 := (hw_66.resolve_left (fun y => z9 y.1)).2.1; omega)
          refine wa_if_ne B 76 dX10_read_71 (by decide) (fun (t_67 : ¬ r_65.toInt = 0) => ?_) (fun (t_67 : r_65.toInt = 0) => ?_)
          · obtain ⟨v_68, ev_68⟩ : ∃ z : Int32, z = v_13 + 1 := ⟨_, rfl⟩
            refine wa_iinc B [(3, .int v_68), (0, .ref a0), (1, .ref a1), (2, .ref a2)] v_68 dX10_read_76 0 rfl (by rw [ev_68]; rfl) (by decide) rfl ?_
            refine wa_goto B 23 dX10_read_79 (by decide) ?_
            have tv_68 : v_68.toInt = v_13.toInt + 1 := by have b0 := zx_bd v_13; rw [ev_68]; exact zx_add (show (-2147483648 : Int) ≤ v_13.toInt + 1 by omega) (show v_13.toInt + 1 < (2147483648 : Int) by omega)
            have z_69 : q_64.1 k0 10 = q_43.1 k0 10 := h4_q_64.1 10 (by decide)
            have y_70 : (q_64.1 k0 10).toInt = (q_43.1 k0 10).toInt := by rw [z_69]
            have z_71 : q_64.1 a1 1 = (q.1 a1 1) := (h2_q_64.I ha1 (show ¬ (a1 = a0 ∧ h.1 a1 = 10 ∨ a1 = k0 ∧ h.1 a1 = 8 ∨ a1 = a2 ∧ h.1 a1 = 9 ∨ a1 = s0 ∧ h.1 a1 = 201 ∨ a1 = c0 ∧ h.1 a1 = 101 ∨ a1 = m0 ∧ h.1 a1 = 202 ∨ a1 = f0 ∧ h.1 a1 = 102 ∨ a1 = w0 ∧ h.1 a1 = 103 ∨ a1 = x0 ∧ h.1 a1 = 104) from (fun z => z.elim (fun z => absurd (z.2.symm.trans ka1) (by decide)) (fun z => z.elim (fun z => absurd (z.2.symm.trans ka1) (by decide)) (fun z => z.elim (fun z => absurd (z.2.symm.trans ka1) (by decide)) (fun z => z.elim (fun z => absurd (z.2.symm.trans ka1) (by decide)) (fun z => z.elim (fun z => absurd (z.2.symm.trans ka1) (by decide)) (fun z => z.elim (fun z => absurd (z.2.symm.trans ka1) (by decide)) (fun z => z.elim (fun z => absurd (z.2.symm.trans ka1) (by decide)) (fun z => z.elim (fun z => absurd (z.2.symm.trans ka1) (by decide)) (fun z => absurd (z.2.symm.trans ka1) (by decide))))))))))) 1).trans ((h2_q_43.I ha1 (show ¬ (a1 = k0 ∧ h.1 a1 = 8) from (fun z => absurd (z.2.symm.trans ka1) (by decide))) 1).trans (p0_q_14))
            have z_72 : q_64.1 k0 8 = (q_8.1 k0 8) := (h4_q_64.1 8 (by decide)).trans ((h3_q_43.1 8 (by decide)).trans (p1_q_14))
            have z_73 : q_64.1 k0 9 = (q_8.1 k0 9) := (h4_q_64.1 9 (by decide)).trans ((h3_q_43.1 9 (by decide)).trans (p2_q_14))
            have z_74 : q_64.2.2.1 a0 0 = k0 := (h2_q_64.R ha0 (fun z9 => absurd z9.2 (by omega)) 0).trans (z_54)
            have z_75 : q_64.2.2.1 a1 0 = b0 := (h2_q_64.R ha1 (fun z9 => absurd z9.2 (by omega)) 0).trans ((h2_q_43.R ha1 (fun z9 => absurd z9.2 (by omega)) 0).trans (p4_q_14))
            have z_76 : q_64.2.2.1 a2 0 = s0 := (h2_q_64.R ha2 (fun z9 => absurd z9.2 (by omega)) 0).trans (z_55)
            have z_77 : q_64.2.2.1 a2 1 = c0 := (h2_q_64.R ha2 (fun z9 => absurd z9.2 (by omega)) 1).trans (z_56)
            have z_78 : q_64.2.2.1 a2 2 = m0 := (h2_q_64.R ha2 (fun z9 => absurd z9.2 (by omega)) 2).trans (z_57)
            have z_79 : q_64.2.2.1 a2 3 = f0 := (h2_q_64.R ha2 (fun z9 => absurd z9.2 (by omega)) 3).trans (z_58)
            have z_80 : q_64.2.2.1 a2 4 = w0 := (h2_q_64.R ha2 (fun z9 => absurd z9.2 (by omega)) 4).trans (z_59)
            have z_81 : q_64.2.2.1 a2 5 = x0 := (h2_q_64.R ha2 (fun z9 => absurd z9.2 (by omega)) 5).trans (z_60)
            have z_82 : q_64.2.2.1 k0 7 = a1 := (congrFun h4_q_64.2.2 7).trans ((congrFun h3_q_43.2.2 7).trans (p11_q_14))
            have z_83 : q_64.2.2.2.1 b0 = (q.2.2.2.1 b0) := (h2_q_64.G hb0 (show ¬ (b0 = a0 ∧ h.1 b0 = 10 ∨ b0 = k0 ∧ h.1 b0 = 8 ∨ b0 = a2 ∧ h.1 b0 = 9 ∨ b0 = s0 ∧ h.1 b0 = 201 ∨ b0 = c0 ∧ h.1 b0 = 101 ∨ b0 = m0 ∧ h.1 b0 = 202 ∨ b0 = f0 ∧ h.1 b0 = 102 ∨ b0 = w0 ∧ h.1 b0 = 103 ∨ b0 = x0 ∧ h.1 b0 = 104) from (fun z => z.elim (fun z => absurd (z.2.symm.trans kb0) (by decide)) (fun z => z.elim (fun z => absurd (z.2.symm.trans kb0) (by decide)) (fun z => z.elim (fun z => absurd (z.2.symm.trans kb0) (by decide)) (fun z => z.elim (fun z => absurd (z.2.symm.trans kb0) (by decide)) (fun z => z.elim (fun z => absurd (z.2.symm.trans kb0) (by decide)) (fun z => z.elim (fun z => absurd (z.2.symm.trans kb0) (by decide)) (fun z => z.elim (fun z => absurd (z.2.symm.trans kb0) (by decide)) (fun z => z.elim (fun z => absurd (z.2.symm.trans kb0) (by decide)) (fun z => absurd (z.2.symm.trans kb0) (by decide))))))))))) (by rw [kb0]; decide)).trans ((h2_q_43.G hb0 (show ¬ (b0 = k0 ∧ h.1 b0 = 8) from (fun z => absurd (z.2.symm.trans kb0) (by decide))) (by rw [kb0]; decide)).trans (p12_q_14))
            have y_84 : (q_64.1 k0 10).toInt = (q_43.1 k0 10).toInt := by rw [z_69]
            exact ih_38 v_68 q_64 hV_q_64 hF_q_64 z_71 z_72 z_73 z_74 z_75 z_76 z_77 z_78 z_79 z_80 z_81 z_82 z_83 (show 0 ≤ v_68.toInt from by first | assumption | omega | decide) (show v_68.toInt ≤ 400 from by first | assumption | omega | decide) (show v_68.toInt ≤ (q_64.1 k0 10).toInt from by first | assumption | omega | decide) (show pm_c F n9 ((401 : Int) - v_68.toInt).toNat R9 (q_64.1 k0 10).toInt.toNat (q_64.1 a0 1) (q_64.1 a0 2) (q_64.1 a2 6) (q_64.2.2.2.2 s0) (q_64.2.2.2.1 c0) (q_64.2.2.2.2 m0) (q_64.2.2.2.1 f0) (q_64.2.2.2.1 w0) from by have y9 := (hw_66.resolve_left (fun y => absurd y.1 (by omega))).2.2; rw [show ((401 : Int) - v_68.toInt).toNat = ((400 : Int) - v_13.toInt).toNat by omega, show (q_64.1 k0 10).toInt.toNat = pz_E F n9 (q_14.1 k0 10).toInt.toNat by omega]; exact y9) (show (401 - v_68.toInt : Int).toNat < _ from by omega)
          · refine wa_iconst B 0 dX10_read_74 (by decide) ?_
            have z_85 : q_64.1 k0 1 = q_43.1 k0 1 := h4_q_64.1 1 (by decide)
            have y_86 : (q_64.1 k0 1).toInt = (q_43.1 k0 1).toInt := by rw [z_85]
            exact hret _ _ _ _ dX10_read_75 (Or.inl rfl) ⟨hV_q_64, hF_q_64, (Or.inl ⟨rfl, (hw_66.resolve_right (fun y => absurd y.1 (by omega))).2⟩)⟩
        · refine wa_aload_n B dX10_read_44 rfl 1 rfl ?_
          have z_87 : q_43.2.2.1 a0 0 = k0 := (h2_q_43.R ha0 (fun z9 => absurd z9.2 (by omega)) 0).trans (p3_q_14)
          refine wa_getR B (C := RX10) (T := TX10) (N := 3) iq_X10_read_X10 ha0 ka0 (by decide) rfl 0 (by decide) (by decide) (by decide +kernel) rfl (fun _ _ _ => rfl) (v := k0) z_87 dX10_read_45 ?_
          refine wa_getI B (C := RX8) (T := TX8) (N := 11) iq_X10_read_X8 hk0 kk0 (by decide) rfl 0 (by decide) (by decide) (by decide +kernel) rfl (by decide) (v := (q_43.1 k0 0)) rfl dX10_read_48 ?_
          refine wa_if_ne B 66 dX10_read_51 (by decide) (fun (t_88 : ¬ (q_43.1 k0 0).toInt = 0) => ?_) (fun (t_88 : (q_43.1 k0 0).toInt = 0) => ?_)
          · refine wa_aload_n B dX10_read_66 rfl 1 rfl ?_
            refine wa_aload_n B dX10_read_67 rfl 3 rfl ?_
            have z_89 : q_43.2.2.1 a2 0 = s0 := (h2_q_43.R ha2 (fun z9 => absurd z9.2 (by omega)) 0).trans (p5_q_14)
            have z_90 : q_43.2.2.1 a2 1 = c0 := (h2_q_43.R ha2 (fun z9 => absurd z9.2 (by omega)) 1).trans (p6_q_14)
            have z_91 : q_43.2.2.1 a2 2 = m0 := (h2_q_43.R ha2 (fun z9 => absurd z9.2 (by omega)) 2).trans (p7_q_14)
            have z_92 : q_43.2.2.1 a2 3 = f0 := (h2_q_43.R ha2 (fun z9 => absurd z9.2 (by omega)) 3).trans (p8_q_14)
            have z_93 : q_43.2.2.1 a2 4 = w0 := (h2_q_43.R ha2 (fun z9 => absurd z9.2 (by omega)) 4).trans (p9_q_14)
            have z_94 : q_43.2.2.1 a2 5 = x0 := (h2_q_43.R ha2 (fun z9 => absurd z9.2 (by omega)) 5).trans (p10_q_14)
            have y_95 : (q_43.1 a0 2).toInt = (q_14.1 a0 2).toInt := by rw [z_46]
            have y_96 : (q_43.1 a0 1).toInt = (q_14.1 a0 1).toInt := by rw [z_45]
            have y_97 : (q_43.1 a2 6).toInt = (q_14.1 a2 6).toInt := by rw [z_47]
            refine wa_callVi B (x := (RX10, TX10, 3)) (As := [.ref a2]) (rest := []) (k_X10_takeToken_c l dC dI h L hN q_43 hV_q_43 (a0 := a0) ha0 ka0 (a1 := a2) ha2 ka2 (k0 := k0) z_87 (s0 := s0) z_89 (c0 := c0) z_90 (m0 := m0) z_91 (f0 := f0) z_92 (w0 := w0) z_93 (x0 := x0) z_94 F n9 (((400 : Int) - v_13.toInt).toNat) R9 ((q_14.1 k0 10).toInt.toNat) hw_44 (by rw [z_45, z_46, z_47, z_48, z_49, z_50, z_51, z_52]; exact hC9) (by first | assumption | omega | decide)) (cwV 1 B.1.2.2.2.2 gX10_read_X10_takeToken rfl rfl rfl (by decide +kernel) ⟨Nat.le_of_ble_eq_true rfl, Nat.le_of_ble_eq_true rfl⟩) ha0 ka0 (by decide) rfl rfl rfl (Nat.le_of_ble_eq_true rfl) dX10_read_68 (fun r_99 q_98 w_100 => ?_)
            obtain ⟨hV_q_98, h2_q_98, h4_q_98, hw_100⟩ := w_100
            have hF_q_98 : sx_fr h L (fun a => a = a0 ∧ h.1 a = 10 ∨ a = k0 ∧ h.1 a = 8 ∨ a = a2 ∧ h.1 a = 9 ∨ a = s0 ∧ h.1 a = 201 ∨ a = c0 ∧ h.1 a = 101 ∨ a = m0 ∧ h.1 a = 202 ∨ a = f0 ∧ h.1 a = 102 ∨ a = w0 ∧ h.1 a = 103 ∨ a = x0 ∧ h.1 a = 104) q q_98 := hF_q_43.tr (h2_q_98.mono (fun a (z : a = a0 ∧ h.1 a = 10 ∨ a = k0 ∧ h.1 a = 8 ∨ a = a2 ∧ h.1 a = 9 ∨ a = s0 ∧ h.1 a = 201 ∨ a = c0 ∧ h.1 a = 101 ∨ a = m0 ∧ h.1 a = 202 ∨ a = f0 ∧ h.1 a = 102 ∨ a = w0 ∧ h.1 a = 103 ∨ a = x0 ∧ h.1 a = 104) => ((fun z => z.elim (fun z => (Or.inl z)) (fun z => z.elim (fun z => (Or.inr (Or.inl z))) (fun z => z.elim (fun z => (Or.inr (Or.inr (Or.inl z)))) (fun z => z.elim (fun z => (Or.inr (Or.inr (Or.inr (Or.inl z))))) (fun z => z.elim (fun z => (Or.inr (Or.inr (Or.inr (Or.inr (Or.inl z)))))) (fun z => z.elim (fun z => (Or.inr (Or.inr (Or.inr (Or.inr (Or.inr (Or.inl z))))))) (fun z => z.elim (fun z => (Or.inr (Or.inr (Or.inr (Or.inr (Or.inr (Or.inr (Or.inl z)))))))) (fun z => z.elim (fun z => (Or.inr (Or.inr (Or.inr (Or.inr (Or.inr (Or.inr (Or.inr (Or.inl z))))))))) (fun z => (Or.inr (Or.inr (Or.inr (Or.inr (Or.inr (Or.inr (Or.inr (Or.inr z))))))))))))))))) z)))
            have hE9 : ¬ r_99.toInt = 0 → (q_14.1 k0 10).toInt.toNat < 400 ∧ (q_14.1 k0 10).toInt.toNat + 1 ≤ pz_E F n9 (q_14.1 k0 10).toInt.toNat ∧ pz_E F n9 (q_14.1 k0 10).toInt.toNat ≤ n9 := fun z9 => pz_E_lt (by have y9 := (hw_100.resolve_left (fun y => z9 y.1)).2.1; omega)
            refine wa_if_ne B 76 dX10_read_71 (by decide) (fun (t_101 : ¬ r_99.toInt = 0) => ?_) (fun (t_101 : r_99.toInt = 0) => ?_)
            · obtain ⟨v_102, ev_102⟩ : ∃ z : Int32, z = v_13 + 1 := ⟨_, rfl⟩
              refine wa_iinc B [(3, .int v_102), (0, .ref a0), (1, .ref a1), (2, .ref a2)] v_102 dX10_read_76 0 rfl (by rw [ev_102]; rfl) (by decide) rfl ?_
              refine wa_goto B 23 dX10_read_79 (by decide) ?_
              have tv_102 : v_102.toInt = v_13.toInt + 1 := by have b0 := zx_bd v_13; rw [ev_102]; exact zx_add (show (-2147483648 : Int) ≤ v_13.toInt + 1 by omega) (show v_13.toInt + 1 < (2147483648 : Int) by omega)
              have z_103 : q_98.1 k0 10 = q_43.1 k0 10 := h4_q_98.1 10 (by decide)
              have y_104 : (q_98.1 k0 10).toInt = (q_43.1 k0 10).toInt := by rw [z_103]
              have z_105 : q_98.1 a1 1 = (q.1 a1 1) := (h2_q_98.I ha1 (show ¬ (a1 = a0 ∧ h.1 a1 = 10 ∨ a1 = k0 ∧ h.1 a1 = 8 ∨ a1 = a2 ∧ h.1 a1 = 9 ∨ a1 = s0 ∧ h.1 a1 = 201 ∨ a1 = c0 ∧ h.1 a1 = 101 ∨ a1 = m0 ∧ h.1 a1 = 202 ∨ a1 = f0 ∧ h.1 a1 = 102 ∨ a1 = w0 ∧ h.1 a1 = 103 ∨ a1 = x0 ∧ h.1 a1 = 104) from (fun z => z.elim (fun z => absurd (z.2.symm.trans ka1) (by decide)) (fun z => z.elim (fun z => absurd (z.2.symm.trans ka1) (by decide)) (fun z => z.elim (fun z => absurd (z.2.symm.trans ka1) (by decide)) (fun z => z.elim (fun z => absurd (z.2.symm.trans ka1) (by decide)) (fun z => z.elim (fun z => absurd (z.2.symm.trans ka1) (by decide)) (fun z => z.elim (fun z => absurd (z.2.symm.trans ka1) (by decide)) (fun z => z.elim (fun z => absurd (z.2.symm.trans ka1) (by decide)) (fun z => z.elim (fun z => absurd (z.2.symm.trans ka1) (by decide)) (fun z => absurd (z.2.symm.trans ka1) (by decide))))))))))) 1).trans ((h2_q_43.I ha1 (show ¬ (a1 = k0 ∧ h.1 a1 = 8) from (fun z => absurd (z.2.symm.trans ka1) (by decide))) 1).trans (p0_q_14))
              have z_106 : q_98.1 k0 8 = (q_8.1 k0 8) := (h4_q_98.1 8 (by decide)).trans ((h3_q_43.1 8 (by decide)).trans (p1_q_14))
              have z_107 : q_98.1 k0 9 = (q_8.1 k0 9) := (h4_q_98.1 9 (by decide)).trans ((h3_q_43.1 9 (by decide)).trans (p2_q_14))
              have z_108 : q_98.2.2.1 a0 0 = k0 := (h2_q_98.R ha0 (fun z9 => absurd z9.2 (by omega)) 0).trans (z_87)
              have z_109 : q_98.2.2.1 a1 0 = b0 := (h2_q_98.R ha1 (fun z9 => absurd z9.2 (by omega)) 0).trans ((h2_q_43.R ha1 (fun z9 => absurd z9.2 (by omega)) 0).trans (p4_q_14))
              have z_110 : q_98.2.2.1 a2 0 = s0 := (h2_q_98.R ha2 (fun z9 => absurd z9.2 (by omega)) 0).trans (z_89)
              have z_111 : q_98.2.2.1 a2 1 = c0 := (h2_q_98.R ha2 (fun z9 => absurd z9.2 (by omega)) 1).trans (z_90)
              have z_112 : q_98.2.2.1 a2 2 = m0 := (h2_q_98.R ha2 (fun z9 => absurd z9.2 (by omega)) 2).trans (z_91)
              have z_113 : q_98.2.2.1 a2 3 = f0 := (h2_q_98.R ha2 (fun z9 => absurd z9.2 (by omega)) 3).trans (z_92)
              have z_114 : q_98.2.2.1 a2 4 = w0 := (h2_q_98.R ha2 (fun z9 => absurd z9.2 (by omega)) 4).trans (z_93)
              have z_115 : q_98.2.2.1 a2 5 = x0 := (h2_q_98.R ha2 (fun z9 => absurd z9.2 (by omega)) 5).trans (z_94)
              have z_116 : q_98.2.2.1 k0 7 = a1 := (congrFun h4_q_98.2.2 7).trans ((congrFun h3_q_43.2.2 7).trans (p11_q_14))
              have z_117 : q_98.2.2.2.1 b0 = (q.2.2.2.1 b0) := (h2_q_98.G hb0 (show ¬ (b0 = a0 ∧ h.1 b0 = 10 ∨ b0 = k0 ∧ h.1 b0 = 8 ∨ b0 = a2 ∧ h.1 b0 = 9 ∨ b0 = s0 ∧ h.1 b0 = 201 ∨ b0 = c0 ∧ h.1 b0 = 101 ∨ b0 = m0 ∧ h.1 b0 = 202 ∨ b0 = f0 ∧ h.1 b0 = 102 ∨ b0 = w0 ∧ h.1 b0 = 103 ∨ b0 = x0 ∧ h.1 b0 = 104) from (fun z => z.elim (fun z => absurd (z.2.symm.trans kb0) (by decide)) (fun z => z.elim (fun z => absurd (z.2.symm.trans kb0) (by decide)) (fun z => z.elim (fun z => absurd (z.2.symm.trans kb0) (by decide)) (fun z => z.elim (fun z => absurd (z.2.symm.trans kb0) (by decide)) (fun z => z.elim (fun z => absurd (z.2.symm.trans kb0) (by decide)) (fun z => z.elim (fun z => absurd (z.2.symm.trans kb0) (by decide)) (fun z => z.elim (fun z => absurd (z.2.symm.trans kb0) (by decide)) (fun z => z.elim (fun z => absurd (z.2.symm.trans kb0) (by decide)) (fun z => absurd (z.2.symm.trans kb0) (by decide))))))))))) (by rw [kb0]; decide)).trans ((h2_q_43.G hb0 (show ¬ (b0 = k0 ∧ h.1 b0 = 8) from (fun z => absurd (z.2.symm.trans kb0) (by decide))) (by rw [kb0]; decide)).trans (p12_q_14))
              have y_118 : (q_98.1 k0 10).toInt = (q_43.1 k0 10).toInt := by rw [z_103]
              exact ih_38 v_102 q_98 hV_q_98 hF_q_98 z_105 z_106 z_107 z_108 z_109 z_110 z_111 z_112 z_113 z_114 z_115 z_116 z_117 (show 0 ≤ v_102.toInt from by first | assumption | omega | decide) (show v_102.toInt ≤ 400 from by first | assumption | omega | decide) (show v_102.toInt ≤ (q_98.1 k0 10).toInt from by first | assumption | omega | decide) (show pm_c F n9 ((401 : Int) - v_102.toInt).toNat R9 (q_98.1 k0 10).toInt.toNat (q_98.1 a0 1) (q_98.1 a0 2) (q_98.1 a2 6) (q_98.2.2.2.2 s0) (q_98.2.2.2.1 c0) (q_98.2.2.2.2 m0) (q_98.2.2.2.1 f0) (q_98.2.2.2.1 w0) from by have y9 := (hw_100.resolve_left (fun y => absurd y.1 (by omega))).2.2; rw [show ((401 : Int) - v_102.toInt).toNat = ((400 : Int) - v_13.toInt).toNat by omega, show (q_98.1 k0 10).toInt.toNat = pz_E F n9 (q_14.1 k0 10).toInt.toNat by omega]; exact y9) (show (401 - v_102.toInt : Int).toNat < _ from by omega)
            · refine wa_iconst B 0 dX10_read_74 (by decide) ?_
              have z_119 : q_98.1 k0 1 = q_43.1 k0 1 := h4_q_98.1 1 (by decide)
              have y_120 : (q_98.1 k0 1).toInt = (q_43.1 k0 1).toInt := by rw [z_119]
              exact hret _ _ _ _ dX10_read_75 (Or.inl rfl) ⟨hV_q_98, hF_q_98, (Or.inl ⟨rfl, (hw_100.resolve_right (fun y => absurd y.1 (by omega))).2⟩)⟩
          · refine wa_aload_n B dX10_read_54 rfl 1 rfl ?_
            refine wa_getR B (C := RX10) (T := TX10) (N := 3) iq_X10_read_X10 ha0 ka0 (by decide) rfl 0 (by decide) (by decide) (by decide +kernel) rfl (fun _ _ _ => rfl) (v := k0) z_87 dX10_read_55 ?_
            refine wa_aload_n B dX10_read_58 rfl 3 rfl ?_
            refine wa_getI B (C := RX9) (T := TX9) (N := 7) iq_X10_read_X9 ha2 ka2 (by decide) rfl 6 (by decide) (by decide) (by decide +kernel) rfl (by decide) (v := (q_14.1 a2 6)) z_47 dX10_read_59 ?_
            have g_121 : (0 : Int) ≤ (q_14.1 a2 6).toInt ∧ (q_14.1 a2 6).toInt ≤ 3 := by rw [← z_47]; exact hV_q_43.int ha2 ka2 6
            have z_122 : q_43.2.2.1 k0 7 = a1 := (congrFun h3_q_43.2.2 7).trans (p11_q_14)
            have z_123 : q_43.1 a1 1 = (q.1 a1 1) := (h2_q_43.I ha1 (show ¬ (a1 = k0 ∧ h.1 a1 = 8) from (fun z => absurd (z.2.symm.trans ka1) (by decide))) 1).trans (p0_q_14)
            have y_124 : (q_43.1 a1 1).toInt = (q.1 a1 1).toInt := by rw [z_123]
            have z_125 : q_43.1 k0 8 = (q_8.1 k0 8) := (h3_q_43.1 8 (by decide)).trans (p1_q_14)
            have y_126 : (q_43.1 k0 8).toInt = (q_8.1 k0 8).toInt := by rw [z_125]
            refine wa_callVi B (x := (RX8, TX8, 11)) (As := [.int (q_14.1 a2 6)]) (rest := []) (k_X8_endsWell_c l dC dI h L hN q_43 hV_q_43 (a0 := k0) hk0 kk0 (q_14.1 a2 6) (t0 := a1) z_122  ) (cwV 1 B.1.2.2.2.2 gX10_read_X8_endsWell rfl rfl rfl (by decide +kernel) ⟨Nat.le_of_ble_eq_true rfl, Nat.le_of_ble_eq_true rfl⟩) hk0 kk0 (by decide) rfl rfl rfl (Nat.le_of_ble_eq_true rfl) dX10_read_62 (fun r_128 q_127 w_129 => ?_)
            obtain ⟨hV_q_127, h2_q_127, h3_q_127, hw_129⟩ := w_129
            have hF_q_127 : sx_fr h L (fun a => a = a0 ∧ h.1 a = 10 ∨ a = k0 ∧ h.1 a = 8 ∨ a = a2 ∧ h.1 a = 9 ∨ a = s0 ∧ h.1 a = 201 ∨ a = c0 ∧ h.1 a = 101 ∨ a = m0 ∧ h.1 a = 202 ∨ a = f0 ∧ h.1 a = 102 ∨ a = w0 ∧ h.1 a = 103 ∨ a = x0 ∧ h.1 a = 104) q q_127 := hF_q_43.tr (h2_q_127.mono (fun a (z : a = k0 ∧ h.1 a = 8) => ((fun z => (Or.inr (Or.inl z))) z)))
            have z_130 : q_127.1 a2 6 = (q_14.1 a2 6) := (h2_q_127.I ha2 (show ¬ (a2 = k0 ∧ h.1 a2 = 8) from (fun z => absurd (z.2.symm.trans ka2) (by decide))) 6).trans (z_47)
            have y_131 : (q_127.1 a2 6).toInt = (q_14.1 a2 6).toInt := by rw [z_130]
            have y_132 : (q_127.1 a2 6).toInt = (q_14.1 a2 6).toInt := by rw [z_130]
            have z_133 : q_127.1 k0 1 = q_43.1 k0 1 := h3_q_127.1 1 (by decide)
            have y_134 : (q_127.1 k0 1).toInt = (q_43.1 k0 1).toInt := by rw [z_133]
            have z_135 : q_127.2.2.2.2 s0 = (q_14.2.2.2.2 s0) := (h2_q_127.Lg hs0 (show ¬ (s0 = k0 ∧ h.1 s0 = 8) from (fun z => absurd (z.2.symm.trans ks0) (by decide))) (by rw [ks0]; decide)).trans (z_48)
            have z_136 : q_127.2.2.2.1 c0 = (q_14.2.2.2.1 c0) := (h2_q_127.G hc0 (show ¬ (c0 = k0 ∧ h.1 c0 = 8) from (fun z => absurd (z.2.symm.trans kc0) (by decide))) (by rw [kc0]; decide)).trans (z_49)
            have z_137 : q_127.2.2.2.2 m0 = (q_14.2.2.2.2 m0) := (h2_q_127.Lg hm0 (show ¬ (m0 = k0 ∧ h.1 m0 = 8) from (fun z => absurd (z.2.symm.trans km0) (by decide))) (by rw [km0]; decide)).trans (z_50)
            have z_138 : q_127.2.2.2.1 f0 = (q_14.2.2.2.1 f0) := (h2_q_127.G hf0 (show ¬ (f0 = k0 ∧ h.1 f0 = 8) from (fun z => absurd (z.2.symm.trans kf0) (by decide))) (by rw [kf0]; decide)).trans (z_51)
            have z_139 : q_127.2.2.2.1 w0 = (q_14.2.2.2.1 w0) := (h2_q_127.G hw0 (show ¬ (w0 = k0 ∧ h.1 w0 = 8) from (fun z => absurd (z.2.symm.trans kw0) (by decide))) (by rw [kw0]; decide)).trans (z_52)
            exact hret _ _ _ _ dX10_read_65 (zx_01 (by omega)) ⟨hV_q_127, hF_q_127, (by have y9 := pc_end hC9 (by omega) hw_44 (by omega); rcases hw_129 with z9 | z9; (have y8 := y9.1 (by omega); exact Or.inr ⟨z9.1, y8.1, by omega, by rw [z_130, z_135, z_136, z_137, z_138, z_139]; exact y8.2.2.1⟩); exact Or.inl ⟨z9.1, by omega, (y9.2 (by omega)).trans (congrArg some (by omega))⟩)⟩
  have y_140 : (q_11.1 k0 10).toInt = (q_8.1 k0 10).toInt := by rw [z_17]
  have y_141 : (q_11.1 a0 1).toInt = 0 := by rw [z_12]; rfl
  have y_142 : (q_11.1 k0 10).toInt = (q_8.1 k0 10).toInt := by rw [z_17]
  exact Lp_23_37 _ 0 q_11 hV_q_11 hF_q_11 z_15 z_18 z_19 z_20 z_21 z_22 z_23 z_24 z_25 z_26 z_27 z_28 z_29 (show 0 ≤ 0 from by first | assumption | omega | decide) (show 0 ≤ 400 from by first | assumption | omega | decide) (show 0 ≤ (q_11.1 k0 10).toInt from by first | assumption | omega | decide) (show pm_c F n9 ((401 : Int) - 0).toNat R9 (q_11.1 k0 10).toInt.toNat (q_11.1 a0 1) (q_11.1 a0 2) (q_11.1 a2 6) (q_11.2.2.2.2 s0) (q_11.2.2.2.1 c0) (q_11.2.2.2.2 m0) (q_11.2.2.2.1 f0) (q_11.2.2.2.1 w0) from by rw [show (q_11.1 k0 10).toInt.toNat = 0 by omega, hR9, show ((401 : Int) - 0).toNat = 401 from rfl]; rw [z_12, z_16, z_31, z_30, z_32]; exact pm_c0 rfl hw_4.1 hw_4.2.1 hw_4.2.2.1 hw_4.2.2.2) (Nat.lt_succ_self _)
