set_option maxHeartbeats 4000000 in
set_option maxRecDepth 100000 in
theorem k_X12_outName_c (l : Launch) (dC : Nat → ClassId) (dI : Nat → Nat → Nat) (h : Sh) (L : List Nat) (hN : sx_nd L) (q : Sg) (hV : sx_V h L q) {a0 : Nat} (ha0 : a0 ∈ L) (ka0 : h.1 a0 = 12) (n1 : Int64) {m21 : Nat} (em21 : q.2.2.1 a0 21 = m21)  (l9 : List Nat) (w9 : List Nat) (hX : pw_27 n1 w9) (hC : pw_R l9 (q.1 a0 22) (q.2.2.2.1 m21)) (hy0 : (l9.length : Int) ≤ 72) : CMv l dC dI h L yX12_outName wsX12_outName ({ frames := 1, cells := 0, slots := 0, locals := 21 } : Room) q [.ref a0, .long n1] (fun q' => sx_V h L q' ∧ sx_fr h L (fun a => h.1 a = 12 ∨ h.1 a = 131) q q' ∧ sx_kf a0 [22] q q' ∧ (pw_R (l9 ++ w9) (q'.1 a0 22) (q'.2.2.2.1 m21))) := by
  refine cm_v (cc := cX12_outName) (mL := 5) (own := RX12) hN (by decide) rfl rfl (Nat.le_of_ble_eq_true rfl) (fun Z B hret => ?_)
  have hF : sx_fr h L (fun a => h.1 a = 12 ∨ h.1 a = 131) q q := sx_fr.rf
  have hK : sx_kf a0 [22] q q := sx_kf.rf
  obtain ⟨hm21, km21, lm21⟩ : m21 ∈ L ∧ h.1 m21 = 131 ∧ h.2.1 m21 = 80 := by obtain ⟨r9, e9, z1, z2, z3⟩ := hV.refn (t := 131) (n := 80) ha0 ka0 21 rfl (by decide) rfl (by decide); rw [← em21, e9]; exact ⟨z1, z2, z3⟩
  show WA l dC dI h L ({ frames := 1, cells := 0, slots := 0, locals := 21 } : Room) 5 Z q 0 [(0, .ref a0), (1, .long n1)] []
  obtain ⟨F9, s9, hwd, hx8, hww⟩ := hX
  obtain ⟨hv1, hv2, hv3, hv4⟩ := pw_v27 hwd hx8
  generalize pz_N 27 (fun i => ((F9 (s9.1 + i)).toInt - 96).toNat) s9.2 = N9 at hv1 hv2 hv3
  have hs1 := hwd.1
  have hs2 := hwd.2.1
  refine wa_lconst B 1 dX12_outName_0 (by decide) ?_
  have h1_64 : (1 : Int64).toInt = 1 := rfl
  refine wa_lstore_n B [(3, .long 1), (0, .ref a0), (1, .long n1)] dX12_outName_1 rfl (by decide) rfl ?_
  have Lp_2_3 : ∀ (n : Nat) (v_1 : Int64), (∃ i : Nat, i < s9.2 ∧ (v_1 : Int64).toInt = ((27 ^ i : Nat) : Int)) → (300000000000 - (v_1 : Int64).toInt : Int).toNat < n → WA l dC dI h L ({ frames := 1, cells := 0, slots := 0, locals := 21 } : Room) 5 Z q 2 [(3, .long v_1), (0, .ref a0), (1, .long n1)] [] := by
    intro n
    induction n with
    | zero =>
      intro v_1 x_2 hn
      exact absurd hn (Nat.not_lt_zero _)
    | succ n ih_4 =>
      intro v_1 x_2 hn
      refine wa_lload_n B dX12_outName_2 rfl 0 rfl ?_
      obtain ⟨i9, hi9, hp9⟩ := x_2
      have hp8 := pw_pb hi9 hv4 hp9
      refine wa_lload_n B dX12_outName_3 rfl 2 rfl ?_
      refine wa_ldc2 B 27 (by decide +kernel) dX12_outName_4 ?_
      refine wa_ldiv B dX12_outName_7 (by decide) (fun v_5 ev_5 => ?_)
      have gv_5 : v_5.toInt = n1.toInt / 27 := by rw [ev_5]; exact zy_div (by omega)
      refine wa_lcmp B dX12_outName_8 (fun v_6 ev_6 => ?_)
      have gv_6 := zy_cmp (v_1 : Int64) (v_5 : Int64)
      rw [← ev_6] at gv_6
      have hv_6 : (0 : Int64).toInt = 0 := rfl
      refine wa_if_gt B 21 dX12_outName_9 (by decide) (fun (t_7 : 0 < v_6.toInt) => ?_) (fun (t_7 : ¬ 0 < v_6.toInt) => ?_)
      · have Lp_21_11 : ∀ (n : Nat) (v_8 : Int64) (q_9 : Sg), sx_V h L q_9 → sx_fr h L (fun a => h.1 a = 12 ∨ h.1 a = 131) q q_9 → sx_kf a0 [22] q q_9 → q_9.2.2.1 a0 21 = m21 → (∃ j : Nat, j ≤ s9.2 ∧ (v_8 : Int64).toInt = ((27 ^ j / 27 : Nat) : Int) ∧ pw_R (l9 ++ pw_wl F9 s9.1 (s9.2 - j)) (q_9.1 a0 22) (q_9.2.2.2.1 m21)) → ((v_8 : Int64).toInt : Int).toNat < n → WA l dC dI h L ({ frames := 1, cells := 0, slots := 0, locals := 21 } : Room) 5 Z q_9 21 [(3, .long v_8), (0, .ref a0), (1, .long n1)] [] := by
          intro n
          induction n with
          | zero =>
            intro v_8 q_9 hV_q_9 hF_q_9 hK_q_9 p0_q_9 x_10 hn
            exact absurd hn (Nat.not_lt_zero _)
          | succ n ih_12 =>
            intro v_8 q_9 hV_q_9 hF_q_9 hK_q_9 p0_q_9 x_10 hn
            refine wa_lload_n B dX12_outName_21 rfl 0 rfl ?_
            obtain ⟨j9, hj9, hp7, hr9⟩ := x_10
            have y9 := hr9.1
            rw [List.length_append, pw_wl_len] at y9
            refine wa_lconst B 0 dX12_outName_22 (by decide) ?_
            refine wa_lcmp B dX12_outName_23 (fun v_13 ev_13 => ?_)
            have gv_13 := zy_cmp (v_8 : Int64) (0 : Int64)
            rw [← ev_13] at gv_13
            have hv_13 : (0 : Int64).toInt = 0 := rfl
            refine wa_if_le B 51 dX12_outName_24 (by decide) (fun (t_14 : v_13.toInt ≤ 0) => ?_) (fun (t_14 : ¬ v_13.toInt ≤ 0) => ?_)
            · exact hret _ _ _ dX12_outName_51 ⟨hV_q_9, hF_q_9, hK_q_9, (by have e9 := pw_j0 hp7 (by omega); subst e9; rw [hww]; exact hr9)⟩
            · obtain ⟨i8, ej9, hp6⟩ := pw_j1 hp7 (by omega)
              subst ej9
              have hp5 := pw_pb (K := s9.2) (i := i8) (by omega) hv4 hp6
              refine wa_aload_n B dX12_outName_27 rfl 1 rfl ?_
              refine wa_lload_n B dX12_outName_28 rfl 2 rfl ?_
              refine wa_lload_n B dX12_outName_29 rfl 0 rfl ?_
              refine wa_ldiv B dX12_outName_30 (fun z => absurd (show v_8.toInt = (0 : Int) from by rw [z]; rfl) (by omega)) (fun v_15 ev_15 => ?_)
              refine wa_ldc2 B 27 (by decide +kernel) dX12_outName_31 ?_
              refine wa_lrem B dX12_outName_34 (by decide) (fun v_16 ev_16 => ?_)
              refine wa_l2i B dX12_outName_35 (fun v_17 ev_17 => ?_)
              refine wa_bipush B 96 dX12_outName_36 (by decide) ?_
              refine wa_iadd B dX12_outName_38 (fun v_18 ev_18 => ?_)
              have hv9 := pw_l27 (j := i8) hwd hx8 (by omega) hp6 ev_15 ev_16 ev_17 ev_18
              refine wa_callVv B (x := (RX12, TX12, 51)) (As := [.int v_18]) (rest := []) (k_X12_outByte_c l dC dI h L hN q_9 hV_q_9 (a0 := a0) ha0 ka0 v_18 (m21 := m21) p0_q_9  (by first | assumption | omega | decide)) (cwV 1 B.1.2.2.2.2 gX12_outName_X12_outByte rfl rfl rfl (by decide +kernel) ⟨Nat.le_of_ble_eq_true rfl, Nat.le_of_ble_eq_true rfl⟩) ha0 ka0 (by decide) rfl rfl rfl (Nat.le_of_ble_eq_true rfl) dX12_outName_39 (fun q_19 w_20 => ?_)
              obtain ⟨hV_q_19, h2_q_19, h3_q_19, hw_20⟩ := w_20
              have hF_q_19 : sx_fr h L (fun a => h.1 a = 12 ∨ h.1 a = 131) q q_19 := hF_q_9.tr (h2_q_19.mono (fun a (z : h.1 a = 12 ∨ h.1 a = 131) => ((fun z => z.elim (fun z => (Or.inl z)) (fun z => (Or.inr z))) z)))
              have hK_q_19 : sx_kf a0 [22] q q_19 := hK_q_9.tr (h3_q_19.mono (by decide))
              refine wa_lload_n B dX12_outName_42 rfl 0 rfl ?_
              refine wa_ldc2 B 27 (by decide +kernel) dX12_outName_43 ?_
              refine wa_ldiv B dX12_outName_46 (by decide) (fun v_21 ev_21 => ?_)
              have gv_21 : v_21.toInt = v_8.toInt / 27 := by rw [ev_21]; exact zy_div (by omega)
              refine wa_lstore_n B [(3, .long v_21), (0, .ref a0), (1, .long n1)] dX12_outName_47 rfl (by decide) rfl ?_
              refine wa_goto B 21 dX12_outName_48 (by decide) ?_
              have z_22 : q_19.2.2.1 a0 21 = m21 := (h2_q_19.R ha0 (fun z9 => absurd z9.2 (by omega)) 21).trans (p0_q_9)
              exact ih_12 v_21 q_19 hV_q_19 hF_q_19 hK_q_19 z_22 (show (∃ j : Nat, j ≤ s9.2 ∧ (v_21 : Int64).toInt = ((27 ^ j / 27 : Nat) : Int) ∧ pw_R (l9 ++ pw_wl F9 s9.1 (s9.2 - j)) (q_19.1 a0 22) (q_19.2.2.2.1 m21)) from by exact ⟨i8, by omega, by rw [show (v_21 : Int64).toInt = (v_8 : Int64).toInt / 27 from gv_21, hp6]; first | omega | exact (Int.natCast_ediv _ _).symm, pw_rl (by omega) hv9 hr9 hw_20.1 hw_20.2⟩) (show ((v_21 : Int64).toInt : Int).toNat < _ from by omega)
        exact Lp_21_11 _ v_1 q hV hF hK em21 (show (∃ j : Nat, j ≤ s9.2 ∧ (v_1 : Int64).toInt = ((27 ^ j / 27 : Nat) : Int) ∧ pw_R (l9 ++ pw_wl F9 s9.1 (s9.2 - j)) (q.1 a0 22) (q.2.2.2.1 m21)) from by refine ⟨s9.2, Nat.le_refl _, pw_p2 hv1 hs1 hv3 hi9 hp9 (by omega), ?_⟩; rw [show s9.2 - s9.2 = 0 by omega]; show pw_R (l9 ++ []) _ _; rw [List.append_nil]; exact hC) (Nat.lt_succ_self _)
      · refine wa_lload_n B dX12_outName_12 rfl 0 rfl ?_
        refine wa_ldc2 B 27 (by decide +kernel) dX12_outName_13 ?_
        refine wa_lmul B dX12_outName_16 (fun v_23 ev_23 => ?_)
        have gv_23 : v_23.toInt = (v_1 : Int64).toInt * 27 := by rw [ev_23]; exact zy_m27 (by omega) (by omega)
        refine wa_lstore_n B [(3, .long v_23), (0, .ref a0), (1, .long n1)] dX12_outName_17 rfl (by decide) rfl ?_
        refine wa_goto B 2 dX12_outName_18 (by decide) ?_
        exact ih_4 v_23 (show (∃ i : Nat, i < s9.2 ∧ (v_23 : Int64).toInt = ((27 ^ i : Nat) : Int)) from by have z9 := pw_p1 hv1 hv2 hp9 (by omega); exact ⟨i9 + 1, z9.1, by rw [show (v_23 : Int64).toInt = (v_1 : Int64).toInt * 27 from gv_23]; exact z9.2⟩) (show (300000000000 - (v_23 : Int64).toInt : Int).toNat < _ from by omega)
  exact Lp_2_3 _ 1 (show (∃ i : Nat, i < s9.2 ∧ (1 : Int64).toInt = ((27 ^ i : Nat) : Int)) from by exact ⟨0, by omega, rfl⟩) (Nat.lt_succ_self _)
