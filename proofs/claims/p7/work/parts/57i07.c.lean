set_option maxHeartbeats 4000000 in
set_option maxRecDepth 100000 in
theorem k_X9_isTaken_c (l : Launch) (dC : Nat → ClassId) (dI : Nat → Nat → Nat) (h : Sh) (L : List Nat) (hN : sx_nd L) (q : Sg) (hV : sx_V h L q) {a0 : Nat} (ha0 : a0 ∈ L) (ka0 : h.1 a0 = 9) (n1 : Int64) {s0 : Nat} (es0 : q.2.2.1 a0 0 = s0) {m0 : Nat} (em0 : q.2.2.1 a0 2 = m0)    : CMi l dC dI h L yX9_isTaken wsX9_isTaken ({ frames := 1, cells := 0, slots := 0, locals := 23 } : Room) q [.ref a0, .long n1] (fun r q' => q = q' ∧ (r.toInt = 1 ∧ r8_tk (q.2.2.2.2 s0) (q.2.2.2.2 m0) n1 ∨ r.toInt = 0 ∧ ¬ r8_tk (q.2.2.2.2 s0) (q.2.2.2.2 m0) n1)) := by
  refine cm_z (cc := cX9_isTaken) (mL := 4) (own := RX9) hN (by decide) rfl rfl (Nat.le_of_ble_eq_true rfl) (fun Z B hret => ?_)
  obtain ⟨hs0, ks0, ls0⟩ : s0 ∈ L ∧ h.1 s0 = 201 ∧ h.2.1 s0 = 3 := by obtain ⟨r9, e9, z1, z2, z3⟩ := hV.refn (t := 201) (n := 3) ha0 ka0 0 rfl (by decide) rfl (by decide); rw [← es0, e9]; exact ⟨z1, z2, z3⟩
  obtain ⟨hm0, km0, lm0⟩ : m0 ∈ L ∧ h.1 m0 = 202 ∧ h.2.1 m0 = 15 := by obtain ⟨r9, e9, z1, z2, z3⟩ := hV.refn (t := 202) (n := 15) ha0 ka0 2 rfl (by decide) rfl (by decide); rw [← em0, e9]; exact ⟨z1, z2, z3⟩
  show WA l dC dI h L ({ frames := 1, cells := 0, slots := 0, locals := 23 } : Room) 4 Z q 0 [(0, .ref a0), (1, .long n1)] []
  refine wa_iconst B 0 dX9_isTaken_0 (by decide) ?_
  refine wa_istore_n B [(3, .int 0), (0, .ref a0), (1, .long n1)] dX9_isTaken_1 rfl (by decide) rfl ?_
  have Lp_2_4 : ∀ (n : Nat) (v_1 : Int32), 0 ≤ v_1.toInt → (∀ j : Nat, (j : Int) < v_1.toInt → ¬ q.2.2.2.2 s0 j = n1) → (3 - v_1.toInt : Int).toNat < n → WA l dC dI h L ({ frames := 1, cells := 0, slots := 0, locals := 23 } : Room) 4 Z q 2 [(3, .int v_1), (0, .ref a0), (1, .long n1)] [] := by
    intro n
    induction n with
    | zero =>
      intro v_1 x_2 x_3 hn
      exact absurd hn (Nat.not_lt_zero _)
    | succ n ih_5 =>
      intro v_1 x_2 x_3 hn
      refine wa_iload_n B dX9_isTaken_2 rfl 0 rfl ?_
      refine wa_iconst B 3 dX9_isTaken_3 (by decide) ?_
      refine wa_icmp_ge B 26 dX9_isTaken_4 (by decide) (fun (t_6 : 3 ≤ v_1.toInt) => ?_) (fun (t_6 : ¬ 3 ≤ v_1.toInt) => ?_)
      · refine wa_aload_n B dX9_isTaken_26 rfl 1 rfl ?_
        refine wa_lload_n B dX9_isTaken_27 rfl 2 rfl ?_
        refine wa_callVi B (x := (RX9, TX9, 7)) (As := [.long n1]) (rest := []) (k_X9_find_c l dC dI h L hN q hV (a0 := a0) ha0 ka0 n1 (m0 := m0) em0  ) (cwV 1 B.1.2.2.2.2 gX9_isTaken_X9_find rfl rfl rfl (by decide +kernel) ⟨Nat.le_of_ble_eq_true rfl, Nat.le_of_ble_eq_true rfl⟩) ha0 ka0 (by decide) rfl rfl rfl (Nat.le_of_ble_eq_true rfl) dX9_isTaken_28 (fun r_8 q_7 w_9 => ?_)
        obtain ⟨ew_9, hw_9⟩ := w_9
        subst ew_9
        refine wa_iconst B (-1) dX9_isTaken_31 (by decide) ?_
        refine wa_icmp_eq B 39 dX9_isTaken_32 (by decide) (fun (t_10 : r_8.toInt = (-1)) => ?_) (fun (t_10 : ¬ r_8.toInt = (-1)) => ?_)
        · refine wa_iconst B 0 dX9_isTaken_39 (by decide) ?_
          exact hret _ _ _ _ dX9_isTaken_40 (Or.inl rfl) ⟨rfl, (Or.inr ⟨rfl, fun z => z.elim (fun ⟨s, z1, z2⟩ => x_3 s (by omega) z2) (fun ⟨j, z1, z2⟩ => (hw_9.resolve_right (fun y => y.1 (by omega))).2 j z1 z2)⟩)⟩
        · refine wa_iconst B 1 dX9_isTaken_35 (by decide) ?_
          refine wa_goto B 40 dX9_isTaken_36 (by decide) ?_
          exact hret _ _ _ _ dX9_isTaken_40 (Or.inr rfl) ⟨rfl, (Or.inl ⟨rfl, Or.inr (hw_9.resolve_left (fun y => absurd y.1 (by omega))).2⟩)⟩
      · refine wa_aload_n B dX9_isTaken_7 rfl 1 rfl ?_
        refine wa_getR B (C := RX9) (T := TX9) (N := 7) iq_X9_isTaken_X9 ha0 ka0 (by decide) rfl 0 (by decide) (by decide) (by decide +kernel) rfl (fun _ _ _ => rfl) (v := s0) es0 dX9_isTaken_8 ?_
        refine wa_iload_n B dX9_isTaken_11 rfl 0 rfl ?_
        refine wa_laload B hs0 ks0 (by decide) (by decide) (show 0 ≤ v_1.toInt by omega) (show v_1.toInt < (h.2.1 s0 : Int) by omega) (v := (q.2.2.2.2 s0 (v_1 : Int32).toNatClampNeg)) rfl dX9_isTaken_12 ?_
        refine wa_lload_n B dX9_isTaken_13 rfl 2 rfl ?_
        refine wa_lcmp B dX9_isTaken_14 (fun v_11 ev_11 => ?_)
        refine wa_if_ne B 20 dX9_isTaken_15 (by decide) (fun (t_12 : ¬ v_11.toInt = 0) => ?_) (fun (t_12 : v_11.toInt = 0) => ?_)
        · obtain ⟨v_13, ev_13⟩ : ∃ z : Int32, z = v_1 + 1 := ⟨_, rfl⟩
          refine wa_iinc B [(3, .int v_13), (0, .ref a0), (1, .long n1)] v_13 dX9_isTaken_20 0 rfl (by rw [ev_13]; rfl) (by decide) rfl ?_
          refine wa_goto B 2 dX9_isTaken_23 (by decide) ?_
          have tv_13 : v_13.toInt = v_1.toInt + 1 := by have b0 := zx_bd v_1; rw [ev_13]; exact zx_add (show (-2147483648 : Int) ≤ v_1.toInt + 1 by omega) (show v_1.toInt + 1 < (2147483648 : Int) by omega)
          exact ih_5 v_13 (show 0 ≤ v_13.toInt from by first | assumption | omega | decide) (show ∀ j : Nat, (j : Int) < v_13.toInt → ¬ q.2.2.2.2 s0 j = n1 from by intro j hj; have a9 := zx_nc v_1; by_cases z9 : j = (v_1 : Int32).toNatClampNeg; (rw [z9]; exact pz_cne ev_11 (by omega)); exact x_3 j (by omega)) (show (3 - v_13.toInt : Int).toNat < _ from by omega)
        · refine wa_iconst B 1 dX9_isTaken_18 (by decide) ?_
          exact hret _ _ _ _ dX9_isTaken_19 (Or.inr rfl) ⟨rfl, (Or.inl ⟨rfl, Or.inl ⟨(v_1 : Int32).toNatClampNeg, by have a9 := zx_nc v_1; omega, pz_ceq ev_11 (by omega)⟩⟩)⟩
  exact Lp_2_4 _ 0 (show 0 ≤ 0 from by first | assumption | omega | decide) (show ∀ j : Nat, (j : Int) < 0 → ¬ q.2.2.2.2 s0 j = n1 from by intro j hj; exact absurd hj (show ¬ ((j : Int) < 0) from by omega)) (Nat.lt_succ_self _)
