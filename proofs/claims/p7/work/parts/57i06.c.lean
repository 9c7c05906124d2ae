set_option maxHeartbeats 4000000 in
set_option maxRecDepth 100000 in
theorem k_X9_find_c (l : Launch) (dC : Nat → ClassId) (dI : Nat → Nat → Nat) (h : Sh) (L : List Nat) (hN : sx_nd L) (q : Sg) (hV : sx_V h L q) {a0 : Nat} (ha0 : a0 ∈ L) (ka0 : h.1 a0 = 9) (n1 : Int64) {m0 : Nat} (em0 : q.2.2.1 a0 2 = m0)    : CMi l dC dI h L yX9_find wsX9_find ({ frames := 0, cells := 0, slots := 0, locals := 0 } : Room) q [.ref a0, .long n1] (fun r q' => q = q' ∧ (r.toInt = -1 ∧ (∀ j : Nat, j < 15 → ¬ q.2.2.2.2 m0 j = n1) ∨ ¬ r.toInt = -1 ∧ ∃ j : Nat, j < 15 ∧ q.2.2.2.2 m0 j = n1)) := by
  refine cm_i (cc := cX9_find) (mL := 4) (own := RX9) hN (by decide) rfl rfl (Nat.le_of_ble_eq_true rfl) (fun Z B hret => ?_)
  obtain ⟨hm0, km0, lm0⟩ : m0 ∈ L ∧ h.1 m0 = 202 ∧ h.2.1 m0 = 15 := by obtain ⟨r9, e9, z1, z2, z3⟩ := hV.refn (t := 202) (n := 15) ha0 ka0 2 rfl (by decide) rfl (by decide); rw [← em0, e9]; exact ⟨z1, z2, z3⟩
  show WA l dC dI h L ({ frames := 0, cells := 0, slots := 0, locals := 0 } : Room) 4 Z q 0 [(0, .ref a0), (1, .long n1)] []
  refine wa_iconst B 0 dX9_find_0 (by decide) ?_
  refine wa_istore_n B [(3, .int 0), (0, .ref a0), (1, .long n1)] dX9_find_1 rfl (by decide) rfl ?_
  have Lp_2_4 : ∀ (n : Nat) (v_1 : Int32), 0 ≤ v_1.toInt → (∀ j : Nat, (j : Int) < v_1.toInt → ¬ q.2.2.2.2 m0 j = n1) → (15 - v_1.toInt : Int).toNat < n → WA l dC dI h L ({ frames := 0, cells := 0, slots := 0, locals := 0 } : Room) 4 Z q 2 [(3, .int v_1), (0, .ref a0), (1, .long n1)] [] := by
    intro n
    induction n with
    | zero =>
      intro v_1 x_2 x_3 hn
      exact absurd hn (Nat.not_lt_zero _)
    | succ n ih_5 =>
      intro v_1 x_2 x_3 hn
      refine wa_iload_n B dX9_find_2 rfl 0 rfl ?_
      refine wa_bipush B 15 dX9_find_3 (by decide) ?_
      refine wa_icmp_ge B 27 dX9_find_5 (by decide) (fun (t_6 : 15 ≤ v_1.toInt) => ?_) (fun (t_6 : ¬ 15 ≤ v_1.toInt) => ?_)
      · refine wa_iconst B (-1) dX9_find_27 (by decide) ?_
        exact hret _ _ _ _ dX9_find_28 ⟨rfl, (Or.inl ⟨rfl, fun j hj => x_3 j (by omega)⟩)⟩
      · refine wa_aload_n B dX9_find_8 rfl 1 rfl ?_
        refine wa_getR B (C := RX9) (T := TX9) (N := 7) iq_X9_find_X9 ha0 ka0 (by decide) rfl 2 (by decide) (by decide) (by decide +kernel) rfl (fun _ _ _ => rfl) (v := m0) em0 dX9_find_9 ?_
        refine wa_iload_n B dX9_find_12 rfl 0 rfl ?_
        refine wa_laload B hm0 km0 (by decide) (by decide) (show 0 ≤ v_1.toInt by omega) (show v_1.toInt < (h.2.1 m0 : Int) by omega) (v := (q.2.2.2.2 m0 (v_1 : Int32).toNatClampNeg)) rfl dX9_find_13 ?_
        refine wa_lload_n B dX9_find_14 rfl 2 rfl ?_
        refine wa_lcmp B dX9_find_15 (fun v_7 ev_7 => ?_)
        refine wa_if_ne B 21 dX9_find_16 (by decide) (fun (t_8 : ¬ v_7.toInt = 0) => ?_) (fun (t_8 : v_7.toInt = 0) => ?_)
        · obtain ⟨v_9, ev_9⟩ : ∃ z : Int32, z = v_1 + 1 := ⟨_, rfl⟩
          refine wa_iinc B [(3, .int v_9), (0, .ref a0), (1, .long n1)] v_9 dX9_find_21 0 rfl (by rw [ev_9]; rfl) (by decide) rfl ?_
          refine wa_goto B 2 dX9_find_24 (by decide) ?_
          have tv_9 : v_9.toInt = v_1.toInt + 1 := by have b0 := zx_bd v_1; rw [ev_9]; exact zx_add (show (-2147483648 : Int) ≤ v_1.toInt + 1 by omega) (show v_1.toInt + 1 < (2147483648 : Int) by omega)
          exact ih_5 v_9 (show 0 ≤ v_9.toInt from by first | assumption | omega | decide) (show ∀ j : Nat, (j : Int) < v_9.toInt → ¬ q.2.2.2.2 m0 j = n1 from by intro j hj; have a9 := zx_nc v_1; by_cases z9 : j = (v_1 : Int32).toNatClampNeg; (rw [z9]; exact pz_cne ev_7 (by omega)); exact x_3 j (by omega)) (show (15 - v_9.toInt : Int).toNat < _ from by omega)
        · refine wa_iload_n B dX9_find_19 rfl 0 rfl ?_
          exact hret _ _ _ _ dX9_find_20 ⟨rfl, (Or.inr ⟨by omega, (v_1 : Int32).toNatClampNeg, by have a9 := zx_nc v_1; omega, pz_ceq ev_7 (by omega)⟩)⟩
  exact Lp_2_4 _ 0 (show 0 ≤ 0 from by first | assumption | omega | decide) (show ∀ j : Nat, (j : Int) < 0 → ¬ q.2.2.2.2 m0 j = n1 from by intro j hj; exact absurd hj (show ¬ ((j : Int) < 0) from by omega)) (Nat.lt_succ_self _)
