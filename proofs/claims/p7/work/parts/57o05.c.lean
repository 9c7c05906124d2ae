set_option maxHeartbeats 4000000 in
set_option maxRecDepth 100000 in
theorem k_X12_isTaken_c (l : Launch) (dC : Nat → ClassId) (dI : Nat → Nat → Nat) (h : Sh) (L : List Nat) (hN : sx_nd L) (q : Sg) (hV : sx_V h L q) {a0 : Nat} (ha0 : a0 ∈ L) (ka0 : h.1 a0 = 12) (n1 : Int32) {m16 : Nat} (em16 : q.2.2.1 a0 16 = m16) {m17 : Nat} (em17 : q.2.2.1 a0 17 = m17) {m18 : Nat} (em18 : q.2.2.1 a0 18 = m18)   (hy0 : 0 ≤ n1.toInt) (hy1 : n1.toInt ≤ 2) : CMi l dC dI h L yX12_isTaken wsX12_isTaken ({ frames := 0, cells := 0, slots := 0, locals := 0 } : Room) q [.ref a0, .int n1] (fun r q' => q = q' ∧ (r.toInt = 1 ∧ r27_tk (q.2.2.2.2 m16) (q.2.2.2.2 m17) (q.2.2.2.1 m18) n1.toInt.toNat (q.2.1 a0 11) ∨ r.toInt = 0 ∧ ¬ r27_tk (q.2.2.2.2 m16) (q.2.2.2.2 m17) (q.2.2.2.1 m18) n1.toInt.toNat (q.2.1 a0 11))) := by
  refine cm_z (cc := cX12_isTaken) (mL := 4) (own := RX12) hN (by decide) rfl rfl (Nat.le_of_ble_eq_true rfl) (fun Z B hret => ?_)
  obtain ⟨hm16, km16, lm16⟩ : m16 ∈ L ∧ h.1 m16 = 226 ∧ h.2.1 m16 = 6 := by obtain ⟨r9, e9, z1, z2, z3⟩ := hV.refn (t := 226) (n := 6) ha0 ka0 16 rfl (by decide) rfl (by decide); rw [← em16, e9]; exact ⟨z1, z2, z3⟩
  obtain ⟨hm17, km17, lm17⟩ : m17 ∈ L ∧ h.1 m17 = 227 ∧ h.2.1 m17 = 30 := by obtain ⟨r9, e9, z1, z2, z3⟩ := hV.refn (t := 227) (n := 30) ha0 ka0 17 rfl (by decide) rfl (by decide); rw [← em17, e9]; exact ⟨z1, z2, z3⟩
  obtain ⟨hm18, km18, lm18⟩ : m18 ∈ L ∧ h.1 m18 = 128 ∧ h.2.1 m18 = 6 := by obtain ⟨r9, e9, z1, z2, z3⟩ := hV.refn (t := 128) (n := 6) ha0 ka0 18 rfl (by decide) rfl (by decide); rw [← em18, e9]; exact ⟨z1, z2, z3⟩
  show WA l dC dI h L ({ frames := 0, cells := 0, slots := 0, locals := 0 } : Room) 4 Z q 0 [(0, .ref a0), (1, .int n1)] []
  refine wa_iconst B 3 dX12_isTaken_0 (by decide) ?_
  refine wa_istore_n B [(2, .int 3), (0, .ref a0), (1, .int n1)] dX12_isTaken_1 rfl (by decide) rfl ?_
  have Lp_2_5 : ∀ (n : Nat) (v_1 : Int32), 3 ≤ v_1.toInt → v_1.toInt ≤ 6 → (∀ s : Nat, (s : Int) < v_1.toInt - 3 → ¬ r27_row (q.2.2.2.2 m16) (q.2.2.2.2 m17) (q.2.2.2.1 m18) s (q.2.1 a0 11)) → (6 - v_1.toInt : Int).toNat < n → WA l dC dI h L ({ frames := 0, cells := 0, slots := 0, locals := 0 } : Room) 4 Z q 2 [(2, .int v_1), (0, .ref a0), (1, .int n1)] [] := by
    intro n
    induction n with
    | zero =>
      intro v_1 x_2 x_3 x_4 hn
      exact absurd hn (Nat.not_lt_zero _)
    | succ n ih_6 =>
      intro v_1 x_2 x_3 x_4 hn
      refine wa_iload_n B dX12_isTaken_2 rfl 0 rfl ?_
      refine wa_iconst B 3 dX12_isTaken_3 (by decide) ?_
      refine wa_iload_n B dX12_isTaken_4 rfl 2 rfl ?_
      refine wa_iadd B dX12_isTaken_5 (fun v_7 ev_7 => ?_)
      have tv_7 : v_7.toInt = 3 + n1.toInt := by have b1 := zx_bd n1; rw [ev_7]; exact zx_add (show (-2147483648 : Int) ≤ 3 + n1.toInt by omega) (show 3 + n1.toInt < (2147483648 : Int) by omega)
      refine wa_icmp_gt B 69 dX12_isTaken_6 (by decide) (fun (t_8 : v_7.toInt < v_1.toInt) => ?_) (fun (t_8 : ¬ v_7.toInt < v_1.toInt) => ?_)
      · refine wa_iconst B 0 dX12_isTaken_69 (by decide) ?_
        exact hret _ _ _ _ dX12_isTaken_70 (Or.inl rfl) ⟨rfl, (Or.inr ⟨rfl, fun ⟨s, z1, z2⟩ => x_4 s (by omega) z2⟩)⟩
      · refine wa_aload_n B dX12_isTaken_9 rfl 1 rfl ?_
        refine wa_getR B (C := RX12) (T := TX12) (N := 51) iq_X12_isTaken_X12 ha0 ka0 (by decide) rfl 16 (by decide) (by decide) (by decide +kernel) rfl (fun _ _ _ => rfl) (v := m16) em16 dX12_isTaken_10 ?_
        refine wa_iload_n B dX12_isTaken_13 rfl 0 rfl ?_
        refine wa_laload B hm16 km16 (by decide) (by decide) (show 0 ≤ v_1.toInt by omega) (show v_1.toInt < (h.2.1 m16 : Int) by omega) (v := (q.2.2.2.2 m16 (v_1 : Int32).toNatClampNeg)) rfl dX12_isTaken_14 ?_
        refine wa_aload_n B dX12_isTaken_15 rfl 1 rfl ?_
        refine wa_getJ B (C := RX12) (T := TX12) (N := 51) iq_X12_isTaken_X12 ha0 ka0 (by decide) rfl 11 (by decide) (by decide) (by decide +kernel) rfl (by decide) (v := (q.2.1 a0 11)) rfl dX12_isTaken_16 ?_
        refine wa_lcmp B dX12_isTaken_19 (fun v_9 ev_9 => ?_)
        refine wa_if_ne B 25 dX12_isTaken_20 (by decide) (fun (t_10 : ¬ v_9.toInt = 0) => ?_) (fun (t_10 : v_9.toInt = 0) => ?_)
        · refine wa_iconst B 0 dX12_isTaken_25 (by decide) ?_
          refine wa_istore_n B [(3, .int 0), (2, .int v_1), (0, .ref a0), (1, .int n1)] dX12_isTaken_26 rfl (by decide) rfl ?_
          have Lp_27_14 : ∀ (n : Nat) (v_11 : Int32), 0 ≤ v_11.toInt → (∀ u : Nat, (u : Int) < v_11.toInt → ¬ q.2.2.2.2 m17 (5 * (v_1).toNatClampNeg + u) = q.2.1 a0 11) → (5 - v_11.toInt : Int).toNat < n → WA l dC dI h L ({ frames := 0, cells := 0, slots := 0, locals := 0 } : Room) 4 Z q 27 [(3, .int v_11), (2, .int v_1), (0, .ref a0), (1, .int n1)] [] := by
            intro n
            induction n with
            | zero =>
              intro v_11 x_12 x_13 hn
              exact absurd hn (Nat.not_lt_zero _)
            | succ n ih_15 =>
              intro v_11 x_12 x_13 hn
              refine wa_iload_n B dX12_isTaken_27 rfl 0 rfl ?_
              refine wa_aload_n B dX12_isTaken_28 rfl 2 rfl ?_
              refine wa_getR B (C := RX12) (T := TX12) (N := 51) iq_X12_isTaken_X12 ha0 ka0 (by decide) rfl 18 (by decide) (by decide) (by decide +kernel) rfl (fun _ _ _ => rfl) (v := m18) em18 dX12_isTaken_29 ?_
              refine wa_iload_n B dX12_isTaken_32 rfl 1 rfl ?_
              refine wa_iaload B hm18 km18 (by decide) (by decide) (show 0 ≤ v_1.toInt by omega) (show v_1.toInt < (h.2.1 m18 : Int) by omega) (v := (q.2.2.2.1 m18 (v_1 : Int32).toNatClampNeg)) rfl dX12_isTaken_33 ?_
              have g_16 : (0 : Int) ≤ ((q.2.2.2.1 m18 (v_1 : Int32).toNatClampNeg)).toInt ∧ ((q.2.2.2.1 m18 (v_1 : Int32).toNatClampNeg)).toInt ≤ 5 := hV.cnt hm18 km18 _
              refine wa_icmp_ge B 63 dX12_isTaken_34 (by decide) (fun (t_17 : ((q.2.2.2.1 m18 (v_1 : Int32).toNatClampNeg)).toInt ≤ v_11.toInt) => ?_) (fun (t_17 : ¬ ((q.2.2.2.1 m18 (v_1 : Int32).toNatClampNeg)).toInt ≤ v_11.toInt) => ?_)
              · obtain ⟨v_18, ev_18⟩ : ∃ z : Int32, z = v_1 + 1 := ⟨_, rfl⟩
                refine wa_iinc B [(2, .int v_18), (3, .int v_11), (0, .ref a0), (1, .int n1)] v_18 dX12_isTaken_63 1 rfl (by rw [ev_18]; rfl) (by decide) rfl ?_
                refine wa_goto B 2 dX12_isTaken_66 (by decide) ?_
                have tv_18 : v_18.toInt = v_1.toInt + 1 := by have b0 := zx_bd v_1; rw [ev_18]; exact zx_add (show (-2147483648 : Int) ≤ v_1.toInt + 1 by omega) (show v_1.toInt + 1 < (2147483648 : Int) by omega)
                refine WA.sub [0, 2, 3] rfl ?_
                exact ih_6 v_18 (show 3 ≤ v_18.toInt from by first | assumption | omega | decide) (show v_18.toInt ≤ 6 from by first | assumption | omega | decide) (show ∀ s : Nat, (s : Int) < v_18.toInt - 3 → ¬ r27_row (q.2.2.2.2 m16) (q.2.2.2.2 m17) (q.2.2.2.1 m18) s (q.2.1 a0 11) from by intro s hs; have a9 := zx_nc v_1; by_cases z9 : 3 + s = (v_1 : Int32).toNatClampNeg; (intro z8; unfold r27_row at z8; rw [z9] at z8; rcases z8 with z8 | ⟨u, z7, z8⟩; (exact pz_cne ev_9 (by omega) z8); exact x_13 u (by omega) z8); exact x_4 s (by omega)) (show (6 - v_18.toInt : Int).toNat < _ from by omega)
              · refine wa_aload_n B dX12_isTaken_37 rfl 2 rfl ?_
                refine wa_getR B (C := RX12) (T := TX12) (N := 51) iq_X12_isTaken_X12 ha0 ka0 (by decide) rfl 17 (by decide) (by decide) (by decide +kernel) rfl (fun _ _ _ => rfl) (v := m17) em17 dX12_isTaken_38 ?_
                refine wa_iconst B 5 dX12_isTaken_41 (by decide) ?_
                refine wa_iload_n B dX12_isTaken_42 rfl 1 rfl ?_
                refine wa_imul B dX12_isTaken_43 (fun v_19 ev_19 => ?_)
                refine wa_iload_n B dX12_isTaken_44 rfl 0 rfl ?_
                refine wa_iadd B dX12_isTaken_45 (fun v_20 ev_20 => ?_)
                have tv_19 : v_19.toInt = 5 * v_1.toInt := by have b1 := zx_bd v_1; rw [ev_19]; exact zx_mul (show (-2147483648 : Int) ≤ 5 * v_1.toInt by omega) (show 5 * v_1.toInt < (2147483648 : Int) by omega)
                have tv_20 : v_20.toInt = v_19.toInt + v_11.toInt := by have b0 := zx_bd v_19; have b1 := zx_bd v_11; rw [ev_20]; exact zx_add (show (-2147483648 : Int) ≤ v_19.toInt + v_11.toInt by omega) (show v_19.toInt + v_11.toInt < (2147483648 : Int) by omega)
                refine wa_laload B hm17 km17 (by decide) (by decide) (show 0 ≤ v_20.toInt by omega) (show v_20.toInt < (h.2.1 m17 : Int) by omega) (v := (q.2.2.2.2 m17 (v_20 : Int32).toNatClampNeg)) rfl dX12_isTaken_46 ?_
                refine wa_aload_n B dX12_isTaken_47 rfl 2 rfl ?_
                refine wa_getJ B (C := RX12) (T := TX12) (N := 51) iq_X12_isTaken_X12 ha0 ka0 (by decide) rfl 11 (by decide) (by decide) (by decide +kernel) rfl (by decide) (v := (q.2.1 a0 11)) rfl dX12_isTaken_48 ?_
                refine wa_lcmp B dX12_isTaken_51 (fun v_21 ev_21 => ?_)
                refine wa_if_ne B 57 dX12_isTaken_52 (by decide) (fun (t_22 : ¬ v_21.toInt = 0) => ?_) (fun (t_22 : v_21.toInt = 0) => ?_)
                · obtain ⟨v_23, ev_23⟩ : ∃ z : Int32, z = v_11 + 1 := ⟨_, rfl⟩
                  refine wa_iinc B [(3, .int v_23), (2, .int v_1), (0, .ref a0), (1, .int n1)] v_23 dX12_isTaken_57 0 rfl (by rw [ev_23]; rfl) (by decide) rfl ?_
                  refine wa_goto B 27 dX12_isTaken_60 (by decide) ?_
                  have tv_23 : v_23.toInt = v_11.toInt + 1 := by have b0 := zx_bd v_11; rw [ev_23]; exact zx_add (show (-2147483648 : Int) ≤ v_11.toInt + 1 by omega) (show v_11.toInt + 1 < (2147483648 : Int) by omega)
                  exact ih_15 v_23 (show 0 ≤ v_23.toInt from by first | assumption | omega | decide) (show ∀ u : Nat, (u : Int) < v_23.toInt → ¬ q.2.2.2.2 m17 (5 * (v_1).toNatClampNeg + u) = q.2.1 a0 11 from by intro u hu; have a9 := zx_nc v_11; have a8 := zx_nc v_1; have a7 := zx_nc v_20; by_cases z9 : u = (v_11 : Int32).toNatClampNeg; (rw [z9, show 5 * (v_1 : Int32).toNatClampNeg + (v_11 : Int32).toNatClampNeg = (v_20 : Int32).toNatClampNeg by omega]; exact pz_cne ev_21 (by omega)); exact x_13 u (by omega)) (show (5 - v_23.toInt : Int).toNat < _ from by omega)
                · refine wa_iconst B 1 dX12_isTaken_55 (by decide) ?_
                  exact hret _ _ _ _ dX12_isTaken_56 (Or.inr rfl) ⟨rfl, (Or.inl ⟨rfl, ((v_1 : Int32).toNatClampNeg - 3), by have a9 := zx_nc v_1; omega, Or.inr ⟨(v_11 : Int32).toNatClampNeg, by have a9 := zx_nc v_1; have a8 := zx_nc v_11; have a7 := zx_nc v_20; rw [show 3 + ((v_1 : Int32).toNatClampNeg - 3) = (v_1 : Int32).toNatClampNeg by omega]; omega, by have a9 := zx_nc v_1; have a8 := zx_nc v_11; have a7 := zx_nc v_20; rw [show 5 * (3 + ((v_1 : Int32).toNatClampNeg - 3)) + (v_11 : Int32).toNatClampNeg = (v_20 : Int32).toNatClampNeg by omega]; exact pz_ceq ev_21 (by omega)⟩⟩)⟩
          exact Lp_27_14 _ 0 (show 0 ≤ 0 from by first | assumption | omega | decide) (show ∀ u : Nat, (u : Int) < 0 → ¬ q.2.2.2.2 m17 (5 * (v_1).toNatClampNeg + u) = q.2.1 a0 11 from by intro u hu; exact absurd hu (show ¬ ((u : Int) < 0) from by omega)) (Nat.lt_succ_self _)
        · refine wa_iconst B 1 dX12_isTaken_23 (by decide) ?_
          exact hret _ _ _ _ dX12_isTaken_24 (Or.inr rfl) ⟨rfl, (Or.inl ⟨rfl, ((v_1 : Int32).toNatClampNeg - 3), by have a9 := zx_nc v_1; omega, Or.inl (by have a9 := zx_nc v_1; rw [show 3 + ((v_1 : Int32).toNatClampNeg - 3) = (v_1 : Int32).toNatClampNeg by omega]; exact pz_ceq ev_9 (by omega))⟩)⟩
  exact Lp_2_5 _ 3 (show 3 ≤ 3 from by first | assumption | omega | decide) (show 3 ≤ 6 from by first | assumption | omega | decide) (show ∀ s : Nat, (s : Int) < 3 - 3 → ¬ r27_row (q.2.2.2.2 m16) (q.2.2.2.2 m17) (q.2.2.2.1 m18) s (q.2.1 a0 11) from by intro s hs; exact absurd hs (show ¬ ((s : Int) < 3 - 3) from by omega)) (Nat.lt_succ_self _)
