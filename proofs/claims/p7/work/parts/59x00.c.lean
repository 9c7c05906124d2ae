set_option maxHeartbeats 4000000 in
set_option maxRecDepth 100000 in
theorem k_X12_worth_c (l : Launch) (dC : Nat → ClassId) (dI : Nat → Nat → Nat) (h : Sh) (L : List Nat) (hN : sx_nd L) (q : Sg) (hV : sx_V h L q) {a0 : Nat} (ha0 : a0 ∈ L) (ka0 : h.1 a0 = 12) (n1 : Int32) (n2 : Int32) {m19 : Nat} (em19 : q.2.2.1 a0 19 = m19)   (hy0 : 0 ≤ n1.toInt) (hy1 : n1.toInt ≤ 5) (hy2 : 0 ≤ n2.toInt) (hy3 : n2.toInt ≤ 4) : CMi l dC dI h L yX12_worth wsX12_worth ({ frames := 0, cells := 0, slots := 0, locals := 0 } : Room) q [.ref a0, .int n1, .int n2] (fun r q' => q = q' ∧ r = pu_wo (q.2.2.2.1 m19) n1.toNatClampNeg n2.toNatClampNeg) := by
  refine cm_i (cc := cX12_worth) (mL := 5) (own := RX12) hN (by decide) rfl rfl (Nat.le_of_ble_eq_true rfl) (fun Z B hret => ?_)
  obtain ⟨hm19, km19, lm19⟩ : m19 ∈ L ∧ h.1 m19 = 129 ∧ h.2.1 m19 = 30 := by obtain ⟨r9, e9, z1, z2, z3⟩ := hV.refn (t := 129) (n := 30) ha0 ka0 19 rfl (by decide) rfl (by decide); rw [← em19, e9]; exact ⟨z1, z2, z3⟩
  show WA l dC dI h L ({ frames := 0, cells := 0, slots := 0, locals := 0 } : Room) 5 Z q 0 [(0, .ref a0), (1, .int n1), (2, .int n2)] []
  refine wa_iconst B 1 dX12_worth_0 (by decide) ?_
  refine wa_istore_n B [(3, .int 1), (0, .ref a0), (1, .int n1), (2, .int n2)] dX12_worth_1 rfl (by decide) rfl ?_
  refine wa_iconst B 1 dX12_worth_2 (by decide) ?_
  refine wa_istore B [(4, .int 1), (3, .int 1), (0, .ref a0), (1, .int n1), (2, .int n2)] dX12_worth_3 (by decide) rfl ?_
  have Lp_5_6 : ∀ (n : Nat) (v_1 : Int32) (v_2 : Int32), 1 ≤ v_1.toInt → v_1.toInt ≤ n2.toInt + 1 → v_2 = pu_wo (q.2.2.2.1 m19) n1.toNatClampNeg ((v_1).toInt.toNat - 1) → (6 - v_1.toInt : Int).toNat < n → WA l dC dI h L ({ frames := 0, cells := 0, slots := 0, locals := 0 } : Room) 5 Z q 5 [(4, .int v_1), (3, .int v_2), (0, .ref a0), (1, .int n1), (2, .int n2)] [] := by
    intro n
    induction n with
    | zero =>
      intro v_1 v_2 x_3 x_4 x_5 hn
      exact absurd hn (Nat.not_lt_zero _)
    | succ n ih_7 =>
      intro v_1 v_2 x_3 x_4 x_5 hn
      refine wa_iload B dX12_worth_5 0 rfl ?_
      refine wa_iload_n B dX12_worth_7 rfl 4 rfl ?_
      refine wa_icmp_gt B 31 dX12_worth_8 (by decide) (fun (t_8 : n2.toInt < v_1.toInt) => ?_) (fun (t_8 : ¬ n2.toInt < v_1.toInt) => ?_)
      · refine wa_iload_n B dX12_worth_31 rfl 1 rfl ?_
        exact hret _ _ _ _ dX12_worth_32 ⟨rfl, (by rw [show n2.toNatClampNeg = (v_1 : Int32).toInt.toNat - 1 by have a9 := zx_nc n2; omega]; exact x_5)⟩
      · refine wa_iload_n B dX12_worth_11 rfl 1 rfl ?_
        refine wa_aload_n B dX12_worth_12 rfl 2 rfl ?_
        refine wa_getR B (C := RX12) (T := TX12) (N := 51) iq_X12_worth_X12 ha0 ka0 (by decide) rfl 19 (by decide) (by decide) (by decide +kernel) rfl (fun _ _ _ => rfl) (v := m19) em19 dX12_worth_13 ?_
        refine wa_iconst B 5 dX12_worth_16 (by decide) ?_
        refine wa_iload_n B dX12_worth_17 rfl 3 rfl ?_
        refine wa_imul B dX12_worth_18 (fun v_9 ev_9 => ?_)
        refine wa_iload B dX12_worth_19 0 rfl ?_
        refine wa_iadd B dX12_worth_21 (fun v_10 ev_10 => ?_)
        have tv_9 : v_9.toInt = 5 * n1.toInt := by have b1 := zx_bd n1; rw [ev_9]; exact zx_mul (show (-2147483648 : Int) ≤ 5 * n1.toInt by omega) (show 5 * n1.toInt < (2147483648 : Int) by omega)
        have tv_10 : v_10.toInt = v_9.toInt + v_1.toInt := by have b0 := zx_bd v_9; have b1 := zx_bd v_1; rw [ev_10]; exact zx_add (show (-2147483648 : Int) ≤ v_9.toInt + v_1.toInt by omega) (show v_9.toInt + v_1.toInt < (2147483648 : Int) by omega)
        refine wa_iaload B hm19 km19 (by decide) (by decide) (show 0 ≤ v_10.toInt by omega) (show v_10.toInt < (h.2.1 m19 : Int) by omega) (v := (q.2.2.2.1 m19 (v_10 : Int32).toNatClampNeg)) rfl dX12_worth_22 ?_
        refine wa_imul B dX12_worth_23 (fun v_11 ev_11 => ?_)
        refine wa_istore_n B [(3, .int v_11), (4, .int v_1), (0, .ref a0), (1, .int n1), (2, .int n2)] dX12_worth_24 rfl (by decide) rfl ?_
        obtain ⟨v_12, ev_12⟩ : ∃ z : Int32, z = v_1 + 1 := ⟨_, rfl⟩
        refine wa_iinc B [(4, .int v_12), (3, .int v_11), (0, .ref a0), (1, .int n1), (2, .int n2)] v_12 dX12_worth_25 1 rfl (by rw [ev_12]; rfl) (by decide) rfl ?_
        refine wa_goto B 5 dX12_worth_28 (by decide) ?_
        have tv_12 : v_12.toInt = v_1.toInt + 1 := by have b0 := zx_bd v_1; rw [ev_12]; exact zx_add (show (-2147483648 : Int) ≤ v_1.toInt + 1 by omega) (show v_1.toInt + 1 < (2147483648 : Int) by omega)
        exact ih_7 v_12 v_11 (show 1 ≤ v_12.toInt from by first | assumption | omega | decide) (show v_12.toInt ≤ n2.toInt + 1 from by first | assumption | omega | decide) (show v_11 = pu_wo (q.2.2.2.1 m19) n1.toNatClampNeg ((v_12).toInt.toNat - 1) from by have a1 := zx_nc n1; have a2 := zx_nc v_10; rw [show (v_12 : Int32).toInt.toNat - 1 = ((v_1 : Int32).toInt.toNat - 1) + 1 by omega, ev_11, x_5]; show _ = q.2.2.2.1 m19 (5 * n1.toNatClampNeg + (((v_1 : Int32).toInt.toNat - 1) + 1)) * pu_wo (q.2.2.2.1 m19) n1.toNatClampNeg ((v_1 : Int32).toInt.toNat - 1); rw [Int32.mul_comm, show (v_10 : Int32).toNatClampNeg = 5 * n1.toNatClampNeg + (((v_1 : Int32).toInt.toNat - 1) + 1) by omega]) (show (6 - v_12.toInt : Int).toNat < _ from by omega)
  exact Lp_5_6 _ 1 1 (show 1 ≤ 1 from by first | assumption | omega | decide) (show 1 ≤ n2.toInt + 1 from by first | assumption | omega | decide) (show (1 : Int32) = pu_wo (q.2.2.2.1 m19) n1.toNatClampNeg (((1 : Int32)).toInt.toNat - 1) from by exact (show (1 : Int32) = pu_wo (q.2.2.2.1 m19) n1.toNatClampNeg 0 from rfl)) (Nat.lt_succ_self _)
