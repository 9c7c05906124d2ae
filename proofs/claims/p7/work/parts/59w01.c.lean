set_option maxHeartbeats 4000000 in
set_option maxRecDepth 100000 in
theorem k_X9_canWrite_c (l : Launch) (dC : Nat → ClassId) (dI : Nat → Nat → Nat) (h : Sh) (L : List Nat) (hN : sx_nd L) (q : Sg) (hV : sx_V h L q) {a0 : Nat} (ha0 : a0 ∈ L) (ka0 : h.1 a0 = 9) (n1 : Int32) (n2 : Int32) {c0 : Nat} (ec0 : q.2.2.1 a0 1 = c0) {m0 : Nat} (em0 : q.2.2.1 a0 2 = m0) {w0 : Nat} (ew0 : q.2.2.1 a0 4 = w0)  (Wf : Nat → Nat) (Xf : Nat → List Nat) (hy0 : 0 ≤ n1.toInt) (hy1 : n1.toInt < 3) (hy2 : 1 ≤ n2.toInt) (hcc : pw_c Wf Xf (q.2.2.2.1 c0 n1.toNatClampNeg) (q.2.2.2.1 w0) (q.2.2.2.2 m0) n1.toNatClampNeg) : CMi l dC dI h L yX9_canWrite wsX9_canWrite ({ frames := 1, cells := 0, slots := 0, locals := 21 } : Room) q [.ref a0, .int n1, .int n2] (fun r q' => q = q' ∧ (r.toInt = 1 ∧ n2.toInt.toNat / Wf ((q.2.2.2.1 c0 n1.toNatClampNeg).toInt.toNat - 1) ≤ 99 ∨ r.toInt = 0 ∧ ¬ n2.toInt.toNat / Wf ((q.2.2.2.1 c0 n1.toNatClampNeg).toInt.toNat - 1) ≤ 99)) := by
  refine cm_z (cc := cX9_canWrite) (mL := 5) (own := RX9) hN (by decide) rfl rfl (Nat.le_of_ble_eq_true rfl) (fun Z B hret => ?_)
  obtain ⟨hc0, kc0, lc0⟩ : c0 ∈ L ∧ h.1 c0 = 101 ∧ h.2.1 c0 = 3 := by obtain ⟨r9, e9, z1, z2, z3⟩ := hV.refn (t := 101) (n := 3) ha0 ka0 1 rfl (by decide) rfl (by decide); rw [← ec0, e9]; exact ⟨z1, z2, z3⟩
  obtain ⟨hm0, km0, lm0⟩ : m0 ∈ L ∧ h.1 m0 = 202 ∧ h.2.1 m0 = 15 := by obtain ⟨r9, e9, z1, z2, z3⟩ := hV.refn (t := 202) (n := 15) ha0 ka0 2 rfl (by decide) rfl (by decide); rw [← em0, e9]; exact ⟨z1, z2, z3⟩
  obtain ⟨hw0, kw0, lw0⟩ : w0 ∈ L ∧ h.1 w0 = 103 ∧ h.2.1 w0 = 15 := by obtain ⟨r9, e9, z1, z2, z3⟩ := hV.refn (t := 103) (n := 15) ha0 ka0 4 rfl (by decide) rfl (by decide); rw [← ew0, e9]; exact ⟨z1, z2, z3⟩
  show WA l dC dI h L ({ frames := 1, cells := 0, slots := 0, locals := 21 } : Room) 5 Z q 0 [(0, .ref a0), (1, .int n1), (2, .int n2)] []
  have hu5 := hcc.1
  refine wa_aload_n B dX9_canWrite_0 rfl 0 rfl ?_
  refine wa_getR B (C := RX9) (T := TX9) (N := 7) iq_X9_canWrite_X9 ha0 ka0 (by decide) rfl 1 (by decide) (by decide) (by decide +kernel) rfl (fun _ _ _ => rfl) (v := c0) ec0 dX9_canWrite_1 ?_
  refine wa_iload_n B dX9_canWrite_4 rfl 1 rfl ?_
  refine wa_iaload B hc0 kc0 (by decide) (by decide) (show 0 ≤ n1.toInt by omega) (show n1.toInt < (h.2.1 c0 : Int) by omega) (v := (q.2.2.2.1 c0 (n1 : Int32).toNatClampNeg)) rfl dX9_canWrite_5 ?_
  have g_1 : (0 : Int) ≤ ((q.2.2.2.1 c0 (n1 : Int32).toNatClampNeg)).toInt ∧ ((q.2.2.2.1 c0 (n1 : Int32).toNatClampNeg)).toInt ≤ 5 := hV.cnt hc0 kc0 _
  refine wa_iconst B 1 dX9_canWrite_6 (by decide) ?_
  refine wa_isub B dX9_canWrite_7 (fun v_2 ev_2 => ?_)
  refine wa_istore_n B [(3, .int v_2), (0, .ref a0), (1, .int n1), (2, .int n2)] dX9_canWrite_8 rfl (by decide) rfl ?_
  refine wa_iload_n B dX9_canWrite_9 rfl 0 rfl ?_
  have tv_2 : v_2.toInt = ((q.2.2.2.1 c0 (n1 : Int32).toNatClampNeg)).toInt - 1 := by have b0 := zx_bd ((q.2.2.2.1 c0 (n1 : Int32).toNatClampNeg)); rw [ev_2]; exact zx_sub (show (-2147483648 : Int) ≤ ((q.2.2.2.1 c0 (n1 : Int32).toNatClampNeg)).toInt - 1 by omega) (show ((q.2.2.2.1 c0 (n1 : Int32).toNatClampNeg)).toInt - 1 < (2147483648 : Int) by omega)
  refine wa_if_lt B 26 dX9_canWrite_10 (by decide) (fun (t_3 : v_2.toInt < 0) => ?_) (fun (t_3 : ¬ v_2.toInt < 0) => ?_)
  · exfalso
    omega
  · refine wa_aload_n B dX9_canWrite_13 rfl 1 rfl ?_
    refine wa_getR B (C := RX9) (T := TX9) (N := 7) iq_X9_canWrite_X9 ha0 ka0 (by decide) rfl 4 (by decide) (by decide) (by decide +kernel) rfl (fun _ _ _ => rfl) (v := w0) ew0 dX9_canWrite_14 ?_
    refine wa_iload_n B dX9_canWrite_17 rfl 2 rfl ?_
    refine wa_iload_n B dX9_canWrite_18 rfl 0 rfl ?_
    refine wa_callSi B (As := [.int n1, .int v_2]) (rest := [.ref w0]) (k_X9_slot l dC dI h L hN q hV n1 v_2  (by first | assumption | omega | decide) (by first | assumption | omega | decide) (by first | assumption | omega | decide) (by first | assumption | omega | decide)) (va_cwS 2 B.1.2.2.2.2 gX9_canWrite_X9_slot rfl rfl rfl (by decide +kernel) ⟨Nat.le_of_ble_eq_true rfl, Nat.le_of_ble_eq_true rfl⟩) rfl rfl (Nat.le_of_ble_eq_true rfl) dX9_canWrite_19 (fun r_5 q_4 w_6 => ?_)
    obtain ⟨ew_6, hw_6⟩ := w_6
    subst ew_6
    have ix9 : (r_5 : Int32).toNatClampNeg = 5 * n1.toNatClampNeg + ((q.2.2.2.1 c0 n1.toNatClampNeg).toInt.toNat - 1) := by have a9 := zx_nc r_5; have a8 := zx_nc n1; omega
    obtain ⟨hw1, hw2, hw3, hw4⟩ := hcc.2 ((q.2.2.2.1 c0 n1.toNatClampNeg).toInt.toNat - 1) (by omega)
    rw [← ix9] at hw1
    refine wa_iaload B hw0 kw0 (by decide) (by decide) (show 0 ≤ r_5.toInt by omega) (show r_5.toInt < (h.2.1 w0 : Int) by omega) (v := (q.2.2.2.1 w0 (r_5 : Int32).toNatClampNeg)) rfl dX9_canWrite_22 ?_
    refine wa_goto B 27 dX9_canWrite_23 (by decide) ?_
    refine wa_istore B [(4, .int ((q.2.2.2.1 w0 (r_5 : Int32).toNatClampNeg))), (3, .int v_2), (0, .ref a0), (1, .int n1), (2, .int n2)] dX9_canWrite_27 (by decide) rfl ?_
    refine wa_iload B dX9_canWrite_29 0 rfl ?_
    refine wa_if_le B 47 dX9_canWrite_31 (by decide) (fun (t_7 : ((q.2.2.2.1 w0 (r_5 : Int32).toNatClampNeg)).toInt ≤ 0) => ?_) (fun (t_7 : ¬ ((q.2.2.2.1 w0 (r_5 : Int32).toNatClampNeg)).toInt ≤ 0) => ?_)
    · refine wa_iconst B 0 dX9_canWrite_47 (by decide) ?_
      exact hret _ _ _ _ dX9_canWrite_48 (Or.inl rfl) ⟨rfl, (Or.inr ⟨rfl, by omega⟩)⟩
    · refine wa_iload_n B dX9_canWrite_34 rfl 4 rfl ?_
      refine wa_iload B dX9_canWrite_35 0 rfl ?_
      refine wa_idiv B dX9_canWrite_37 (fun z => absurd (show ((q.2.2.2.1 w0 (r_5 : Int32).toNatClampNeg)).toInt = (0 : Int) from zx_eq.mp z) (by omega)) (fun v_8 ev_8 => ?_)
      have hd9 := pw_dm (by omega) hw1 hw2 ev_8
      refine wa_bipush B 99 dX9_canWrite_38 (by decide) ?_
      refine wa_icmp_gt B 47 dX9_canWrite_40 (by decide) (fun (t_9 : 99 < v_8.toInt) => ?_) (fun (t_9 : ¬ 99 < v_8.toInt) => ?_)
      · refine wa_iconst B 0 dX9_canWrite_47 (by decide) ?_
        exact hret _ _ _ _ dX9_canWrite_48 (Or.inl rfl) ⟨rfl, (Or.inr ⟨rfl, by omega⟩)⟩
      · refine wa_iconst B 1 dX9_canWrite_43 (by decide) ?_
        refine wa_goto B 48 dX9_canWrite_44 (by decide) ?_
        exact hret _ _ _ _ dX9_canWrite_48 (Or.inr rfl) ⟨rfl, (Or.inl ⟨rfl, by omega⟩)⟩
