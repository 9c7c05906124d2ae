set_option maxHeartbeats 4000000 in
set_option maxRecDepth 100000 in
theorem k_X12_worthP (l : Launch) (dC : Nat → ClassId) (dI : Nat → Nat → Nat) (h : Sh) (L : List Nat) (hN : sx_nd L) (q : Sg) (hV : sx_V h L q) {a0 : Nat} (ha0 : a0 ∈ L) (ka0 : h.1 a0 = 12) (n1 : Int32) (n2 : Int32) {m19 : Nat} (em19 : q.2.2.1 a0 19 = m19)   (hy0 : 0 ≤ n1.toInt) (hy1 : n1.toInt ≤ 5) (hy2 : (-1) ≤ n2.toInt) (hy3 : n2.toInt ≤ 4) (hyf : ∀ k : Nat, 1 ≤ k → (k : Int) ≤ n2.toInt → 2 ≤ (q.2.2.2.1 m19 (5 * n1.toNatClampNeg + k)).toInt ∧ (q.2.2.2.1 m19 (5 * n1.toNatClampNeg + k)).toInt ≤ 60) : CMi l dC dI h L yX12_worth wsX12_worth ({ frames := 0, cells := 0, slots := 0, locals := 0 } : Room) q [.ref a0, .int n1, .int n2] (fun r q' => q = q' ∧ 1 ≤ r.toInt) := by
  refine cm_i (cc := cX12_worth) (mL := 5) (own := RX12) hN (by decide) rfl rfl (Nat.le_of_ble_eq_true rfl) (fun Z B hret => ?_)
  obtain ⟨hm19, km19, lm19⟩ : m19 ∈ L ∧ h.1 m19 = 129 ∧ h.2.1 m19 = 30 := by obtain ⟨r9, e9, z1, z2, z3⟩ := hV.refn (t := 129) (n := 30) ha0 ka0 19 rfl (by decide) rfl (by decide); rw [← em19, e9]; exact ⟨z1, z2, z3⟩
  show WA l dC dI h L ({ frames := 0, cells := 0, slots := 0, locals := 0 } : Room) 5 Z q 0 [(0, .ref a0), (1, .int n1), (2, .int n2)] []
  refine wa_iconst B 1 dX12_worth_0 (by decide) ?_
  refine wa_istore_n B [(3, .int 1), (0, .ref a0), (1, .int n1), (2, .int n2)] dX12_worth_1 rfl (by decide) rfl ?_
  refine wa_iconst B 1 dX12_worth_2 (by decide) ?_
  refine wa_istore B [(4, .int 1), (3, .int 1), (0, .ref a0), (1, .int n1), (2, .int n2)] dX12_worth_3 (by decide) rfl ?_
  have Lp_5_6 : ∀ (n : Nat) (v_1 : Int32) (v_2 : Int32), 1 ≤ v_1.toInt → v_1.toInt ≤ 5 → 1 ≤ v_2.toInt ∧ v_2.toInt ≤ zx_p v_1.toInt → (6 - v_1.toInt : Int).toNat < n → WA l dC dI h L ({ frames := 0, cells := 0, slots := 0, locals := 0 } : Room) 5 Z q 5 [(4, .int v_1), (3, .int v_2), (0, .ref a0), (1, .int n1), (2, .int n2)] [] := by
    intro n
    induction n with
    | zero =>
      intro v_1 v_2 x_3 x_4 x_5 hn
      exact absurd hn (Nat.not_lt_zero _)
    | succ n ih_7 =>
      intro v_1 v_2 x_3 x_4 x_5 hn
      refine wa_iload B dX12_worth_5 0 rfl ?_
      refine wa_iload_n B dX12_worth_7 rfl 4 rfl ?_
      refine wa_icmp_gt B 31 dX12_worth_8 (by decide) (fun (t_8 : n2.toInt < v_1.toInt) => ?_) (fun (t_8 : ¬ n2.toInt < v_1.toInt) => ?_)
      · refine wa_iload_n B dX12_worth_31 rfl 1 rfl ?_
        exact hret _ _ _ _ dX12_worth_32 ⟨rfl, (by first | omega | (refine ⟨?_, ?_⟩ <;> omega) | trivial)⟩
      · refine wa_iload_n B dX12_worth_11 rfl 1 rfl ?_
        refine wa_aload_n B dX12_worth_12 rfl 2 rfl ?_
        refine wa_getR B (C := RX12) (T := TX12) (N := 51) iq_X12_worth_X12 ha0 ka0 (by decide) rfl 19 (by decide) (by decide) (by decide +kernel) rfl (fun _ _ _ => rfl) (v := m19) em19 dX12_worth_13 ?_
        refine wa_iconst B 5 dX12_worth_16 (by decide) ?_
        refine wa_iload_n B dX12_worth_17 rfl 3 rfl ?_
        refine wa_imul B dX12_worth_18 (fun v_9 ev_9 => ?_)
        refine wa_iload B dX12_worth_19 0 rfl ?_
        refine wa_iadd B dX12_worth_21 (fun v_10 ev_10 => ?_)
        have tv_9 : v_9.toInt = 5 * n1.toInt := by have b1 := zx_bd n1; rw [ev_9]; exact zx_mul (show (-2147483648 : Int) ≤ 5 * n1.toInt by omega) (show 5 * n1.toInt < (2147483648 : Int) by omega)
        have tv_10 : v_10.toInt = v_9.toInt + v_1.toInt := by have b0 := zx_bd v_9; have b1 := zx_bd v_1; rw [ev_10]; exact zx_add (show (-2147483648 : Int) ≤ v_9.toInt + v_1.toInt by omega) (show v_9.toInt + v_1.toInt < (2147483648 : Int) by omega)
        refine wa_iaload B hm19 km19 (by decide) (by decide) (show 0 ≤ v_10.toInt by omega) (show v_10.toInt < (h.2.1 m19 : Int) by omega) (v := (q.2.2.2.1 m19 (v_10 : Int32).toNatClampNeg)) rfl dX12_worth_22 ?_
        refine wa_imul B dX12_worth_23 (fun v_11 ev_11 => ?_)
        refine wa_istore_n B [(3, .int v_11), (4, .int v_1), (0, .ref a0), (1, .int n1), (2, .int n2)] dX12_worth_24 rfl (by decide) rfl ?_
        obtain ⟨v_12, ev_12⟩ : ∃ z : Int32, z = v_1 + 1 := ⟨_, rfl⟩
        refine wa_iinc B [(4, .int v_12), (3, .int v_11), (0, .ref a0), (1, .int n1), (2, .int n2)] v_12 dX12_worth_25 1 rfl (by rw [ev_12]; rfl) (by decide) rfl ?_
        refine wa_goto B 5 dX12_worth_28 (by decide) ?_
        have tv_12 : v_12.toInt = v_1.toInt + 1 := by have b0 := zx_bd v_1; rw [ev_12]; exact zx_add (show (-2147483648 : Int) ≤ v_1.toInt + 1 by omega) (show v_1.toInt + 1 < (2147483648 : Int) by omega)
        exact ih_7 v_12 v_11 (show 1 ≤ v_12.toInt from by first | assumption | omega | decide) (show v_12.toInt ≤ 5 from by first | assumption | omega | decide) (show 1 ≤ v_11.toInt ∧ v_11.toInt ≤ zx_p v_12.toInt from by have a1 := zx_nc n1; have a2 := zx_nc v_10; have a3 := zx_nc v_1; have j1 : (v_10 : Int32).toNatClampNeg = 5 * n1.toNatClampNeg + (v_1 : Int32).toNatClampNeg := (by omega); rw [ev_11, show v_12.toInt = v_1.toInt + 1 by omega]; exact zx_wor (by omega) (by omega) x_5 (by rw [j1]; exact hyf _ (by omega) (by omega))) (show (6 - v_12.toInt : Int).toNat < _ from by omega)
  exact Lp_5_6 _ 1 1 (show 1 ≤ 1 from by first | assumption | omega | decide) (show 1 ≤ 5 from by first | assumption | omega | decide) (show 1 ≤ 1 ∧ 1 ≤ zx_p 1 from by decide) (Nat.lt_succ_self _)
set_option maxHeartbeats 4000000 in
set_option maxRecDepth 100000 in
theorem k_X12_outName (l : Launch) (dC : Nat → ClassId) (dI : Nat → Nat → Nat) (h : Sh) (L : List Nat) (hN : sx_nd L) (q : Sg) (hV : sx_V h L q) {a0 : Nat} (ha0 : a0 ∈ L) (ka0 : h.1 a0 = 12) (n1 : Int64)   (hy0 : 0 ≤ n1.toInt) (hy1 : n1.toInt < 282429536481) (hy2 : (q.1 a0 22).toInt ≤ 72) : CMv l dC dI h L yX12_outName wsX12_outName ({ frames := 1, cells := 0, slots := 0, locals := 21 } : Room) q [.ref a0, .long n1] (fun q' => sx_V h L q' ∧ sx_fr h L (fun a => h.1 a = 12 ∨ h.1 a = 131) q q' ∧ sx_kf a0 [22] q q' ∧ ((q'.1 a0 22).toInt ≤ (q.1 a0 22).toInt + 8)) := by
  refine cm_v (cc := cX12_outName) (mL := 5) (own := RX12) hN (by decide) rfl rfl (Nat.le_of_ble_eq_true rfl) (fun Z B hret => ?_)
  have hF : sx_fr h L (fun a => h.1 a = 12 ∨ h.1 a = 131) q q := sx_fr.rf
  have hK : sx_kf a0 [22] q q := sx_kf.rf
  show WA l dC dI h L ({ frames := 1, cells := 0, slots := 0, locals := 21 } : Room) 5 Z q 0 [(0, .ref a0), (1, .long n1)] []
  refine wa_lconst B 1 dX12_outName_0 (by decide) ?_
  have h1_64 : (1 : Int64).toInt = 1 := rfl
  refine wa_lstore_n B [(3, .long 1), (0, .ref a0), (1, .long n1)] dX12_outName_1 rfl (by decide) rfl ?_
  have Lp_2_3 : ∀ (n : Nat) (v_1 : Int64), zx_v (v_1 : Int64).toInt → (300000000000 - (v_1 : Int64).toInt : Int).toNat < n → WA l dC dI h L ({ frames := 1, cells := 0, slots := 0, locals := 21 } : Room) 5 Z q 2 [(3, .long v_1), (0, .ref a0), (1, .long n1)] [] := by
    intro n
    induction n with
    | zero =>
      intro v_1 x_2 hn
      exact absurd hn (Nat.not_lt_zero _)
    | succ n ih_4 =>
      intro v_1 x_2 hn
      refine wa_lload_n B dX12_outName_2 rfl 0 rfl ?_
      have bx_2 := zx_v_b x_2
      refine wa_lload_n B dX12_outName_3 rfl 2 rfl ?_
      refine wa_ldc2 B 27 (by decide +kernel) dX12_outName_4 ?_
      refine wa_ldiv B dX12_outName_7 (by decide) (fun v_5 ev_5 => ?_)
      have gv_5 : v_5.toInt = n1.toInt / 27 := by rw [ev_5]; exact zy_div (by omega)
      refine wa_lcmp B dX12_outName_8 (fun v_6 ev_6 => ?_)
      have gv_6 := zy_cmp (v_1 : Int64) (v_5 : Int64)
      rw [← ev_6] at gv_6
      have hv_6 : (0 : Int64).toInt = 0 := rfl
      refine wa_if_gt B 21 dX12_outName_9 (by decide) (fun (t_7 : 0 < v_6.toInt) => ?_) (fun (t_7 : ¬ 0 < v_6.toInt) => ?_)
      · have Lp_21_12 : ∀ (n : Nat) (v_8 : Int64) (q_9 : Sg), sx_V h L q_9 → sx_fr h L (fun a => h.1 a = 12 ∨ h.1 a = 131) q q_9 → sx_kf a0 [22] q q_9 → zx_w (v_8 : Int64).toInt → (q_9.1 a0 22).toInt + zx_r (v_8 : Int64).toInt ≤ (q.1 a0 22).toInt + 8 → ((v_8 : Int64).toInt : Int).toNat < n → WA l dC dI h L ({ frames := 1, cells := 0, slots := 0, locals := 21 } : Room) 5 Z q_9 21 [(3, .long v_8), (0, .ref a0), (1, .long n1)] [] := by
          intro n
          induction n with
          | zero =>
            intro v_8 q_9 hV_q_9 hF_q_9 hK_q_9 x_10 x_11 hn
            exact absurd hn (Nat.not_lt_zero _)
          | succ n ih_13 =>
            intro v_8 q_9 hV_q_9 hF_q_9 hK_q_9 x_10 x_11 hn
            refine wa_lload_n B dX12_outName_21 rfl 0 rfl ?_
            have bx_10 := zx_w_b x_10
            have dx_10 := zx_r_b (v_8 : Int64).toInt
            refine wa_lconst B 0 dX12_outName_22 (by decide) ?_
            refine wa_lcmp B dX12_outName_23 (fun v_14 ev_14 => ?_)
            have gv_14 := zy_cmp (v_8 : Int64) (0 : Int64)
            rw [← ev_14] at gv_14
            have hv_14 : (0 : Int64).toInt = 0 := rfl
            refine wa_if_le B 51 dX12_outName_24 (by decide) (fun (t_15 : v_14.toInt ≤ 0) => ?_) (fun (t_15 : ¬ v_14.toInt ≤ 0) => ?_)
            · exact hret _ _ _ dX12_outName_51 ⟨hV_q_9, hF_q_9, hK_q_9, (by first | omega | (refine ⟨?_, ?_⟩ <;> omega) | trivial)⟩
            · have fx_10 := (zx_w_s x_10 (by omega)).2
              have ix_10 := zx_r_b ((v_8 : Int64).toInt / 27)
              refine wa_aload_n B dX12_outName_27 rfl 1 rfl ?_
              refine wa_lload_n B dX12_outName_28 rfl 2 rfl ?_
              refine wa_lload_n B dX12_outName_29 rfl 0 rfl ?_
              refine wa_ldiv B dX12_outName_30 (fun z => absurd (show v_8.toInt = (0 : Int) from by rw [z]; rfl) (by omega)) (fun v_16 ev_16 => ?_)
              refine wa_ldc2 B 27 (by decide +kernel) dX12_outName_31 ?_
              refine wa_lrem B dX12_outName_34 (by decide) (fun v_17 ev_17 => ?_)
              refine wa_l2i B dX12_outName_35 (fun v_18 ev_18 => ?_)
              refine wa_bipush B 96 dX12_outName_36 (by decide) ?_
              refine wa_iadd B dX12_outName_38 (fun v_19 ev_19 => ?_)
              refine wa_callVv B (x := (RX12, TX12, 51)) (As := [.int v_19]) (rest := []) (k_X12_outByte l dC dI h L hN q_9 hV_q_9 (a0 := a0) ha0 ka0 v_19  (by first | assumption | omega | decide)) (cwV 1 B.1.2.2.2.2 gX12_outName_X12_outByte rfl rfl rfl (by decide +kernel) ⟨Nat.le_of_ble_eq_true rfl, Nat.le_of_ble_eq_true rfl⟩) ha0 ka0 (by decide) rfl rfl rfl (Nat.le_of_ble_eq_true rfl) dX12_outName_39 (fun q_20 w_21 => ?_)
              obtain ⟨hV_q_20, h2_q_20, h3_q_20, hw_21⟩ := w_21
              have hF_q_20 : sx_fr h L (fun a => h.1 a = 12 ∨ h.1 a = 131) q q_20 := hF_q_9.tr (h2_q_20.mono (fun a (z : h.1 a = 12 ∨ h.1 a = 131) => (show h.1 a = 12 ∨ h.1 a = 131 from by omega)))
              have hK_q_20 : sx_kf a0 [22] q q_20 := hK_q_9.tr (h3_q_20.mono (by decide))
              refine wa_lload_n B dX12_outName_42 rfl 0 rfl ?_
              refine wa_ldc2 B 27 (by decide +kernel) dX12_outName_43 ?_
              refine wa_ldiv B dX12_outName_46 (by decide) (fun v_22 ev_22 => ?_)
              have gv_22 : v_22.toInt = v_8.toInt / 27 := by rw [ev_22]; exact zy_div (by omega)
              refine wa_lstore_n B [(3, .long v_22), (0, .ref a0), (1, .long n1)] dX12_outName_47 rfl (by decide) rfl ?_
              refine wa_goto B 21 dX12_outName_48 (by decide) ?_
              exact ih_13 v_22 q_20 hV_q_20 hF_q_20 hK_q_20 (show zx_w (v_22 : Int64).toInt from by rw [show (v_22 : Int64).toInt = (v_8 : Int64).toInt / 27 from gv_22]; exact (zx_w_s x_10 (by omega)).1) (show (q_20.1 a0 22).toInt + zx_r (v_22 : Int64).toInt ≤ (q.1 a0 22).toInt + 8 from by have z9 := (zx_w_s x_10 (by omega)).2; rw [show (v_22 : Int64).toInt = (v_8 : Int64).toInt / 27 from gv_22]; omega) (show ((v_22 : Int64).toInt : Int).toNat < _ from by omega)
        exact Lp_21_12 _ v_1 q hV hF hK (show zx_w (v_1 : Int64).toInt from by exact Or.inr x_2) (show (q.1 a0 22).toInt + zx_r (v_1 : Int64).toInt ≤ (q.1 a0 22).toInt + 8 from by have z9 := zx_r_b (v_1 : Int64).toInt; omega) (Nat.lt_succ_self _)
      · refine wa_lload_n B dX12_outName_12 rfl 0 rfl ?_
        refine wa_ldc2 B 27 (by decide +kernel) dX12_outName_13 ?_
        refine wa_lmul B dX12_outName_16 (fun v_23 ev_23 => ?_)
        have gv_23 : v_23.toInt = (v_1 : Int64).toInt * 27 := by rw [ev_23]; exact zy_m27 (by omega) (by omega)
        refine wa_lstore_n B [(3, .long v_23), (0, .ref a0), (1, .long n1)] dX12_outName_17 rfl (by decide) rfl ?_
        refine wa_goto B 2 dX12_outName_18 (by decide) ?_
        exact ih_4 v_23 (show zx_v (v_23 : Int64).toInt from by rw [show (v_23 : Int64).toInt = (v_1 : Int64).toInt * 27 from gv_23]; exact zx_v_s x_2 (by omega)) (show (300000000000 - (v_23 : Int64).toInt : Int).toNat < _ from by omega)
  exact Lp_2_3 _ 1 (show zx_v (1 : Int64).toInt from by exact zx_v1) (Nat.lt_succ_self _)
theorem iq_X12_write_X12 : ∀ w ∈ wsX120, w ∈ wsX12_write := fun _ h => List.mem_cons_of_mem _ (List.mem_append_right _ h)
set_option maxHeartbeats 4000000 in
set_option maxRecDepth 100000 in
theorem k_X12_write (l : Launch) (dC : Nat → ClassId) (dI : Nat → Nat → Nat) (h : Sh) (L : List Nat) (hN : sx_nd L) (q : Sg) (hV : sx_V h L q) {a0 : Nat} (ha0 : a0 ∈ L) (ka0 : h.1 a0 = 12) (n1 : Int32) (n2 : Int32) {m17 : Nat} (em17 : q.2.2.1 a0 17 = m17) {m18 : Nat} (em18 : q.2.2.1 a0 18 = m18) {m19 : Nat} (em19 : q.2.2.1 a0 19 = m19) {m21 : Nat} (em21 : q.2.2.1 a0 21 = m21) (mF : mv_F m18 m19 q) (mU : mv_U m17 q)   : CMi l dC dI h L yX12_write wsX12_write ({ frames := 2, cells := 0, slots := 0, locals := 45 } : Room) q [.ref a0, .int n1, .int n2] (fun r q' => sx_V h L q' ∧ sx_fr h L (fun a => h.1 a = 12 ∨ h.1 a = 131) q q' ∧ sx_kf a0 [0, 22] q q' ∧ mv_F m18 m19 q' ∧ mv_U m17 q') := by
  refine cm_i (cc := cX12_write) (mL := 6) (own := RX12) hN (by decide) rfl rfl (Nat.le_of_ble_eq_true rfl) (fun Z B hret => ?_)
  have hF : sx_fr h L (fun a => h.1 a = 12 ∨ h.1 a = 131) q q := sx_fr.rf
  have hK : sx_kf a0 [0, 22] q q := sx_kf.rf
  obtain ⟨hm17, km17, lm17⟩ : m17 ∈ L ∧ h.1 m17 = 227 ∧ h.2.1 m17 = 30 := by obtain ⟨r9, e9, z1, z2, z3⟩ := hV.refn (t := 227) (n := 30) ha0 ka0 17 rfl (by decide) rfl (by decide); rw [← em17, e9]; exact ⟨z1, z2, z3⟩
  obtain ⟨hm18, km18, lm18⟩ : m18 ∈ L ∧ h.1 m18 = 128 ∧ h.2.1 m18 = 6 := by obtain ⟨r9, e9, z1, z2, z3⟩ := hV.refn (t := 128) (n := 6) ha0 ka0 18 rfl (by decide) rfl (by decide); rw [← em18, e9]; exact ⟨z1, z2, z3⟩
  obtain ⟨hm19, km19, lm19⟩ : m19 ∈ L ∧ h.1 m19 = 129 ∧ h.2.1 m19 = 30 := by obtain ⟨r9, e9, z1, z2, z3⟩ := hV.refn (t := 129) (n := 30) ha0 ka0 19 rfl (by decide) rfl (by decide); rw [← em19, e9]; exact ⟨z1, z2, z3⟩
  obtain ⟨hm21, km21, lm21⟩ : m21 ∈ L ∧ h.1 m21 = 131 ∧ h.2.1 m21 = 80 := by obtain ⟨r9, e9, z1, z2, z3⟩ := hV.refn (t := 131) (n := 80) ha0 ka0 21 rfl (by decide) rfl (by decide); rw [← em21, e9]; exact ⟨z1, z2, z3⟩
  show WA l dC dI h L ({ frames := 2, cells := 0, slots := 0, locals := 45 } : Room) 6 Z q 0 [(0, .ref a0), (1, .int n1), (2, .int n2)] []
  refine wa_aload_n B dX12_write_0 rfl 0 rfl ?_
  refine wa_iconst B 0 dX12_write_1 (by decide) ?_
  refine wa_putI B (C := RX12) (T := TX12) (N := 51) iq_X12_write_X12 ha0 ka0 (by decide) rfl 0 (by decide) (by decide) (by decide +kernel) rfl (by decide) (v := 0) (ty := .int) tyX12 tyX12_ok nmX12 rfl (by decide +kernel) rfl rfl dX12_write_2 (fun q_1 eq_1 => ?_)
  have hV_q_1 : sx_V h L q_1 := by rw [eq_1]; exact hV.pI ka0 trivial
  have hF_q_1 : sx_fr h L (fun a => h.1 a = 12 ∨ h.1 a = 131) q q_1 := hF.tr (by rw [eq_1]; exact sx_fr.pI (show h.1 a0 = 12 ∨ h.1 a0 = 131 from by omega))
  have z_2 : q_1.1 a0 0 = 0 := by rw [eq_1]; exact sg_pI_e
  have hK_q_1 : sx_kf a0 [0, 22] q q_1 := hK.tr (by rw [eq_1]; exact sx_kf.pI (by decide))
  have mF_q_1 : mv_F m18 m19 q_1 := mv_F.eq ((show q_1.2.2.2.1 m18 = q.2.2.2.1 m18 from by rw [eq_1]; rfl)) ((show q_1.2.2.2.1 m19 = q.2.2.2.1 m19 from by rw [eq_1]; rfl)) mF
  have mU_q_1 : mv_U m17 q_1 := mv_U.eq ((show q_1.2.2.2.2 m17 = q.2.2.2.2 m17 from by rw [eq_1]; rfl)) mU
  refine wa_iload_n B dX12_write_5 rfl 1 rfl ?_
  refine wa_if_lt B 42 dX12_write_6 (by decide) (fun (t_3 : n1.toInt < 0) => ?_) (fun (t_3 : ¬ n1.toInt < 0) => ?_)
  · refine wa_iconst B (-1) dX12_write_42 (by decide) ?_
    exact hret _ _ _ _ dX12_write_43 ⟨hV_q_1, hF_q_1, hK_q_1, mF_q_1, mU_q_1⟩
  · refine wa_iload_n B dX12_write_9 rfl 1 rfl ?_
    refine wa_aload_n B dX12_write_10 rfl 0 rfl ?_
    refine wa_getI B (C := RX12) (T := TX12) (N := 51) iq_X12_write_X12 ha0 ka0 (by decide) rfl 20 (by decide) (by decide) (by decide +kernel) rfl (by decide) (v := (q_1.1 a0 20)) rfl dX12_write_11 ?_
    have g_4 : (0 : Int) ≤ (q_1.1 a0 20).toInt ∧ (q_1.1 a0 20).toInt ≤ 3 := hV_q_1.int ha0 ka0 20
    refine wa_icmp_ge B 42 dX12_write_14 (by decide) (fun (t_5 : (q_1.1 a0 20).toInt ≤ n1.toInt) => ?_) (fun (t_5 : ¬ (q_1.1 a0 20).toInt ≤ n1.toInt) => ?_)
    · refine wa_iconst B (-1) dX12_write_42 (by decide) ?_
      exact hret _ _ _ _ dX12_write_43 ⟨hV_q_1, hF_q_1, hK_q_1, mF_q_1, mU_q_1⟩
    · refine wa_iload_n B dX12_write_17 rfl 2 rfl ?_
      refine wa_iconst B 1 dX12_write_18 (by decide) ?_
      refine wa_icmp_lt B 42 dX12_write_19 (by decide) (fun (t_6 : n2.toInt < 1) => ?_) (fun (t_6 : ¬ n2.toInt < 1) => ?_)
      · refine wa_iconst B (-1) dX12_write_42 (by decide) ?_
        exact hret _ _ _ _ dX12_write_43 ⟨hV_q_1, hF_q_1, hK_q_1, mF_q_1, mU_q_1⟩
      · refine wa_iload_n B dX12_write_22 rfl 2 rfl ?_
        refine wa_aload_n B dX12_write_23 rfl 0 rfl ?_
        refine wa_iload_n B dX12_write_24 rfl 1 rfl ?_
        refine wa_aload_n B dX12_write_25 rfl 0 rfl ?_
        have z_7 : q_1.2.2.1 a0 18 = m18 := ((show q_1.2.2.1 a0 18 = q.2.2.1 a0 18 from by rw [eq_1]; rfl)).trans (em18)
        refine wa_getR B (C := RX12) (T := TX12) (N := 51) iq_X12_write_X12 ha0 ka0 (by decide) rfl 18 (by decide) (by decide) (by decide +kernel) rfl (fun _ _ _ => rfl) (v := m18) z_7 dX12_write_26 ?_
        refine wa_iload_n B dX12_write_29 rfl 1 rfl ?_
        have z_8 : q_1.2.2.2.1 m18 = q.2.2.2.1 m18 := (show q_1.2.2.2.1 m18 = q.2.2.2.1 m18 from by rw [eq_1]; rfl)
        have z_9 : q_1.2.2.2.1 m18 (n1 : Int32).toNatClampNeg = (q.2.2.2.1 m18 (n1 : Int32).toNatClampNeg) := congrFun z_8 _
        refine wa_iaload B hm18 km18 (by decide) (by decide) (show 0 ≤ n1.toInt by omega) (show n1.toInt < (h.2.1 m18 : Int) by omega) (v := (q.2.2.2.1 m18 (n1 : Int32).toNatClampNeg)) z_9 dX12_write_30 ?_
        have g_10 : (0 : Int) ≤ ((q.2.2.2.1 m18 (n1 : Int32).toNatClampNeg)).toInt ∧ ((q.2.2.2.1 m18 (n1 : Int32).toNatClampNeg)).toInt ≤ 5 := by rw [← z_9]; exact hV_q_1.cnt hm18 km18 _
        refine wa_iconst B 1 dX12_write_31 (by decide) ?_
        refine wa_isub B dX12_write_32 (fun v_11 ev_11 => ?_)
        have tv_11 : v_11.toInt = ((q.2.2.2.1 m18 (n1 : Int32).toNatClampNeg)).toInt - 1 := by have b0 := zx_bd ((q.2.2.2.1 m18 (n1 : Int32).toNatClampNeg)); rw [ev_11]; exact zx_sub (show (-2147483648 : Int) ≤ ((q.2.2.2.1 m18 (n1 : Int32).toNatClampNeg)).toInt - 1 by omega) (show ((q.2.2.2.1 m18 (n1 : Int32).toNatClampNeg)).toInt - 1 < (2147483648 : Int) by omega)
        have z_12 : q_1.2.2.1 a0 19 = m19 := ((show q_1.2.2.1 a0 19 = q.2.2.1 a0 19 from by rw [eq_1]; rfl)).trans (em19)
        refine wa_callVi B (x := (RX12, TX12, 51)) (As := [.int n1, .int v_11]) (rest := [.int n2]) (k_X12_worthP l dC dI h L hN q_1 hV_q_1 (a0 := a0) ha0 ka0 n1 v_11 (m19 := m19) z_12  (by first | assumption | omega | decide) (by first | assumption | omega | decide) (by first | assumption | omega | decide) (by first | assumption | omega | decide) (fun k h1 h2 => mF_q_1 _ k (by have a9 := zx_nc n1; omega) h1 (by rw [z_9]; omega))) (cwV 2 B.1.2.2.2.2 gX12_write_X12_worth rfl rfl rfl (by decide +kernel) ⟨Nat.le_of_ble_eq_true rfl, Nat.le_of_ble_eq_true rfl⟩) ha0 ka0 (by decide) rfl rfl rfl (Nat.le_of_ble_eq_true rfl) dX12_write_33 (fun r_14 q_13 w_15 => ?_)
        obtain ⟨ew_15, hw_15⟩ := w_15
        subst ew_15
        refine wa_idiv B dX12_write_36 (fun z => absurd (show r_14.toInt = (0 : Int) from zx_eq.mp z) (by omega)) (fun v_16 ev_16 => ?_)
        refine wa_bipush B 99 dX12_write_37 (by decide) ?_
        refine wa_icmp_le B 44 dX12_write_39 (by decide) (fun (t_17 : v_16.toInt ≤ 99) => ?_) (fun (t_17 : ¬ v_16.toInt ≤ 99) => ?_)
        · refine wa_aload_n B dX12_write_44 rfl 0 rfl ?_
          refine wa_iconst B 0 dX12_write_45 (by decide) ?_
          refine wa_putI B (C := RX12) (T := TX12) (N := 51) iq_X12_write_X12 ha0 ka0 (by decide) rfl 22 (by decide) (by decide) (by decide +kernel) rfl (by decide) (v := 0) (ty := .int) tyX12 tyX12_ok nmX12 rfl (by decide +kernel) rfl rfl dX12_write_46 (fun q_18 eq_18 => ?_)
          have hV_q_18 : sx_V h L q_18 := by rw [eq_18]; exact hV_q_1.pI ka0 (show sx_in 0 (0) 80 from ⟨by decide, by decide⟩)
          have hF_q_18 : sx_fr h L (fun a => h.1 a = 12 ∨ h.1 a = 131) q q_18 := hF_q_1.tr (by rw [eq_18]; exact sx_fr.pI (show h.1 a0 = 12 ∨ h.1 a0 = 131 from by omega))
          have z_19 : q_18.1 a0 22 = 0 := by rw [eq_18]; exact sg_pI_e
          have hK_q_18 : sx_kf a0 [0, 22] q q_18 := hK_q_1.tr (by rw [eq_18]; exact sx_kf.pI (by decide))
          have mF_q_18 : mv_F m18 m19 q_18 := mv_F.eq ((show q_18.2.2.2.1 m18 = q_1.2.2.2.1 m18 from by rw [eq_18]; rfl)) ((show q_18.2.2.2.1 m19 = q_1.2.2.2.1 m19 from by rw [eq_18]; rfl)) mF_q_1
          have mU_q_18 : mv_U m17 q_18 := mv_U.eq ((show q_18.2.2.2.2 m17 = q_1.2.2.2.2 m17 from by rw [eq_18]; rfl)) mU_q_1
          refine wa_iload_n B dX12_write_49 rfl 2 rfl ?_
          refine wa_istore_n B [(3, .int n2), (0, .ref a0), (1, .int n1), (2, .int n2)] dX12_write_50 rfl (by decide) rfl ?_
          refine wa_aload_n B dX12_write_51 rfl 1 rfl ?_
          have z_20 : q_18.2.2.1 a0 18 = m18 := ((show q_18.2.2.1 a0 18 = q_1.2.2.1 a0 18 from by rw [eq_18]; rfl)).trans (z_7)
          refine wa_getR B (C := RX12) (T := TX12) (N := 51) iq_X12_write_X12 ha0 ka0 (by decide) rfl 18 (by decide) (by decide) (by decide +kernel) rfl (fun _ _ _ => rfl) (v := m18) z_20 dX12_write_52 ?_
          refine wa_iload_n B dX12_write_55 rfl 2 rfl ?_
          have z_21 : q_18.2.2.2.1 m18 (n1 : Int32).toNatClampNeg = (q.2.2.2.1 m18 (n1 : Int32).toNatClampNeg) := (congrFun ((show q_18.2.2.2.1 m18 = q_1.2.2.2.1 m18 from by rw [eq_18]; rfl)) _).trans z_9
          refine wa_iaload B hm18 km18 (by decide) (by decide) (show 0 ≤ n1.toInt by omega) (show n1.toInt < (h.2.1 m18 : Int) by omega) (v := (q.2.2.2.1 m18 (n1 : Int32).toNatClampNeg)) z_21 dX12_write_56 ?_
          refine wa_iconst B 1 dX12_write_57 (by decide) ?_
          refine wa_isub B dX12_write_58 (fun v_22 ev_22 => ?_)
          refine wa_istore B [(4, .int v_22), (3, .int n2), (0, .ref a0), (1, .int n1), (2, .int n2)] dX12_write_59 (by decide) rfl ?_
          have z_26 : q_18.1 a0 0 = 0 := ((show q_18.1 a0 0 = q_1.1 a0 0 from by rw [eq_18]; exact sg_pI_k (by decide))).trans (z_2)
          have z_27 : q_18.1 a0 20 = q_1.1 a0 20 := (show q_18.1 a0 20 = q_1.1 a0 20 from by rw [eq_18]; exact sg_pI_k (by decide))
          have z_28 : q_18.2.2.1 a0 17 = m17 := ((show q_18.2.2.1 a0 17 = q_1.2.2.1 a0 17 from by rw [eq_18]; rfl)).trans (((show q_1.2.2.1 a0 17 = q.2.2.1 a0 17 from by rw [eq_1]; rfl)).trans (em17))
          have z_29 : q_18.2.2.1 a0 19 = m19 := ((show q_18.2.2.1 a0 19 = q_1.2.2.1 a0 19 from by rw [eq_18]; rfl)).trans (z_12)
          have z_30 : q_18.2.2.1 a0 21 = m21 := ((show q_18.2.2.1 a0 21 = q_1.2.2.1 a0 21 from by rw [eq_18]; rfl)).trans (((show q_1.2.2.1 a0 21 = q.2.2.1 a0 21 from by rw [eq_1]; rfl)).trans (em21))
          have z_31 : q_18.2.2.2.1 m18 = (q.2.2.2.1 m18) := ((show q_18.2.2.2.1 m18 = q_1.2.2.2.1 m18 from by rw [eq_18]; rfl)).trans (z_8)
          have z_32 : q_18.2.2.2.1 m19 = q.2.2.2.1 m19 := ((show q_18.2.2.2.1 m19 = q_1.2.2.2.1 m19 from by rw [eq_18]; rfl)).trans ((show q_1.2.2.2.1 m19 = q.2.2.2.1 m19 from by rw [eq_1]; rfl))
          have z_33 : q_18.2.2.2.1 m21 = q.2.2.2.1 m21 := ((show q_18.2.2.2.1 m21 = q_1.2.2.2.1 m21 from by rw [eq_18]; rfl)).trans ((show q_1.2.2.2.1 m21 = q.2.2.2.1 m21 from by rw [eq_1]; rfl))
          have z_34 : q_18.2.2.2.2 m17 = q.2.2.2.2 m17 := ((show q_18.2.2.2.2 m17 = q_1.2.2.2.2 m17 from by rw [eq_18]; rfl)).trans ((show q_1.2.2.2.2 m17 = q.2.2.2.2 m17 from by rw [eq_1]; rfl))
          have Lp_61_39 : ∀ (n : Nat) (v_23 : Int32) (v_24 : Int32) (q_25 : Sg), sx_V h L q_25 → sx_fr h L (fun a => h.1 a = 12 ∨ h.1 a = 131) q q_25 → sx_kf a0 [0, 22] q q_25 → mv_F m18 m19 q_25 → mv_U m17 q_25 → q_25.1 a0 0 = 0 → q_25.1 a0 20 = (q_1.1 a0 20) → q_25.2.2.1 a0 17 = m17 → q_25.2.2.1 a0 18 = m18 → q_25.2.2.1 a0 19 = m19 → q_25.2.2.1 a0 21 = m21 → q_25.2.2.2.1 m18 = (q.2.2.2.1 m18) → q_25.2.2.2.1 m19 = (q.2.2.2.1 m19) → q_25.2.2.2.2 m17 = (q.2.2.2.2 m17) → (-1) ≤ v_23.toInt → v_23.toInt < (q.2.2.2.1 m18 (n1).toNatClampNeg).toInt → v_23.toInt ≤ 4 → (q_25.1 a0 22).toInt ≤ 12 * (4 - v_23.toInt) → (v_23.toInt + 1 : Int).toNat < n → WA l dC dI h L ({ frames := 2, cells := 0, slots := 0, locals := 45 } : Room) 6 Z q_25 61 [(4, .int v_23), (3, .int v_24), (0, .ref a0), (1, .int n1), (2, .int n2)] [] := by
            intro n
            induction n with
            | zero =>
              intro v_23 v_24 q_25 hV_q_25 hF_q_25 hK_q_25 mF_q_25 mU_q_25 p0_q_25 p1_q_25 p2_q_25 p3_q_25 p4_q_25 p5_q_25 p6_q_25 p7_q_25 p8_q_25 x_35 x_36 x_37 x_38 hn
              exact absurd hn (Nat.not_lt_zero _)
            | succ n ih_40 =>
              intro v_23 v_24 q_25 hV_q_25 hF_q_25 hK_q_25 mF_q_25 mU_q_25 p0_q_25 p1_q_25 p2_q_25 p3_q_25 p4_q_25 p5_q_25 p6_q_25 p7_q_25 p8_q_25 x_35 x_36 x_37 x_38 hn
              refine wa_iload B dX12_write_61 0 rfl ?_
              refine wa_if_lt B 166 dX12_write_63 (by decide) (fun (t_41 : v_23.toInt < 0) => ?_) (fun (t_41 : ¬ v_23.toInt < 0) => ?_)
              · refine wa_aload_n B dX12_write_166 rfl 2 rfl ?_
                refine wa_getI B (C := RX12) (T := TX12) (N := 51) iq_X12_write_X12 ha0 ka0 (by decide) rfl 22 (by decide) (by decide) (by decide +kernel) rfl (by decide) (v := (q_25.1 a0 22)) rfl dX12_write_167 ?_
                have g_42 : (0 : Int) ≤ (q_25.1 a0 22).toInt ∧ (q_25.1 a0 22).toInt ≤ 80 := hV_q_25.int ha0 ka0 22
                exact hret _ _ _ _ dX12_write_170 ⟨hV_q_25, hF_q_25, hK_q_25, mF_q_25, mU_q_25⟩
              · refine wa_iload_n B dX12_write_66 rfl 1 rfl ?_
                refine wa_aload_n B dX12_write_67 rfl 2 rfl ?_
                refine wa_iload_n B dX12_write_68 rfl 3 rfl ?_
                refine wa_iload B dX12_write_69 0 rfl ?_
                have z_43 : q_25.2.2.2.1 m18 (n1 : Int32).toNatClampNeg = (q.2.2.2.1 m18 (n1 : Int32).toNatClampNeg) := congrFun p6_q_25 _
                refine wa_callVi B (x := (RX12, TX12, 51)) (As := [.int n1, .int v_23]) (rest := [.int v_24]) (k_X12_worthP l dC dI h L hN q_25 hV_q_25 (a0 := a0) ha0 ka0 n1 v_23 (m19 := m19) p4_q_25  (by first | assumption | omega | decide) (by first | assumption | omega | decide) (by first | assumption | omega | decide) (by first | assumption | omega | decide) (fun k h1 h2 => mF_q_25 _ k (by have a9 := zx_nc n1; omega) h1 (by rw [z_43]; omega))) (cwV 2 B.1.2.2.2.2 gX12_write_X12_worth rfl rfl rfl (by decide +kernel) ⟨Nat.le_of_ble_eq_true rfl, Nat.le_of_ble_eq_true rfl⟩) ha0 ka0 (by decide) rfl rfl rfl (Nat.le_of_ble_eq_true rfl) dX12_write_71 (fun r_45 q_44 w_46 => ?_)
                obtain ⟨ew_46, hw_46⟩ := w_46
                subst ew_46
                refine wa_idiv B dX12_write_74 (fun z => absurd (show r_45.toInt = (0 : Int) from zx_eq.mp z) (by omega)) (fun v_47 ev_47 => ?_)
                refine wa_istore B [(5, .int v_47), (4, .int v_23), (3, .int v_24), (0, .ref a0), (1, .int n1), (2, .int n2)] dX12_write_75 (by decide) rfl ?_
                refine wa_iload_n B dX12_write_77 rfl 2 rfl ?_
                refine wa_aload_n B dX12_write_78 rfl 3 rfl ?_
                refine wa_iload_n B dX12_write_79 rfl 4 rfl ?_
                refine wa_iload B dX12_write_80 1 rfl ?_
                refine wa_callVi B (x := (RX12, TX12, 51)) (As := [.int n1, .int v_23]) (rest := [.int v_24]) (k_X12_worthP l dC dI h L hN q_25 hV_q_25 (a0 := a0) ha0 ka0 n1 v_23 (m19 := m19) p4_q_25  (by first | assumption | omega | decide) (by first | assumption | omega | decide) (by first | assumption | omega | decide) (by first | assumption | omega | decide) (fun k h1 h2 => mF_q_25 _ k (by have a9 := zx_nc n1; omega) h1 (by rw [z_43]; omega))) (cwV 2 B.1.2.2.2.2 gX12_write_X12_worth rfl rfl rfl (by decide +kernel) ⟨Nat.le_of_ble_eq_true rfl, Nat.le_of_ble_eq_true rfl⟩) ha0 ka0 (by decide) rfl rfl rfl (Nat.le_of_ble_eq_true rfl) dX12_write_82 (fun r_49 q_48 w_50 => ?_)
                obtain ⟨ew_50, hw_50⟩ := w_50
                subst ew_50
                refine wa_irem B dX12_write_85 (fun z => absurd (show r_49.toInt = (0 : Int) from zx_eq.mp z) (by omega)) (fun v_51 ev_51 => ?_)
                refine wa_istore_n B [(3, .int v_51), (5, .int v_47), (4, .int v_23), (0, .ref a0), (1, .int n1), (2, .int n2)] dX12_write_86 rfl (by decide) rfl ?_
                refine wa_iload B dX12_write_87 1 rfl ?_
                refine wa_if_ne B 95 dX12_write_89 (by decide) (fun (t_52 : ¬ v_47.toInt = 0) => ?_) (fun (t_52 : v_47.toInt = 0) => ?_)
                · refine wa_aload_n B dX12_write_95 rfl 3 rfl ?_
                  refine wa_getI B (C := RX12) (T := TX12) (N := 51) iq_X12_write_X12 ha0 ka0 (by decide) rfl 22 (by decide) (by decide) (by decide +kernel) rfl (by decide) (v := (q_25.1 a0 22)) rfl dX12_write_96 ?_
                  have g_53 : (0 : Int) ≤ (q_25.1 a0 22).toInt ∧ (q_25.1 a0 22).toInt ≤ 80 := hV_q_25.int ha0 ka0 22
                  have Jn_108_56 : ∀  (q_54 : Sg), sx_V h L q_54 → sx_fr h L (fun a => h.1 a = 12 ∨ h.1 a = 131) q q_54 → sx_kf a0 [0, 22] q q_54 → mv_F m18 m19 q_54 → mv_U m17 q_54 → q_54.1 a0 0 = 0 → q_54.1 a0 20 = (q_1.1 a0 20) → q_54.2.2.1 a0 17 = m17 → q_54.2.2.1 a0 18 = m18 → q_54.2.2.1 a0 19 = m19 → q_54.2.2.1 a0 21 = m21 → q_54.2.2.2.1 m18 = (q.2.2.2.1 m18) → q_54.2.2.2.1 m19 = (q.2.2.2.1 m19) → q_54.2.2.2.2 m17 = (q.2.2.2.2 m17) → (q_54.1 a0 22).toInt ≤ 12 * (4 - v_23.toInt) + 1 → WA l dC dI h L ({ frames := 2, cells := 0, slots := 0, locals := 45 } : Room) 6 Z q_54 108 [(3, .int v_51), (5, .int v_47), (4, .int v_23), (0, .ref a0), (1, .int n1), (2, .int n2)] [] := by
                    intro q_54 hV_q_54 hF_q_54 hK_q_54 mF_q_54 mU_q_54 p0_q_54 p1_q_54 p2_q_54 p3_q_54 p4_q_54 p5_q_54 p6_q_54 p7_q_54 p8_q_54 x_55
                    refine wa_iload B dX12_write_108 1 rfl ?_
                    refine wa_bipush B 9 dX12_write_110 (by decide) ?_
                    have Jn_127_59 : ∀  (q_57 : Sg), sx_V h L q_57 → sx_fr h L (fun a => h.1 a = 12 ∨ h.1 a = 131) q q_57 → sx_kf a0 [0, 22] q q_57 → mv_F m18 m19 q_57 → mv_U m17 q_57 → q_57.1 a0 0 = 0 → q_57.1 a0 20 = (q_1.1 a0 20) → q_57.2.2.1 a0 17 = m17 → q_57.2.2.1 a0 18 = m18 → q_57.2.2.1 a0 19 = m19 → q_57.2.2.1 a0 21 = m21 → q_57.2.2.2.1 m18 = (q.2.2.2.1 m18) → q_57.2.2.2.1 m19 = (q.2.2.2.1 m19) → q_57.2.2.2.2 m17 = (q.2.2.2.2 m17) → (q_57.1 a0 22).toInt ≤ 12 * (4 - v_23.toInt) + 2 → WA l dC dI h L ({ frames := 2, cells := 0, slots := 0, locals := 45 } : Room) 6 Z q_57 127 [(3, .int v_51), (5, .int v_47), (4, .int v_23), (0, .ref a0), (1, .int n1), (2, .int n2)] [] := by
                      intro q_57 hV_q_57 hF_q_57 hK_q_57 mF_q_57 mU_q_57 p0_q_57 p1_q_57 p2_q_57 p3_q_57 p4_q_57 p5_q_57 p6_q_57 p7_q_57 p8_q_57 x_58
                      refine wa_aload_n B dX12_write_127 rfl 3 rfl ?_
                      refine wa_bipush B 48 dX12_write_128 (by decide) ?_
                      refine wa_iload B dX12_write_130 1 rfl ?_
                      refine wa_bipush B 10 dX12_write_132 (by decide) ?_
                      refine wa_irem B dX12_write_134 (by decide) (fun v_60 ev_60 => ?_)
                      refine wa_iadd B dX12_write_135 (fun v_61 ev_61 => ?_)
                      refine wa_callVv B (x := (RX12, TX12, 51)) (As := [.int v_61]) (rest := []) (k_X12_outByte l dC dI h L hN q_57 hV_q_57 (a0 := a0) ha0 ka0 v_61  (by first | assumption | omega | decide)) (cwV 1 B.1.2.2.2.2 gX12_write_X12_outByte rfl rfl rfl (by decide +kernel) ⟨Nat.le_of_ble_eq_true rfl, Nat.le_of_ble_eq_true rfl⟩) ha0 ka0 (by decide) rfl rfl rfl (Nat.le_of_ble_eq_true rfl) dX12_write_136 (fun q_62 w_63 => ?_)
                      obtain ⟨hV_q_62, h2_q_62, h3_q_62, hw_63⟩ := w_63
                      have hF_q_62 : sx_fr h L (fun a => h.1 a = 12 ∨ h.1 a = 131) q q_62 := hF_q_57.tr (h2_q_62.mono (fun a (z : h.1 a = 12 ∨ h.1 a = 131) => (show h.1 a = 12 ∨ h.1 a = 131 from by omega)))
                      have hK_q_62 : sx_kf a0 [0, 22] q q_62 := hK_q_57.tr (h3_q_62.mono (by decide))
                      have mF_q_62 : mv_F m18 m19 q_62 := mv_F.eq (h2_q_62.G hm18 (show ¬ (h.1 m18 = 12 ∨ h.1 m18 = 131) from by omega) (by rw [km18]; decide)) (h2_q_62.G hm19 (show ¬ (h.1 m19 = 12 ∨ h.1 m19 = 131) from by omega) (by rw [km19]; decide)) mF_q_57
                      have mU_q_62 : mv_U m17 q_62 := mv_U.eq (h2_q_62.Lg hm17 (show ¬ (h.1 m17 = 12 ∨ h.1 m17 = 131) from by omega) (by rw [km17]; decide)) mU_q_57
                      refine wa_aload_n B dX12_write_139 rfl 3 rfl ?_
                      refine wa_bipush B 32 dX12_write_140 (by decide) ?_
                      refine wa_callVv B (x := (RX12, TX12, 51)) (As := [.int 32]) (rest := []) (k_X12_outByte l dC dI h L hN q_62 hV_q_62 (a0 := a0) ha0 ka0 32  (by first | assumption | omega | decide)) (cwV 1 B.1.2.2.2.2 gX12_write_X12_outByte rfl rfl rfl (by decide +kernel) ⟨Nat.le_of_ble_eq_true rfl, Nat.le_of_ble_eq_true rfl⟩) ha0 ka0 (by decide) rfl rfl rfl (Nat.le_of_ble_eq_true rfl) dX12_write_142 (fun q_64 w_65 => ?_)
                      obtain ⟨hV_q_64, h2_q_64, h3_q_64, hw_65⟩ := w_65
                      have hF_q_64 : sx_fr h L (fun a => h.1 a = 12 ∨ h.1 a = 131) q q_64 := hF_q_62.tr (h2_q_64.mono (fun a (z : h.1 a = 12 ∨ h.1 a = 131) => (show h.1 a = 12 ∨ h.1 a = 131 from by omega)))
                      have hK_q_64 : sx_kf a0 [0, 22] q q_64 := hK_q_62.tr (h3_q_64.mono (by decide))
                      have mF_q_64 : mv_F m18 m19 q_64 := mv_F.eq (h2_q_64.G hm18 (show ¬ (h.1 m18 = 12 ∨ h.1 m18 = 131) from by omega) (by rw [km18]; decide)) (h2_q_64.G hm19 (show ¬ (h.1 m19 = 12 ∨ h.1 m19 = 131) from by omega) (by rw [km19]; decide)) mF_q_62
                      have mU_q_64 : mv_U m17 q_64 := mv_U.eq (h2_q_64.Lg hm17 (show ¬ (h.1 m17 = 12 ∨ h.1 m17 = 131) from by omega) (by rw [km17]; decide)) mU_q_62
                      refine wa_aload_n B dX12_write_145 rfl 3 rfl ?_
                      refine wa_aload_n B dX12_write_146 rfl 3 rfl ?_
                      have z_66 : q_64.2.2.1 a0 17 = m17 := (h2_q_64.R ha0 (show ¬ ((h.1 a0 = 12 ∨ h.1 a0 = 131) ∧ (h.1 a0 = 8 ∨ h.1 a0 = 11)) from by omega) 17).trans ((h2_q_62.R ha0 (show ¬ ((h.1 a0 = 12 ∨ h.1 a0 = 131) ∧ (h.1 a0 = 8 ∨ h.1 a0 = 11)) from by omega) 17).trans (p2_q_57))
                      refine wa_getR B (C := RX12) (T := TX12) (N := 51) iq_X12_write_X12 ha0 ka0 (by decide) rfl 17 (by decide) (by decide) (by decide +kernel) rfl (fun _ _ _ => rfl) (v := m17) z_66 dX12_write_147 ?_
                      refine wa_iconst B 5 dX12_write_150 (by decide) ?_
                      refine wa_iload_n B dX12_write_151 rfl 4 rfl ?_
                      refine wa_imul B dX12_write_152 (fun v_67 ev_67 => ?_)
                      refine wa_iload B dX12_write_153 2 rfl ?_
                      refine wa_iadd B dX12_write_155 (fun v_68 ev_68 => ?_)
                      have tv_67 : v_67.toInt = 5 * n1.toInt := by have b1 := zx_bd n1; rw [ev_67]; exact zx_mul (show (-2147483648 : Int) ≤ 5 * n1.toInt by omega) (show 5 * n1.toInt < (2147483648 : Int) by omega)
                      have tv_68 : v_68.toInt = v_67.toInt + v_23.toInt := by have b0 := zx_bd v_67; have b1 := zx_bd v_23; rw [ev_68]; exact zx_add (show (-2147483648 : Int) ≤ v_67.toInt + v_23.toInt by omega) (show v_67.toInt + v_23.toInt < (2147483648 : Int) by omega)
                      have z_69 : q_64.2.2.2.2 m17 = (q.2.2.2.2 m17) := (h2_q_64.Lg hm17 (show ¬ (h.1 m17 = 12 ∨ h.1 m17 = 131) from by omega) (by rw [km17]; decide)).trans ((h2_q_62.Lg hm17 (show ¬ (h.1 m17 = 12 ∨ h.1 m17 = 131) from by omega) (by rw [km17]; decide)).trans (p8_q_57))
                      have z_70 : q_64.2.2.2.2 m17 (v_68 : Int32).toNatClampNeg = (q.2.2.2.2 m17 (v_68 : Int32).toNatClampNeg) := congrFun z_69 _
                      refine wa_laload B hm17 km17 (by decide) (by decide) (show 0 ≤ v_68.toInt by omega) (show v_68.toInt < (h.2.1 m17 : Int) by omega) (v := (q.2.2.2.2 m17 (v_68 : Int32).toNatClampNeg)) z_70 dX12_write_156 ?_
                      refine wa_callVv B (x := (RX12, TX12, 51)) (As := [.long ((q.2.2.2.2 m17 (v_68 : Int32).toNatClampNeg))]) (rest := []) (k_X12_outName l dC dI h L hN q_64 hV_q_64 (a0 := a0) ha0 ka0 ((q.2.2.2.2 m17 (v_68 : Int32).toNatClampNeg))  (by rw [← z_70]; exact (mU_q_64 _).1) (by rw [← z_70]; exact (mU_q_64 _).2) (by first | assumption | omega | decide)) (cwV 1 B.1.2.2.2.2 gX12_write_X12_outName rfl rfl rfl (by decide +kernel) ⟨Nat.le_of_ble_eq_true rfl, Nat.le_of_ble_eq_true rfl⟩) ha0 ka0 (by decide) rfl rfl rfl (Nat.le_of_ble_eq_true rfl) dX12_write_157 (fun q_71 w_72 => ?_)
                      obtain ⟨hV_q_71, h2_q_71, h3_q_71, hw_72⟩ := w_72
                      have hF_q_71 : sx_fr h L (fun a => h.1 a = 12 ∨ h.1 a = 131) q q_71 := hF_q_64.tr (h2_q_71.mono (fun a (z : h.1 a = 12 ∨ h.1 a = 131) => (show h.1 a = 12 ∨ h.1 a = 131 from by omega)))
                      have hK_q_71 : sx_kf a0 [0, 22] q q_71 := hK_q_64.tr (h3_q_71.mono (by decide))
                      have mF_q_71 : mv_F m18 m19 q_71 := mv_F.eq (h2_q_71.G hm18 (show ¬ (h.1 m18 = 12 ∨ h.1 m18 = 131) from by omega) (by rw [km18]; decide)) (h2_q_71.G hm19 (show ¬ (h.1 m19 = 12 ∨ h.1 m19 = 131) from by omega) (by rw [km19]; decide)) mF_q_64
                      have mU_q_71 : mv_U m17 q_71 := mv_U.eq (h2_q_71.Lg hm17 (show ¬ (h.1 m17 = 12 ∨ h.1 m17 = 131) from by omega) (by rw [km17]; decide)) mU_q_64
                      obtain ⟨v_73, ev_73⟩ : ∃ z : Int32, z = v_23 + (-1) := ⟨_, rfl⟩
                      refine wa_iinc B [(4, .int v_73), (3, .int v_51), (5, .int v_47), (0, .ref a0), (1, .int n1), (2, .int n2)] v_73 dX12_write_160 2 rfl (by rw [ev_73]; rfl) (by decide) rfl ?_
                      refine wa_goto B 61 dX12_write_163 (by decide) ?_
                      have tv_73 : v_73.toInt = v_23.toInt + (-1) := by have b0 := zx_bd v_23; rw [ev_73]; exact zx_add (show (-2147483648 : Int) ≤ v_23.toInt + (-1) by omega) (show v_23.toInt + (-1) < (2147483648 : Int) by omega)
                      have z_74 : q_71.1 a0 0 = 0 := (h3_q_71.1 0 (by decide)).trans ((h3_q_64.1 0 (by decide)).trans ((h3_q_62.1 0 (by decide)).trans (p0_q_57)))
                      have z_75 : q_71.1 a0 20 = (q_1.1 a0 20) := (h3_q_71.1 20 (by decide)).trans ((h3_q_64.1 20 (by decide)).trans ((h3_q_62.1 20 (by decide)).trans (p1_q_57)))
                      have z_76 : q_71.2.2.1 a0 17 = m17 := (h2_q_71.R ha0 (show ¬ ((h.1 a0 = 12 ∨ h.1 a0 = 131) ∧ (h.1 a0 = 8 ∨ h.1 a0 = 11)) from by omega) 17).trans (z_66)
                      have z_77 : q_71.2.2.1 a0 18 = m18 := (h2_q_71.R ha0 (show ¬ ((h.1 a0 = 12 ∨ h.1 a0 = 131) ∧ (h.1 a0 = 8 ∨ h.1 a0 = 11)) from by omega) 18).trans ((h2_q_64.R ha0 (show ¬ ((h.1 a0 = 12 ∨ h.1 a0 = 131) ∧ (h.1 a0 = 8 ∨ h.1 a0 = 11)) from by omega) 18).trans ((h2_q_62.R ha0 (show ¬ ((h.1 a0 = 12 ∨ h.1 a0 = 131) ∧ (h.1 a0 = 8 ∨ h.1 a0 = 11)) from by omega) 18).trans (p3_q_57)))
                      have z_78 : q_71.2.2.1 a0 19 = m19 := (h2_q_71.R ha0 (show ¬ ((h.1 a0 = 12 ∨ h.1 a0 = 131) ∧ (h.1 a0 = 8 ∨ h.1 a0 = 11)) from by omega) 19).trans ((h2_q_64.R ha0 (show ¬ ((h.1 a0 = 12 ∨ h.1 a0 = 131) ∧ (h.1 a0 = 8 ∨ h.1 a0 = 11)) from by omega) 19).trans ((h2_q_62.R ha0 (show ¬ ((h.1 a0 = 12 ∨ h.1 a0 = 131) ∧ (h.1 a0 = 8 ∨ h.1 a0 = 11)) from by omega) 19).trans (p4_q_57)))
                      have z_79 : q_71.2.2.1 a0 21 = m21 := (h2_q_71.R ha0 (show ¬ ((h.1 a0 = 12 ∨ h.1 a0 = 131) ∧ (h.1 a0 = 8 ∨ h.1 a0 = 11)) from by omega) 21).trans ((h2_q_64.R ha0 (show ¬ ((h.1 a0 = 12 ∨ h.1 a0 = 131) ∧ (h.1 a0 = 8 ∨ h.1 a0 = 11)) from by omega) 21).trans ((h2_q_62.R ha0 (show ¬ ((h.1 a0 = 12 ∨ h.1 a0 = 131) ∧ (h.1 a0 = 8 ∨ h.1 a0 = 11)) from by omega) 21).trans (p5_q_57)))
                      have z_80 : q_71.2.2.2.1 m18 = (q.2.2.2.1 m18) := (h2_q_71.G hm18 (show ¬ (h.1 m18 = 12 ∨ h.1 m18 = 131) from by omega) (by rw [km18]; decide)).trans ((h2_q_64.G hm18 (show ¬ (h.1 m18 = 12 ∨ h.1 m18 = 131) from by omega) (by rw [km18]; decide)).trans ((h2_q_62.G hm18 (show ¬ (h.1 m18 = 12 ∨ h.1 m18 = 131) from by omega) (by rw [km18]; decide)).trans (p6_q_57)))
                      have z_81 : q_71.2.2.2.1 m19 = (q.2.2.2.1 m19) := (h2_q_71.G hm19 (show ¬ (h.1 m19 = 12 ∨ h.1 m19 = 131) from by omega) (by rw [km19]; decide)).trans ((h2_q_64.G hm19 (show ¬ (h.1 m19 = 12 ∨ h.1 m19 = 131) from by omega) (by rw [km19]; decide)).trans ((h2_q_62.G hm19 (show ¬ (h.1 m19 = 12 ∨ h.1 m19 = 131) from by omega) (by rw [km19]; decide)).trans (p7_q_57)))
                      have z_82 : q_71.2.2.2.2 m17 = (q.2.2.2.2 m17) := (h2_q_71.Lg hm17 (show ¬ (h.1 m17 = 12 ∨ h.1 m17 = 131) from by omega) (by rw [km17]; decide)).trans (z_69)
                      refine WA.sub [0, 1, 3, 4, 5] rfl ?_
                      exact ih_40 v_73 v_51 q_71 hV_q_71 hF_q_71 hK_q_71 mF_q_71 mU_q_71 z_74 z_75 z_76 z_77 z_78 z_79 z_80 z_81 z_82 (show (-1) ≤ v_73.toInt from by first | assumption | omega | decide) (show v_73.toInt < (q.2.2.2.1 m18 (n1).toNatClampNeg).toInt from by first | assumption | omega | decide) (show v_73.toInt ≤ 4 from by first | assumption | omega | decide) (show (q_71.1 a0 22).toInt ≤ 12 * (4 - v_73.toInt) from by first | assumption | omega | decide) (show (v_73.toInt + 1 : Int).toNat < _ from by omega)
                    refine wa_icmp_le B 127 dX12_write_112 (by decide) (fun (t_83 : v_47.toInt ≤ 9) => ?_) (fun (t_83 : ¬ v_47.toInt ≤ 9) => ?_)
                    · exact Jn_127_59 q_54 hV_q_54 hF_q_54 hK_q_54 mF_q_54 mU_q_54 p0_q_54 p1_q_54 p2_q_54 p3_q_54 p4_q_54 p5_q_54 p6_q_54 p7_q_54 p8_q_54 (show (q_54.1 a0 22).toInt ≤ 12 * (4 - v_23.toInt) + 2 from by first | assumption | omega | decide)
                    · refine wa_aload_n B dX12_write_115 rfl 3 rfl ?_
                      refine wa_bipush B 48 dX12_write_116 (by decide) ?_
                      refine wa_iload B dX12_write_118 1 rfl ?_
                      refine wa_bipush B 10 dX12_write_120 (by decide) ?_
                      refine wa_idiv B dX12_write_122 (by decide) (fun v_84 ev_84 => ?_)
                      refine wa_iadd B dX12_write_123 (fun v_85 ev_85 => ?_)
                      refine wa_callVv B (x := (RX12, TX12, 51)) (As := [.int v_85]) (rest := []) (k_X12_outByte l dC dI h L hN q_54 hV_q_54 (a0 := a0) ha0 ka0 v_85  (by first | assumption | omega | decide)) (cwV 1 B.1.2.2.2.2 gX12_write_X12_outByte rfl rfl rfl (by decide +kernel) ⟨Nat.le_of_ble_eq_true rfl, Nat.le_of_ble_eq_true rfl⟩) ha0 ka0 (by decide) rfl rfl rfl (Nat.le_of_ble_eq_true rfl) dX12_write_124 (fun q_86 w_87 => ?_)
                      obtain ⟨hV_q_86, h2_q_86, h3_q_86, hw_87⟩ := w_87
                      have hF_q_86 : sx_fr h L (fun a => h.1 a = 12 ∨ h.1 a = 131) q q_86 := hF_q_54.tr (h2_q_86.mono (fun a (z : h.1 a = 12 ∨ h.1 a = 131) => (show h.1 a = 12 ∨ h.1 a = 131 from by omega)))
                      have hK_q_86 : sx_kf a0 [0, 22] q q_86 := hK_q_54.tr (h3_q_86.mono (by decide))
                      have mF_q_86 : mv_F m18 m19 q_86 := mv_F.eq (h2_q_86.G hm18 (show ¬ (h.1 m18 = 12 ∨ h.1 m18 = 131) from by omega) (by rw [km18]; decide)) (h2_q_86.G hm19 (show ¬ (h.1 m19 = 12 ∨ h.1 m19 = 131) from by omega) (by rw [km19]; decide)) mF_q_54
                      have mU_q_86 : mv_U m17 q_86 := mv_U.eq (h2_q_86.Lg hm17 (show ¬ (h.1 m17 = 12 ∨ h.1 m17 = 131) from by omega) (by rw [km17]; decide)) mU_q_54
                      have z_88 : q_86.1 a0 0 = 0 := (h3_q_86.1 0 (by decide)).trans (p0_q_54)
                      have z_89 : q_86.1 a0 20 = (q_1.1 a0 20) := (h3_q_86.1 20 (by decide)).trans (p1_q_54)
                      have z_90 : q_86.2.2.1 a0 17 = m17 := (h2_q_86.R ha0 (show ¬ ((h.1 a0 = 12 ∨ h.1 a0 = 131) ∧ (h.1 a0 = 8 ∨ h.1 a0 = 11)) from by omega) 17).trans (p2_q_54)
                      have z_91 : q_86.2.2.1 a0 18 = m18 := (h2_q_86.R ha0 (show ¬ ((h.1 a0 = 12 ∨ h.1 a0 = 131) ∧ (h.1 a0 = 8 ∨ h.1 a0 = 11)) from by omega) 18).trans (p3_q_54)
                      have z_92 : q_86.2.2.1 a0 19 = m19 := (h2_q_86.R ha0 (show ¬ ((h.1 a0 = 12 ∨ h.1 a0 = 131) ∧ (h.1 a0 = 8 ∨ h.1 a0 = 11)) from by omega) 19).trans (p4_q_54)
                      have z_93 : q_86.2.2.1 a0 21 = m21 := (h2_q_86.R ha0 (show ¬ ((h.1 a0 = 12 ∨ h.1 a0 = 131) ∧ (h.1 a0 = 8 ∨ h.1 a0 = 11)) from by omega) 21).trans (p5_q_54)
                      have z_94 : q_86.2.2.2.1 m18 = (q.2.2.2.1 m18) := (h2_q_86.G hm18 (show ¬ (h.1 m18 = 12 ∨ h.1 m18 = 131) from by omega) (by rw [km18]; decide)).trans (p6_q_54)
                      have z_95 : q_86.2.2.2.1 m19 = (q.2.2.2.1 m19) := (h2_q_86.G hm19 (show ¬ (h.1 m19 = 12 ∨ h.1 m19 = 131) from by omega) (by rw [km19]; decide)).trans (p7_q_54)
                      have z_96 : q_86.2.2.2.2 m17 = (q.2.2.2.2 m17) := (h2_q_86.Lg hm17 (show ¬ (h.1 m17 = 12 ∨ h.1 m17 = 131) from by omega) (by rw [km17]; decide)).trans (p8_q_54)
                      exact Jn_127_59 q_86 hV_q_86 hF_q_86 hK_q_86 mF_q_86 mU_q_86 z_88 z_89 z_90 z_91 z_92 z_93 z_94 z_95 z_96 (show (q_86.1 a0 22).toInt ≤ 12 * (4 - v_23.toInt) + 2 from by first | assumption | omega | decide)
                  refine wa_if_le B 108 dX12_write_99 (by decide) (fun (t_97 : (q_25.1 a0 22).toInt ≤ 0) => ?_) (fun (t_97 : ¬ (q_25.1 a0 22).toInt ≤ 0) => ?_)
                  · exact Jn_108_56 q_25 hV_q_25 hF_q_25 hK_q_25 mF_q_25 mU_q_25 p0_q_25 p1_q_25 p2_q_25 p3_q_25 p4_q_25 p5_q_25 p6_q_25 p7_q_25 p8_q_25 (show (q_25.1 a0 22).toInt ≤ 12 * (4 - v_23.toInt) + 1 from by first | assumption | omega | decide)
                  · refine wa_aload_n B dX12_write_102 rfl 3 rfl ?_
                    refine wa_bipush B 32 dX12_write_103 (by decide) ?_
                    refine wa_callVv B (x := (RX12, TX12, 51)) (As := [.int 32]) (rest := []) (k_X12_outByte l dC dI h L hN q_25 hV_q_25 (a0 := a0) ha0 ka0 32  (by first | assumption | omega | decide)) (cwV 1 B.1.2.2.2.2 gX12_write_X12_outByte rfl rfl rfl (by decide +kernel) ⟨Nat.le_of_ble_eq_true rfl, Nat.le_of_ble_eq_true rfl⟩) ha0 ka0 (by decide) rfl rfl rfl (Nat.le_of_ble_eq_true rfl) dX12_write_105 (fun q_98 w_99 => ?_)
                    obtain ⟨hV_q_98, h2_q_98, h3_q_98, hw_99⟩ := w_99
                    have hF_q_98 : sx_fr h L (fun a => h.1 a = 12 ∨ h.1 a = 131) q q_98 := hF_q_25.tr (h2_q_98.mono (fun a (z : h.1 a = 12 ∨ h.1 a = 131) => (show h.1 a = 12 ∨ h.1 a = 131 from by omega)))
                    have hK_q_98 : sx_kf a0 [0, 22] q q_98 := hK_q_25.tr (h3_q_98.mono (by decide))
                    have mF_q_98 : mv_F m18 m19 q_98 := mv_F.eq (h2_q_98.G hm18 (show ¬ (h.1 m18 = 12 ∨ h.1 m18 = 131) from by omega) (by rw [km18]; decide)) (h2_q_98.G hm19 (show ¬ (h.1 m19 = 12 ∨ h.1 m19 = 131) from by omega) (by rw [km19]; decide)) mF_q_25
                    have mU_q_98 : mv_U m17 q_98 := mv_U.eq (h2_q_98.Lg hm17 (show ¬ (h.1 m17 = 12 ∨ h.1 m17 = 131) from by omega) (by rw [km17]; decide)) mU_q_25
                    have z_100 : q_98.1 a0 0 = 0 := (h3_q_98.1 0 (by decide)).trans (p0_q_25)
                    have z_101 : q_98.1 a0 20 = (q_1.1 a0 20) := (h3_q_98.1 20 (by decide)).trans (p1_q_25)
                    have z_102 : q_98.2.2.1 a0 17 = m17 := (h2_q_98.R ha0 (show ¬ ((h.1 a0 = 12 ∨ h.1 a0 = 131) ∧ (h.1 a0 = 8 ∨ h.1 a0 = 11)) from by omega) 17).trans (p2_q_25)
                    have z_103 : q_98.2.2.1 a0 18 = m18 := (h2_q_98.R ha0 (show ¬ ((h.1 a0 = 12 ∨ h.1 a0 = 131) ∧ (h.1 a0 = 8 ∨ h.1 a0 = 11)) from by omega) 18).trans (p3_q_25)
                    have z_104 : q_98.2.2.1 a0 19 = m19 := (h2_q_98.R ha0 (show ¬ ((h.1 a0 = 12 ∨ h.1 a0 = 131) ∧ (h.1 a0 = 8 ∨ h.1 a0 = 11)) from by omega) 19).trans (p4_q_25)
                    have z_105 : q_98.2.2.1 a0 21 = m21 := (h2_q_98.R ha0 (show ¬ ((h.1 a0 = 12 ∨ h.1 a0 = 131) ∧ (h.1 a0 = 8 ∨ h.1 a0 = 11)) from by omega) 21).trans (p5_q_25)
                    have z_106 : q_98.2.2.2.1 m18 = (q.2.2.2.1 m18) := (h2_q_98.G hm18 (show ¬ (h.1 m18 = 12 ∨ h.1 m18 = 131) from by omega) (by rw [km18]; decide)).trans (p6_q_25)
                    have z_107 : q_98.2.2.2.1 m19 = (q.2.2.2.1 m19) := (h2_q_98.G hm19 (show ¬ (h.1 m19 = 12 ∨ h.1 m19 = 131) from by omega) (by rw [km19]; decide)).trans (p7_q_25)
                    have z_108 : q_98.2.2.2.2 m17 = (q.2.2.2.2 m17) := (h2_q_98.Lg hm17 (show ¬ (h.1 m17 = 12 ∨ h.1 m17 = 131) from by omega) (by rw [km17]; decide)).trans (p8_q_25)
                    exact Jn_108_56 q_98 hV_q_98 hF_q_98 hK_q_98 mF_q_98 mU_q_98 z_100 z_101 z_102 z_103 z_104 z_105 z_106 z_107 z_108 (show (q_98.1 a0 22).toInt ≤ 12 * (4 - v_23.toInt) + 1 from by first | assumption | omega | decide)
                · refine wa_goto B 160 dX12_write_92 (by decide) ?_
                  obtain ⟨v_109, ev_109⟩ : ∃ z : Int32, z = v_23 + (-1) := ⟨_, rfl⟩
                  refine wa_iinc B [(4, .int v_109), (3, .int v_51), (5, .int v_47), (0, .ref a0), (1, .int n1), (2, .int n2)] v_109 dX12_write_160 2 rfl (by rw [ev_109]; rfl) (by decide) rfl ?_
                  refine wa_goto B 61 dX12_write_163 (by decide) ?_
                  have tv_109 : v_109.toInt = v_23.toInt + (-1) := by have b0 := zx_bd v_23; rw [ev_109]; exact zx_add (show (-2147483648 : Int) ≤ v_23.toInt + (-1) by omega) (show v_23.toInt + (-1) < (2147483648 : Int) by omega)
                  refine WA.sub [0, 1, 3, 4, 5] rfl ?_
                  exact ih_40 v_109 v_51 q_25 hV_q_25 hF_q_25 hK_q_25 mF_q_25 mU_q_25 p0_q_25 p1_q_25 p2_q_25 p3_q_25 p4_q_25 p5_q_25 p6_q_25 p7_q_25 p8_q_25 (show (-1) ≤ v_109.toInt from by first | assumption | omega | decide) (show v_109.toInt < (q.2.2.2.1 m18 (n1).toNatClampNeg).toInt from by first | assumption | omega | decide) (show v_109.toInt ≤ 4 from by first | assumption | omega | decide) (show (q_25.1 a0 22).toInt ≤ 12 * (4 - v_109.toInt) from by first | assumption | omega | decide) (show (v_109.toInt + 1 : Int).toNat < _ from by omega)
          have tv_22 : v_22.toInt = ((q.2.2.2.1 m18 (n1 : Int32).toNatClampNeg)).toInt - 1 := by have b0 := zx_bd ((q.2.2.2.1 m18 (n1 : Int32).toNatClampNeg)); rw [ev_22]; exact zx_sub (show (-2147483648 : Int) ≤ ((q.2.2.2.1 m18 (n1 : Int32).toNatClampNeg)).toInt - 1 by omega) (show ((q.2.2.2.1 m18 (n1 : Int32).toNatClampNeg)).toInt - 1 < (2147483648 : Int) by omega)
          have y_110 : (q_18.1 a0 22).toInt = 0 := by rw [z_19]; rfl
          exact Lp_61_39 _ v_22 n2 q_18 hV_q_18 hF_q_18 hK_q_18 mF_q_18 mU_q_18 z_26 z_27 z_28 z_20 z_29 z_30 z_31 z_32 z_34 (show (-1) ≤ v_22.toInt from by first | assumption | omega | decide) (show v_22.toInt < (q.2.2.2.1 m18 (n1).toNatClampNeg).toInt from by first | assumption | omega | decide) (show v_22.toInt ≤ 4 from by first | assumption | omega | decide) (show (q_18.1 a0 22).toInt ≤ 12 * (4 - v_22.toInt) from by first | assumption | omega | decide) (Nat.lt_succ_self _)
        · refine wa_iconst B (-1) dX12_write_42 (by decide) ?_
          exact hret _ _ _ _ dX12_write_43 ⟨hV_q_1, hF_q_1, hK_q_1, mF_q_1, mU_q_1⟩
