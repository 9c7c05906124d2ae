set_option maxHeartbeats 4000000 in
set_option maxRecDepth 100000 in
theorem k_J7_fill_d0a16_c (l : Launch) (dC : Nat → ClassId) (dI : Nat → Nat → Nat) (h : Sh) (L : List Nat) (hN : sx_nd L) (q : Sg) (hV : sx_V h L q) {a0 : Nat} (ha0 : a0 ∈ L) {Ka0 : Nat} (ka0 : h.1 a0 = Ka0) (n1 : Int64)   (h1K : 200 ≤ Ka0) (h2K : Ka0 < 300) : CMv l dC dI h L yJ7_fill_d0a16 wsJ7_fill_d0a16 ({ frames := 0, cells := 0, slots := 0, locals := 0 } : Room) q [.ref a0, .long n1] (fun q' => sx_V h L q' ∧ sx_fr h L (fun a => a = a0 ∧ h.1 a = Ka0) q q' ∧ (∀ j : Nat, j < h.2.1 a0 → q'.2.2.2.2 a0 j = n1)) := by
  refine cm_v (cc := cJ7_fill_d0a16) (mL := 5) (own := RJ7) hN (by decide) rfl rfl (Nat.le_of_ble_eq_true rfl) (fun Z B hret => ?_)
  have hF : sx_fr h L (fun a => a = a0 ∧ h.1 a = Ka0) q q := sx_fr.rf
  show WA l dC dI h L ({ frames := 0, cells := 0, slots := 0, locals := 0 } : Room) 5 Z q 0 [(0, .ref a0), (1, .long n1)] []
  refine wa_iconst B 0 dJ7_fill_d0a16_0 (by decide) ?_
  refine wa_istore_n B [(3, .int 0), (0, .ref a0), (1, .long n1)] dJ7_fill_d0a16_1 rfl (by decide) rfl ?_
  refine wa_aload_n B dJ7_fill_d0a16_2 rfl 1 rfl ?_
  refine wa_alenL B ha0 ka0 h1K h2K dJ7_fill_d0a16_3 (fun v_1 ev_1 => ?_)
  have gv_1 : v_1.toInt = (h.2.1 a0 : Int) := by rw [ev_1]; exact zx_len (hV.len ha0)
  have l_2 : h.2.1 a0 ≤ 5000 := hV.len ha0
  refine wa_istore B [(4, .int v_1), (3, .int 0), (0, .ref a0), (1, .long n1)] dJ7_fill_d0a16_4 (by decide) rfl ?_
  have Lp_6_7 : ∀ (n : Nat) (v_3 : Int32) (q_4 : Sg), sx_V h L q_4 → sx_fr h L (fun a => a = a0 ∧ h.1 a = Ka0) q q_4 → 0 ≤ v_3.toInt → (∀ j : Nat, (j : Int) < v_3.toInt → q_4.2.2.2.2 a0 j = n1) → (v_1.toInt - v_3.toInt : Int).toNat < n → WA l dC dI h L ({ frames := 0, cells := 0, slots := 0, locals := 0 } : Room) 5 Z q_4 6 [(4, .int v_1), (3, .int v_3), (0, .ref a0), (1, .long n1)] [] := by
    intro n
    induction n with
    | zero =>
      intro v_3 q_4 hV_q_4 hF_q_4 x_5 x_6 hn
      exact absurd hn (Nat.not_lt_zero _)
    | succ n ih_8 =>
      intro v_3 q_4 hV_q_4 hF_q_4 x_5 x_6 hn
      refine wa_iload_n B dJ7_fill_d0a16_6 rfl 1 rfl ?_
      refine wa_iload B dJ7_fill_d0a16_7 0 rfl ?_
      refine wa_icmp_ge B 22 dJ7_fill_d0a16_9 (by decide) (fun (t_9 : v_1.toInt ≤ v_3.toInt) => ?_) (fun (t_9 : ¬ v_1.toInt ≤ v_3.toInt) => ?_)
      · exact hret _ _ _ dJ7_fill_d0a16_22 ⟨hV_q_4, hF_q_4, (fun j hj => x_6 j (by omega))⟩
      · refine wa_aload_n B dJ7_fill_d0a16_12 rfl 2 rfl ?_
        refine wa_iload_n B dJ7_fill_d0a16_13 rfl 1 rfl ?_
        refine wa_lload_n B dJ7_fill_d0a16_14 rfl 3 rfl ?_
        refine wa_lastore B ha0 ka0 h1K h2K (show 0 ≤ v_3.toInt by omega) (show v_3.toInt < (h.2.1 a0 : Int) by omega) dJ7_fill_d0a16_15 (fun q_10 eq_10 => ?_)
        have hV_q_10 : sx_V h L q_10 := by rw [eq_10]; exact hV_q_4.pL
        have hF_q_10 : sx_fr h L (fun a => a = a0 ∧ h.1 a = Ka0) q q_10 := hF_q_4.tr (by rw [eq_10]; exact sx_fr.pL (show h.1 a0 = 200 ∨ (a0 = a0 ∧ h.1 a0 = Ka0) from by omega))
        have z_11 : q_10.2.2.2.2 a0 (v_3 : Int32).toNatClampNeg = n1 := by rw [eq_10, sg_pL_e]; exact if_pos rfl
        obtain ⟨v_12, ev_12⟩ : ∃ z : Int32, z = v_3 + 1 := ⟨_, rfl⟩
        refine wa_iinc B [(3, .int v_12), (4, .int v_1), (0, .ref a0), (1, .long n1)] v_12 dJ7_fill_d0a16_16 1 rfl (by rw [ev_12]; rfl) (by decide) rfl ?_
        refine wa_goto B 6 dJ7_fill_d0a16_19 (by decide) ?_
        have tv_12 : v_12.toInt = v_3.toInt + 1 := by have b0 := zx_bd v_3; rw [ev_12]; exact zx_add (show (-2147483648 : Int) ≤ v_3.toInt + 1 by omega) (show v_3.toInt + 1 < (2147483648 : Int) by omega)
        refine WA.sub [1, 0, 2, 3] rfl ?_
        exact ih_8 v_12 q_10 hV_q_10 hF_q_10 (show 0 ≤ v_12.toInt from by first | assumption | omega | decide) (show ∀ j : Nat, (j : Int) < v_12.toInt → q_10.2.2.2.2 a0 j = n1 from by intro j hj; have a9 := zx_nc v_3; by_cases z9 : j = (v_3 : Int32).toNatClampNeg; (rw [eq_10, sg_pL_e, z9]; exact if_pos rfl); (rw [eq_10, sg_pL_e]; exact (if_neg z9).trans (x_6 j (by omega)))) (show (v_1.toInt - v_12.toInt : Int).toNat < _ from by omega)
  exact Lp_6_7 _ 0 q hV hF (show 0 ≤ 0 from by first | assumption | omega | decide) (show ∀ j : Nat, (j : Int) < 0 → q.2.2.2.2 a0 j = n1 from by intro j hj; exact absurd hj (show ¬ ((j : Int) < 0) from by omega)) (Nat.lt_succ_self _)
