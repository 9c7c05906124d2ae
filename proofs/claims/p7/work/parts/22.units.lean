theorem iq_X9_isFull_X9 : ∀ w ∈ wsX90, w ∈ wsX9_isFull := fun _ h => List.mem_cons_of_mem _ (List.mem_append_right _ h)
set_option maxHeartbeats 4000000 in
set_option maxRecDepth 100000 in
theorem k_X9_isFull (l : Launch) (dC : Nat → ClassId) (dI : Nat → Nat → Nat) (h : Sh) (L : List Nat) (hN : sx_nd L) (q : Sg) (hV : sx_V h L q) {a0 : Nat} (ha0 : a0 ∈ L) (ka0 : h.1 a0 = 9) {b0 : Nat} (eb0 : q.2.2.1 a0 1 = b0)   : CMi l dC dI h L yX9_isFull wsX9_isFull ({ frames := 0, cells := 0, slots := 0, locals := 0 } : Room) q [.ref a0] (fun r q' => q = q' ∧ (r.toInt = 1 ∨ r.toInt = 0 ∧ 1 ≤ (q.1 a0 6).toInt ∧ (q.2.2.2.1 b0 (q.1 a0 6 - 1).toNatClampNeg).toInt < 5)) := by
  refine cm_z (cc := cX9_isFull) (mL := 1) (own := RX9) hN (by decide) rfl rfl (Nat.le_of_ble_eq_true rfl) (fun Z B hret => ?_)
  obtain ⟨hb0, kb0, lb0⟩ : b0 ∈ L ∧ h.1 b0 = 101 ∧ h.2.1 b0 = 3 := by obtain ⟨r9, e9, z1, z2, z3⟩ := hV.refn (t := 101) (n := 3) ha0 ka0 1 rfl (by decide) rfl (by decide); rw [← eb0, e9]; exact ⟨z1, z2, z3⟩
  show WA l dC dI h L ({ frames := 0, cells := 0, slots := 0, locals := 0 } : Room) 1 Z q 0 [(0, .ref a0)] []
  refine wa_aload_n B dX9_isFull_0 rfl 0 rfl ?_
  refine wa_getI B (C := RX9) (T := TX9) (N := 7) iq_X9_isFull_X9 ha0 ka0 (by decide) rfl 6 (by decide) (by decide) (by decide +kernel) rfl (by decide) (v := (q.1 a0 6)) rfl dX9_isFull_1 ?_
  have g_1 : (0 : Int) ≤ (q.1 a0 6).toInt ∧ (q.1 a0 6).toInt ≤ 3 := hV.int ha0 ka0 6
  refine wa_iconst B 1 dX9_isFull_4 (by decide) ?_
  refine wa_icmp_lt B 23 dX9_isFull_5 (by decide) (fun (t_2 : (q.1 a0 6).toInt < 1) => ?_) (fun (t_2 : ¬ (q.1 a0 6).toInt < 1) => ?_)
  · refine wa_iconst B 1 dX9_isFull_23 (by decide) ?_
    refine wa_goto B 28 dX9_isFull_24 (by decide) ?_
    exact hret _ _ _ _ dX9_isFull_28 (Or.inr rfl) ⟨rfl, (by have h9 : (1 : Int32).toInt = 1 := rfl; first | omega | (refine ⟨?_, ?_⟩ <;> omega) | trivial)⟩
  · refine wa_aload_n B dX9_isFull_8 rfl 0 rfl ?_
    refine wa_getR B (C := RX9) (T := TX9) (N := 7) iq_X9_isFull_X9 ha0 ka0 (by decide) rfl 1 (by decide) (by decide) (by decide +kernel) rfl (fun _ _ _ => rfl) (v := b0) eb0 dX9_isFull_9 ?_
    refine wa_aload_n B dX9_isFull_12 rfl 0 rfl ?_
    refine wa_getI B (C := RX9) (T := TX9) (N := 7) iq_X9_isFull_X9 ha0 ka0 (by decide) rfl 6 (by decide) (by decide) (by decide +kernel) rfl (by decide) (v := (q.1 a0 6)) rfl dX9_isFull_13 ?_
    refine wa_iconst B 1 dX9_isFull_16 (by decide) ?_
    refine wa_isub B dX9_isFull_17 (fun v_3 ev_3 => ?_)
    have tv_3 : v_3.toInt = (q.1 a0 6).toInt - 1 := by have b0 := zx_bd (q.1 a0 6); rw [ev_3]; exact zx_sub (show (-2147483648 : Int) ≤ (q.1 a0 6).toInt - 1 by omega) (show (q.1 a0 6).toInt - 1 < (2147483648 : Int) by omega)
    refine wa_iaload B hb0 kb0 (by decide) (by decide) (show 0 ≤ v_3.toInt by omega) (show v_3.toInt < (h.2.1 b0 : Int) by omega) (v := (q.2.2.2.1 b0 (v_3 : Int32).toNatClampNeg)) rfl dX9_isFull_18 ?_
    have g_4 : (0 : Int) ≤ ((q.2.2.2.1 b0 (v_3 : Int32).toNatClampNeg)).toInt ∧ ((q.2.2.2.1 b0 (v_3 : Int32).toNatClampNeg)).toInt ≤ 5 := hV.cnt hb0 kb0 _
    refine wa_iconst B 5 dX9_isFull_19 (by decide) ?_
    refine wa_icmp_lt B 27 dX9_isFull_20 (by decide) (fun (t_5 : ((q.2.2.2.1 b0 (v_3 : Int32).toNatClampNeg)).toInt < 5) => ?_) (fun (t_5 : ¬ ((q.2.2.2.1 b0 (v_3 : Int32).toNatClampNeg)).toInt < 5) => ?_)
    · have u9 : (q.2.2.2.1 b0 (q.1 a0 6 - 1).toNatClampNeg).toInt < 5 := by rw [← ev_3]; omega
      refine wa_iconst B 0 dX9_isFull_27 (by decide) ?_
      exact hret _ _ _ _ dX9_isFull_28 (Or.inl rfl) ⟨rfl, (by have h9 : (0 : Int32).toInt = 0 := rfl; first | omega | (refine ⟨?_, ?_⟩ <;> omega) | trivial)⟩
    · refine wa_iconst B 1 dX9_isFull_23 (by decide) ?_
      refine wa_goto B 28 dX9_isFull_24 (by decide) ?_
      exact hret _ _ _ _ dX9_isFull_28 (Or.inr rfl) ⟨rfl, (by have h9 : (1 : Int32).toInt = 1 := rfl; first | omega | (refine ⟨?_, ?_⟩ <;> omega) | trivial)⟩
theorem iq_X9_addSystem_X9 : ∀ w ∈ wsX90, w ∈ wsX9_addSystem := fun _ h => List.mem_cons_of_mem _ (List.mem_append_right _ h)
set_option maxHeartbeats 4000000 in
set_option maxRecDepth 100000 in
theorem k_X9_addSystem (l : Launch) (dC : Nat → ClassId) (dI : Nat → Nat → Nat) (h : Sh) (L : List Nat) (hN : sx_nd L) (q : Sg) (hV : sx_V h L q) {a0 : Nat} (ha0 : a0 ∈ L) (ka0 : h.1 a0 = 9) (n1 : Int64)   : CMv l dC dI h L yX9_addSystem wsX9_addSystem ({ frames := 0, cells := 0, slots := 0, locals := 0 } : Room) q [.ref a0, .long n1] (fun q' => sx_V h L q' ∧ sx_fr h L (fun a => a = a0 ∧ h.1 a = 9 ∨ h.1 a = 201) q q') := by
  refine cm_v (cc := cX9_addSystem) (mL := 3) (own := RX9) hN (by decide) rfl rfl (Nat.le_of_ble_eq_true rfl) (fun Z B hret => ?_)
  have hF : sx_fr h L (fun a => a = a0 ∧ h.1 a = 9 ∨ h.1 a = 201) q q := sx_fr.rf
  show WA l dC dI h L ({ frames := 0, cells := 0, slots := 0, locals := 0 } : Room) 3 Z q 0 [(0, .ref a0), (1, .long n1)] []
  refine wa_aload_n B dX9_addSystem_0 rfl 0 rfl ?_
  refine wa_getI B (C := RX9) (T := TX9) (N := 7) iq_X9_addSystem_X9 ha0 ka0 (by decide) rfl 6 (by decide) (by decide) (by decide +kernel) rfl (by decide) (v := (q.1 a0 6)) rfl dX9_addSystem_1 ?_
  have g_1 : (0 : Int) ≤ (q.1 a0 6).toInt ∧ (q.1 a0 6).toInt ≤ 3 := hV.int ha0 ka0 6
  refine wa_iconst B 3 dX9_addSystem_4 (by decide) ?_
  refine wa_icmp_ge B 28 dX9_addSystem_5 (by decide) (fun (t_2 : 3 ≤ (q.1 a0 6).toInt) => ?_) (fun (t_2 : ¬ 3 ≤ (q.1 a0 6).toInt) => ?_)
  · exact hret _ _ _ dX9_addSystem_28 ⟨hV, hF⟩
  · refine wa_aload_n B dX9_addSystem_8 rfl 0 rfl ?_
    obtain ⟨a_3, ea_3, ha_3, ka_3, la_3⟩ := hV.refn (n := 3) (t := 201) ha0 ka0 0 rfl (by decide) rfl (by decide)
    refine wa_getR B (C := RX9) (T := TX9) (N := 7) iq_X9_addSystem_X9 ha0 ka0 (by decide) rfl 0 (by decide) (by decide) (by decide +kernel) rfl (fun _ _ _ => rfl) (v := a_3) ea_3 dX9_addSystem_9 ?_
    refine wa_aload_n B dX9_addSystem_12 rfl 0 rfl ?_
    refine wa_getI B (C := RX9) (T := TX9) (N := 7) iq_X9_addSystem_X9 ha0 ka0 (by decide) rfl 6 (by decide) (by decide) (by decide +kernel) rfl (by decide) (v := (q.1 a0 6)) rfl dX9_addSystem_13 ?_
    refine wa_lload_n B dX9_addSystem_16 rfl 1 rfl ?_
    refine wa_lastore B ha_3 ka_3 (by decide) (by decide) (show 0 ≤ (q.1 a0 6).toInt by omega) (show (q.1 a0 6).toInt < (h.2.1 a_3 : Int) by omega) dX9_addSystem_17 (fun q_4 eq_4 => ?_)
    have hV_q_4 : sx_V h L q_4 := by rw [eq_4]; exact hV.pL
    have hF_q_4 : sx_fr h L (fun a => a = a0 ∧ h.1 a = 9 ∨ h.1 a = 201) q q_4 := hF.tr (by rw [eq_4]; exact sx_fr.pL (show h.1 a_3 = 200 ∨ (a_3 = a0 ∧ h.1 a_3 = 9 ∨ h.1 a_3 = 201) from by omega))
    have z_5 : q_4.2.2.2.2 a_3 ((q.1 a0 6) : Int32).toNatClampNeg = n1 := by rw [eq_4, sg_pL_e]; exact if_pos rfl
    refine wa_aload_n B dX9_addSystem_18 rfl 0 rfl ?_
    refine wa_dup B dX9_addSystem_19 rfl ?_
    have z_6 : q_4.1 a0 6 = q.1 a0 6 := (show q_4.1 a0 6 = q.1 a0 6 from by rw [eq_4]; rfl)
    refine wa_getI B (C := RX9) (T := TX9) (N := 7) iq_X9_addSystem_X9 ha0 ka0 (by decide) rfl 6 (by decide) (by decide) (by decide +kernel) rfl (by decide) (v := (q.1 a0 6)) z_6 dX9_addSystem_20 ?_
    refine wa_iconst B 1 dX9_addSystem_23 (by decide) ?_
    refine wa_iadd B dX9_addSystem_24 (fun v_7 ev_7 => ?_)
    have tv_7 : v_7.toInt = (q.1 a0 6).toInt + 1 := by have b0 := zx_bd (q.1 a0 6); rw [ev_7]; exact zx_add (show (-2147483648 : Int) ≤ (q.1 a0 6).toInt + 1 by omega) (show (q.1 a0 6).toInt + 1 < (2147483648 : Int) by omega)
    refine wa_putI B (C := RX9) (T := TX9) (N := 7) iq_X9_addSystem_X9 ha0 ka0 (by decide) rfl 6 (by decide) (by decide) (by decide +kernel) rfl (by decide) (v := v_7) (ty := .int) tyX9 tyX9_ok nmX9 rfl (by decide +kernel) rfl rfl dX9_addSystem_25 (fun q_8 eq_8 => ?_)
    have hV_q_8 : sx_V h L q_8 := by rw [eq_8]; exact hV_q_4.pI ka0 (show sx_in v_7 (0) 3 from ⟨by omega, by omega⟩)
    have hF_q_8 : sx_fr h L (fun a => a = a0 ∧ h.1 a = 9 ∨ h.1 a = 201) q q_8 := hF_q_4.tr (by rw [eq_8]; exact sx_fr.pI (show a0 = a0 ∧ h.1 a0 = 9 ∨ h.1 a0 = 201 from by omega))
    have z_9 : q_8.1 a0 6 = v_7 := by rw [eq_8]; exact sg_pI_e
    exact hret _ _ _ dX9_addSystem_28 ⟨hV_q_8, hF_q_8⟩
set_option maxHeartbeats 4000000 in
set_option maxRecDepth 100000 in
theorem k_J7_fill_53178 (l : Launch) (dC : Nat → ClassId) (dI : Nat → Nat → Nat) (h : Sh) (L : List Nat) (hN : sx_nd L) (q : Sg) (hV : sx_V h L q) {a0 : Nat} (ha0 : a0 ∈ L) {Ka0 : Nat} (ka0 : h.1 a0 = Ka0) (n1 : Int32)  (h1K : 13 ≤ Ka0) (h2K : Ka0 < 200) (hE : sx_E Ka0 n1) : CMv l dC dI h L yJ7_fill_53178 wsJ7_fill_53178 ({ frames := 0, cells := 0, slots := 0, locals := 0 } : Room) q [.ref a0, .int n1] (fun q' => sx_V h L q' ∧ sx_fr h L (fun a => a = a0 ∧ h.1 a = Ka0 ∧ ¬ Ka0 = 100) q q') := by
  refine cm_v (cc := cJ7_fill_53178) (mL := 4) (own := RJ7) hN (by decide) rfl rfl (Nat.le_of_ble_eq_true rfl) (fun Z B hret => ?_)
  have hF : sx_fr h L (fun a => a = a0 ∧ h.1 a = Ka0 ∧ ¬ Ka0 = 100) q q := sx_fr.rf
  show WA l dC dI h L ({ frames := 0, cells := 0, slots := 0, locals := 0 } : Room) 4 Z q 0 [(0, .ref a0), (1, .int n1)] []
  refine wa_iconst B 0 dJ7_fill_53178_0 (by decide) ?_
  refine wa_istore_n B [(2, .int 0), (0, .ref a0), (1, .int n1)] dJ7_fill_53178_1 rfl (by decide) rfl ?_
  refine wa_aload_n B dJ7_fill_53178_2 rfl 1 rfl ?_
  refine wa_alenI B ha0 ka0 h1K h2K dJ7_fill_53178_3 (fun v_1 ev_1 => ?_)
  have gv_1 : v_1.toInt = (h.2.1 a0 : Int) := by rw [ev_1]; exact zx_len (hV.len ha0)
  have l_2 : h.2.1 a0 ≤ 5000 := hV.len ha0
  refine wa_istore_n B [(3, .int v_1), (2, .int 0), (0, .ref a0), (1, .int n1)] dJ7_fill_53178_4 rfl (by decide) rfl ?_
  have Lp_5_6 : ∀ (n : Nat) (v_3 : Int32) (q_4 : Sg), sx_V h L q_4 → sx_fr h L (fun a => a = a0 ∧ h.1 a = Ka0 ∧ ¬ Ka0 = 100) q q_4 → 0 ≤ v_3.toInt → (v_1.toInt - v_3.toInt : Int).toNat < n → WA l dC dI h L ({ frames := 0, cells := 0, slots := 0, locals := 0 } : Room) 4 Z q_4 5 [(3, .int v_1), (2, .int v_3), (0, .ref a0), (1, .int n1)] [] := by
    intro n
    induction n with
    | zero =>
      intro v_3 q_4 hV_q_4 hF_q_4 x_5 hn
      exact absurd hn (Nat.not_lt_zero _)
    | succ n ih_7 =>
      intro v_3 q_4 hV_q_4 hF_q_4 x_5 hn
      refine wa_iload_n B dJ7_fill_53178_5 rfl 1 rfl ?_
      refine wa_iload_n B dJ7_fill_53178_6 rfl 0 rfl ?_
      refine wa_icmp_ge B 20 dJ7_fill_53178_7 (by decide) (fun (t_8 : v_1.toInt ≤ v_3.toInt) => ?_) (fun (t_8 : ¬ v_1.toInt ≤ v_3.toInt) => ?_)
      · exact hret _ _ _ dJ7_fill_53178_20 ⟨hV_q_4, hF_q_4⟩
      · refine wa_aload_n B dJ7_fill_53178_10 rfl 2 rfl ?_
        refine wa_iload_n B dJ7_fill_53178_11 rfl 1 rfl ?_
        refine wa_iload_n B dJ7_fill_53178_12 rfl 3 rfl ?_
        refine wa_iastore B ha0 ka0 h1K h2K (show 0 ≤ v_3.toInt by omega) (show v_3.toInt < (h.2.1 a0 : Int) by omega) dJ7_fill_53178_13 (fun q_9 eq_9 => ?_)
        have hV_q_9 : sx_V h L q_9 := by rw [eq_9]; exact hV_q_4.up1 ha0 ka0 (by assumption)
        have hF_q_9 : sx_fr h L (fun a => a = a0 ∧ h.1 a = Ka0 ∧ ¬ Ka0 = 100) q q_9 := hF_q_4.tr (by rw [eq_9]; exact sx_fr.pG (show h.1 a0 = 100 ∨ (a0 = a0 ∧ h.1 a0 = Ka0 ∧ ¬ Ka0 = 100) from by omega))
        have z_10 : q_9.2.2.2.1 a0 (v_3 : Int32).toNatClampNeg = n1 := by rw [eq_9, sg_pG_e]; exact if_pos rfl
        obtain ⟨v_11, ev_11⟩ : ∃ z : Int32, z = v_3 + 1 := ⟨_, rfl⟩
        refine wa_iinc B [(2, .int v_11), (3, .int v_1), (0, .ref a0), (1, .int n1)] v_11 dJ7_fill_53178_14 1 rfl (by rw [ev_11]; rfl) (by decide) rfl ?_
        refine wa_goto B 5 dJ7_fill_53178_17 (by decide) ?_
        have tv_11 : v_11.toInt = v_3.toInt + 1 := by have b0 := zx_bd v_3; rw [ev_11]; exact zx_add (show (-2147483648 : Int) ≤ v_3.toInt + 1 by omega) (show v_3.toInt + 1 < (2147483648 : Int) by omega)
        refine WA.sub [1, 0, 2, 3] rfl ?_
        exact ih_7 v_11 q_9 hV_q_9 hF_q_9 (show 0 ≤ v_11.toInt from by first | assumption | omega | decide) (show (v_1.toInt - v_11.toInt : Int).toNat < _ from by omega)
  exact Lp_5_6 _ 0 q hV hF (show 0 ≤ 0 from by first | assumption | omega | decide) (Nat.lt_succ_self _)
set_option maxHeartbeats 4000000 in
set_option maxRecDepth 100000 in
theorem k_J7_fill_d0a16 (l : Launch) (dC : Nat → ClassId) (dI : Nat → Nat → Nat) (h : Sh) (L : List Nat) (hN : sx_nd L) (q : Sg) (hV : sx_V h L q) {a0 : Nat} (ha0 : a0 ∈ L) {Ka0 : Nat} (ka0 : h.1 a0 = Ka0) (n1 : Int64)  (h1K : 200 ≤ Ka0) (h2K : Ka0 < 300) : CMv l dC dI h L yJ7_fill_d0a16 wsJ7_fill_d0a16 ({ frames := 0, cells := 0, slots := 0, locals := 0 } : Room) q [.ref a0, .long n1] (fun q' => sx_V h L q' ∧ sx_fr h L (fun a => a = a0 ∧ h.1 a = Ka0) q q') := by
  refine cm_v (cc := cJ7_fill_d0a16) (mL := 5) (own := RJ7) hN (by decide) rfl rfl (Nat.le_of_ble_eq_true rfl) (fun Z B hret => ?_)
  have hF : sx_fr h L (fun a => a = a0 ∧ h.1 a = Ka0) q q := sx_fr.rf
  show WA l dC dI h L ({ frames := 0, cells := 0, slots := 0, locals := 0 } : Room) 5 Z q 0 [(0, .ref a0), (1, .long n1)] []
  refine wa_iconst B 0 dJ7_fill_d0a16_0 (by decide) ?_
  refine wa_istore_n B [(3, .int 0), (0, .ref a0), (1, .long n1)] dJ7_fill_d0a16_1 rfl (by decide) rfl ?_
  refine wa_aload_n B dJ7_fill_d0a16_2 rfl 1 rfl ?_
  refine wa_alenL B ha0 ka0 h1K h2K dJ7_fill_d0a16_3 (fun v_1 ev_1 => ?_)
  have gv_1 : v_1.toInt = (h.2.1 a0 : Int) := by rw [ev_1]; exact zx_len (hV.len ha0)
  have l_2 : h.2.1 a0 ≤ 5000 := hV.len ha0
  refine wa_istore B [(4, .int v_1), (3, .int 0), (0, .ref a0), (1, .long n1)] dJ7_fill_d0a16_4 (by decide) rfl ?_
  have Lp_6_6 : ∀ (n : Nat) (v_3 : Int32) (q_4 : Sg), sx_V h L q_4 → sx_fr h L (fun a => a = a0 ∧ h.1 a = Ka0) q q_4 → 0 ≤ v_3.toInt → (v_1.toInt - v_3.toInt : Int).toNat < n → WA l dC dI h L ({ frames := 0, cells := 0, slots := 0, locals := 0 } : Room) 5 Z q_4 6 [(4, .int v_1), (3, .int v_3), (0, .ref a0), (1, .long n1)] [] := by
    intro n
    induction n with
    | zero =>
      intro v_3 q_4 hV_q_4 hF_q_4 x_5 hn
      exact absurd hn (Nat.not_lt_zero _)
    | succ n ih_7 =>
      intro v_3 q_4 hV_q_4 hF_q_4 x_5 hn
      refine wa_iload_n B dJ7_fill_d0a16_6 rfl 1 rfl ?_
      refine wa_iload B dJ7_fill_d0a16_7 0 rfl ?_
      refine wa_icmp_ge B 22 dJ7_fill_d0a16_9 (by decide) (fun (t_8 : v_1.toInt ≤ v_3.toInt) => ?_) (fun (t_8 : ¬ v_1.toInt ≤ v_3.toInt) => ?_)
      · exact hret _ _ _ dJ7_fill_d0a16_22 ⟨hV_q_4, hF_q_4⟩
      · refine wa_aload_n B dJ7_fill_d0a16_12 rfl 2 rfl ?_
        refine wa_iload_n B dJ7_fill_d0a16_13 rfl 1 rfl ?_
        refine wa_lload_n B dJ7_fill_d0a16_14 rfl 3 rfl ?_
        refine wa_lastore B ha0 ka0 h1K h2K (show 0 ≤ v_3.toInt by omega) (show v_3.toInt < (h.2.1 a0 : Int) by omega) dJ7_fill_d0a16_15 (fun q_9 eq_9 => ?_)
        have hV_q_9 : sx_V h L q_9 := by rw [eq_9]; exact hV_q_4.pL
        have hF_q_9 : sx_fr h L (fun a => a = a0 ∧ h.1 a = Ka0) q q_9 := hF_q_4.tr (by rw [eq_9]; exact sx_fr.pL (show h.1 a0 = 200 ∨ (a0 = a0 ∧ h.1 a0 = Ka0) from by omega))
        have z_10 : q_9.2.2.2.2 a0 (v_3 : Int32).toNatClampNeg = n1 := by rw [eq_9, sg_pL_e]; exact if_pos rfl
        obtain ⟨v_11, ev_11⟩ : ∃ z : Int32, z = v_3 + 1 := ⟨_, rfl⟩
        refine wa_iinc B [(3, .int v_11), (4, .int v_1), (0, .ref a0), (1, .long n1)] v_11 dJ7_fill_d0a16_16 1 rfl (by rw [ev_11]; rfl) (by decide) rfl ?_
        refine wa_goto B 6 dJ7_fill_d0a16_19 (by decide) ?_
        have tv_11 : v_11.toInt = v_3.toInt + 1 := by have b0 := zx_bd v_3; rw [ev_11]; exact zx_add (show (-2147483648 : Int) ≤ v_3.toInt + 1 by omega) (show v_3.toInt + 1 < (2147483648 : Int) by omega)
        refine WA.sub [1, 0, 2, 3] rfl ?_
        exact ih_7 v_11 q_9 hV_q_9 hF_q_9 (show 0 ≤ v_11.toInt from by first | assumption | omega | decide) (show (v_1.toInt - v_11.toInt : Int).toNat < _ from by omega)
  exact Lp_6_6 _ 0 q hV hF (show 0 ≤ 0 from by first | assumption | omega | decide) (Nat.lt_succ_self _)
theorem iq_X9_clear_X9 : ∀ w ∈ wsX90, w ∈ wsX9_clear := fun _ h => List.mem_cons_of_mem _ (List.mem_append_right _ h)
set_option maxHeartbeats 4000000 in
set_option maxRecDepth 100000 in
theorem k_X9_clear (l : Launch) (dC : Nat → ClassId) (dI : Nat → Nat → Nat) (h : Sh) (L : List Nat) (hN : sx_nd L) (q : Sg) (hV : sx_V h L q) {a0 : Nat} (ha0 : a0 ∈ L) (ka0 : h.1 a0 = 9)   : CMv l dC dI h L yX9_clear wsX9_clear ({ frames := 1, cells := 0, slots := 0, locals := 24 } : Room) q [.ref a0] (fun q' => sx_V h L q' ∧ sx_fr h L (fun a => a = a0 ∧ h.1 a = 9 ∨ h.1 a = 201 ∨ h.1 a = 101 ∨ h.1 a = 202) q q') := by
  refine cm_v (cc := cX9_clear) (mL := 1) (own := RX9) hN (by decide) rfl rfl (Nat.le_of_ble_eq_true rfl) (fun Z B hret => ?_)
  have hF : sx_fr h L (fun a => a = a0 ∧ h.1 a = 9 ∨ h.1 a = 201 ∨ h.1 a = 101 ∨ h.1 a = 202) q q := sx_fr.rf
  show WA l dC dI h L ({ frames := 1, cells := 0, slots := 0, locals := 24 } : Room) 1 Z q 0 [(0, .ref a0)] []
  refine wa_aload_n B dX9_clear_0 rfl 0 rfl ?_
  refine wa_iconst B 0 dX9_clear_1 (by decide) ?_
  refine wa_putI B (C := RX9) (T := TX9) (N := 7) iq_X9_clear_X9 ha0 ka0 (by decide) rfl 6 (by decide) (by decide) (by decide +kernel) rfl (by decide) (v := 0) (ty := .int) tyX9 tyX9_ok nmX9 rfl (by decide +kernel) rfl rfl dX9_clear_2 (fun q_1 eq_1 => ?_)
  have hV_q_1 : sx_V h L q_1 := by rw [eq_1]; exact hV.pI ka0 (show sx_in 0 (0) 3 from ⟨by decide, by decide⟩)
  have hF_q_1 : sx_fr h L (fun a => a = a0 ∧ h.1 a = 9 ∨ h.1 a = 201 ∨ h.1 a = 101 ∨ h.1 a = 202) q q_1 := hF.tr (by rw [eq_1]; exact sx_fr.pI (show a0 = a0 ∧ h.1 a0 = 9 ∨ h.1 a0 = 201 ∨ h.1 a0 = 101 ∨ h.1 a0 = 202 from by omega))
  have z_2 : q_1.1 a0 6 = 0 := by rw [eq_1]; exact sg_pI_e
  refine wa_aload_n B dX9_clear_5 rfl 0 rfl ?_
  obtain ⟨a_3, ea_3, ha_3, ka_3, la_3⟩ := hV_q_1.refn (n := 3) (t := 201) ha0 ka0 0 rfl (by decide) rfl (by decide)
  refine wa_getR B (C := RX9) (T := TX9) (N := 7) iq_X9_clear_X9 ha0 ka0 (by decide) rfl 0 (by decide) (by decide) (by decide +kernel) rfl (fun _ _ _ => rfl) (v := a_3) ea_3 dX9_clear_6 ?_
  refine wa_lconst B 0 dX9_clear_9 (by decide) ?_
  refine wa_callSv B (As := [.ref a_3, .long 0]) (rest := []) (k_J7_fill_d0a16 l dC dI h L hN q_1 hV_q_1 (a0 := a_3) ha_3 ka_3 0  (by first | assumption | omega | decide) (by first | assumption | omega | decide)) (va_cwS 2 B.1.2.2.2.2 gX9_clear_J7_fill_d0a16 rfl rfl rfl (by decide +kernel) ⟨Nat.le_of_ble_eq_true rfl, Nat.le_of_ble_eq_true rfl⟩) rfl rfl (Nat.le_of_ble_eq_true rfl) dX9_clear_10 (fun q_4 w_5 => ?_)
  obtain ⟨hV_q_4, h2_q_4⟩ := w_5
  have hF_q_4 : sx_fr h L (fun a => a = a0 ∧ h.1 a = 9 ∨ h.1 a = 201 ∨ h.1 a = 101 ∨ h.1 a = 202) q q_4 := hF_q_1.tr (h2_q_4.mono (fun a (z : a = a_3 ∧ h.1 a = 201) => (show a = a0 ∧ h.1 a = 9 ∨ h.1 a = 201 ∨ h.1 a = 101 ∨ h.1 a = 202 from by omega)))
  refine wa_aload_n B dX9_clear_13 rfl 0 rfl ?_
  obtain ⟨a_6, ea_6, ha_6, ka_6, la_6⟩ := hV_q_4.refn (n := 3) (t := 101) ha0 ka0 1 rfl (by decide) rfl (by decide)
  refine wa_getR B (C := RX9) (T := TX9) (N := 7) iq_X9_clear_X9 ha0 ka0 (by decide) rfl 1 (by decide) (by decide) (by decide +kernel) rfl (fun _ _ _ => rfl) (v := a_6) ea_6 dX9_clear_14 ?_
  refine wa_iconst B 0 dX9_clear_17 (by decide) ?_
  refine wa_callSv B (As := [.ref a_6, .int 0]) (rest := []) (k_J7_fill_53178 l dC dI h L hN q_4 hV_q_4 (a0 := a_6) ha_6 ka_6 0  (by first | assumption | omega | decide) (by first | assumption | omega | decide) (show sx_E 101 0 from ⟨by decide, by decide⟩)) (va_cwS 2 B.1.2.2.2.2 gX9_clear_J7_fill_53178 rfl rfl rfl (by decide +kernel) ⟨Nat.le_of_ble_eq_true rfl, Nat.le_of_ble_eq_true rfl⟩) rfl rfl (Nat.le_of_ble_eq_true rfl) dX9_clear_18 (fun q_7 w_8 => ?_)
  obtain ⟨hV_q_7, h2_q_7⟩ := w_8
  have hF_q_7 : sx_fr h L (fun a => a = a0 ∧ h.1 a = 9 ∨ h.1 a = 201 ∨ h.1 a = 101 ∨ h.1 a = 202) q q_7 := hF_q_4.tr (h2_q_7.mono (fun a (z : a = a_6 ∧ h.1 a = 101 ∧ ¬ 101 = 100) => (show a = a0 ∧ h.1 a = 9 ∨ h.1 a = 201 ∨ h.1 a = 101 ∨ h.1 a = 202 from by omega)))
  refine wa_aload_n B dX9_clear_21 rfl 0 rfl ?_
  obtain ⟨a_9, ea_9, ha_9, ka_9, la_9⟩ := hV_q_7.refn (n := 15) (t := 202) ha0 ka0 2 rfl (by decide) rfl (by decide)
  refine wa_getR B (C := RX9) (T := TX9) (N := 7) iq_X9_clear_X9 ha0 ka0 (by decide) rfl 2 (by decide) (by decide) (by decide +kernel) rfl (fun _ _ _ => rfl) (v := a_9) ea_9 dX9_clear_22 ?_
  refine wa_lconst B 0 dX9_clear_25 (by decide) ?_
  refine wa_callSv B (As := [.ref a_9, .long 0]) (rest := []) (k_J7_fill_d0a16 l dC dI h L hN q_7 hV_q_7 (a0 := a_9) ha_9 ka_9 0  (by first | assumption | omega | decide) (by first | assumption | omega | decide)) (va_cwS 2 B.1.2.2.2.2 gX9_clear_J7_fill_d0a16 rfl rfl rfl (by decide +kernel) ⟨Nat.le_of_ble_eq_true rfl, Nat.le_of_ble_eq_true rfl⟩) rfl rfl (Nat.le_of_ble_eq_true rfl) dX9_clear_26 (fun q_10 w_11 => ?_)
  obtain ⟨hV_q_10, h2_q_10⟩ := w_11
  have hF_q_10 : sx_fr h L (fun a => a = a0 ∧ h.1 a = 9 ∨ h.1 a = 201 ∨ h.1 a = 101 ∨ h.1 a = 202) q q_10 := hF_q_7.tr (h2_q_10.mono (fun a (z : a = a_9 ∧ h.1 a = 202) => (show a = a0 ∧ h.1 a = 9 ∨ h.1 a = 201 ∨ h.1 a = 101 ∨ h.1 a = 202 from by omega)))
  exact hret _ _ _ dX9_clear_29 ⟨hV_q_10, hF_q_10⟩
theorem iq_X9_addUnit_X9 : ∀ w ∈ wsX90, w ∈ wsX9_addUnit := fun _ h => List.mem_cons_of_mem _ (List.mem_append_right _ h)
set_option maxHeartbeats 4000000 in
set_option maxRecDepth 100000 in
theorem k_X9_addUnit (l : Launch) (dC : Nat → ClassId) (dI : Nat → Nat → Nat) (h : Sh) (L : List Nat) (hN : sx_nd L) (q : Sg) (hV : sx_V h L q) {a0 : Nat} (ha0 : a0 ∈ L) (ka0 : h.1 a0 = 9) (n1 : Int64) (n2 : Int32)   : CMv l dC dI h L yX9_addUnit wsX9_addUnit ({ frames := 1, cells := 0, slots := 0, locals := 21 } : Room) q [.ref a0, .long n1, .int n2] (fun q' => sx_V h L q' ∧ sx_fr h L (fun a => h.1 a = 202 ∨ h.1 a = 102 ∨ h.1 a = 103 ∨ h.1 a = 104 ∨ h.1 a = 101) q q') := by
  refine cm_v (cc := cX9_addUnit) (mL := 6) (own := RX9) hN (by decide) rfl rfl (Nat.le_of_ble_eq_true rfl) (fun Z B hret => ?_)
  have hF : sx_fr h L (fun a => h.1 a = 202 ∨ h.1 a = 102 ∨ h.1 a = 103 ∨ h.1 a = 104 ∨ h.1 a = 101) q q := sx_fr.rf
  show WA l dC dI h L ({ frames := 1, cells := 0, slots := 0, locals := 21 } : Room) 6 Z q 0 [(0, .ref a0), (1, .long n1), (3, .int n2)] []
  refine wa_aload_n B dX9_addUnit_0 rfl 0 rfl ?_
  obtain ⟨a_1, ea_1, ha_1, ka_1, la_1⟩ := hV.refn (n := 3) (t := 101) ha0 ka0 1 rfl (by decide) rfl (by decide)
  refine wa_callVi B (x := (RX9, TX9, 7)) (As := []) (rest := []) (k_X9_isFull l dC dI h L hN q hV (a0 := a0) ha0 ka0 (b0 := a_1) ea_1  ) (cwV 0 B.1.2.2.2.2 gX9_addUnit_X9_isFull rfl rfl rfl (by decide +kernel) ⟨Nat.le_of_ble_eq_true rfl, Nat.le_of_ble_eq_true rfl⟩) ha0 ka0 (by decide) rfl rfl rfl (Nat.le_of_ble_eq_true rfl) dX9_addUnit_1 (fun r_3 q_2 w_4 => ?_)
  obtain ⟨ew_4, hw_4⟩ := w_4
  subst ew_4
  refine wa_if_eq B 8 dX9_addUnit_4 (by decide) (fun (t_5 : r_3.toInt = 0) => ?_) (fun (t_5 : ¬ r_3.toInt = 0) => ?_)
  · refine wa_aload_n B dX9_addUnit_8 rfl 0 rfl ?_
    refine wa_getI B (C := RX9) (T := TX9) (N := 7) iq_X9_addUnit_X9 ha0 ka0 (by decide) rfl 6 (by decide) (by decide) (by decide +kernel) rfl (by decide) (v := (q.1 a0 6)) rfl dX9_addUnit_9 ?_
    have g_6 : (0 : Int) ≤ (q.1 a0 6).toInt ∧ (q.1 a0 6).toInt ≤ 3 := hV.int ha0 ka0 6
    refine wa_iconst B 1 dX9_addUnit_12 (by decide) ?_
    refine wa_isub B dX9_addUnit_13 (fun v_7 ev_7 => ?_)
    refine wa_istore B [(4, .int v_7), (0, .ref a0), (1, .long n1), (3, .int n2)] dX9_addUnit_14 (by decide) rfl ?_
    rw [← ev_7] at hw_4
    refine wa_iload B dX9_addUnit_16 0 rfl ?_
    refine wa_aload_n B dX9_addUnit_18 rfl 1 rfl ?_
    refine wa_getR B (C := RX9) (T := TX9) (N := 7) iq_X9_addUnit_X9 ha0 ka0 (by decide) rfl 1 (by decide) (by decide) (by decide +kernel) rfl (fun _ _ _ => rfl) (v := a_1) ea_1 dX9_addUnit_19 ?_
    refine wa_iload B dX9_addUnit_22 0 rfl ?_
    have tv_7 : v_7.toInt = (q.1 a0 6).toInt - 1 := by have b0 := zx_bd (q.1 a0 6); rw [ev_7]; exact zx_sub (show (-2147483648 : Int) ≤ (q.1 a0 6).toInt - 1 by omega) (show (q.1 a0 6).toInt - 1 < (2147483648 : Int) by omega)
    refine wa_iaload B ha_1 ka_1 (by decide) (by decide) (show 0 ≤ v_7.toInt by omega) (show v_7.toInt < (h.2.1 a_1 : Int) by omega) (v := (q.2.2.2.1 a_1 (v_7 : Int32).toNatClampNeg)) rfl dX9_addUnit_24 ?_
    have g_8 : (0 : Int) ≤ ((q.2.2.2.1 a_1 (v_7 : Int32).toNatClampNeg)).toInt ∧ ((q.2.2.2.1 a_1 (v_7 : Int32).toNatClampNeg)).toInt ≤ 5 := hV.cnt ha_1 ka_1 _
    refine wa_callSi B (As := [.int v_7, .int ((q.2.2.2.1 a_1 (v_7 : Int32).toNatClampNeg))]) (rest := []) (k_X9_slot l dC dI h L hN q hV v_7 ((q.2.2.2.1 a_1 (v_7 : Int32).toNatClampNeg))  (by first | assumption | omega | decide) (by first | assumption | omega | decide) (by first | assumption | omega | decide) (by first | assumption | omega | decide)) (va_cwS 2 B.1.2.2.2.2 gX9_addUnit_X9_slot rfl rfl rfl (by decide +kernel) ⟨Nat.le_of_ble_eq_true rfl, Nat.le_of_ble_eq_true rfl⟩) rfl rfl (Nat.le_of_ble_eq_true rfl) dX9_addUnit_25 (fun r_10 q_9 w_11 => ?_)
    obtain ⟨ew_11, hw_11⟩ := w_11
    subst ew_11
    refine wa_istore B [(5, .int r_10), (4, .int v_7), (0, .ref a0), (1, .long n1), (3, .int n2)] dX9_addUnit_28 (by decide) rfl ?_
    refine wa_aload_n B dX9_addUnit_30 rfl 2 rfl ?_
    obtain ⟨a_12, ea_12, ha_12, ka_12, la_12⟩ := hV.refn (n := 15) (t := 202) ha0 ka0 2 rfl (by decide) rfl (by decide)
    refine wa_getR B (C := RX9) (T := TX9) (N := 7) iq_X9_addUnit_X9 ha0 ka0 (by decide) rfl 2 (by decide) (by decide) (by decide +kernel) rfl (fun _ _ _ => rfl) (v := a_12) ea_12 dX9_addUnit_31 ?_
    refine wa_iload B dX9_addUnit_34 0 rfl ?_
    refine wa_lload_n B dX9_addUnit_36 rfl 3 rfl ?_
    refine wa_lastore B ha_12 ka_12 (by decide) (by decide) (show 0 ≤ r_10.toInt by omega) (show r_10.toInt < (h.2.1 a_12 : Int) by omega) dX9_addUnit_37 (fun q_13 eq_13 => ?_)
    have hV_q_13 : sx_V h L q_13 := by rw [eq_13]; exact hV.pL
    have hF_q_13 : sx_fr h L (fun a => h.1 a = 202 ∨ h.1 a = 102 ∨ h.1 a = 103 ∨ h.1 a = 104 ∨ h.1 a = 101) q q_13 := hF.tr (by rw [eq_13]; exact sx_fr.pL (show h.1 a_12 = 200 ∨ (h.1 a_12 = 202 ∨ h.1 a_12 = 102 ∨ h.1 a_12 = 103 ∨ h.1 a_12 = 104 ∨ h.1 a_12 = 101) from by omega))
    have z_14 : q_13.2.2.2.2 a_12 (r_10 : Int32).toNatClampNeg = n1 := by rw [eq_13, sg_pL_e]; exact if_pos rfl
    refine wa_aload_n B dX9_addUnit_38 rfl 2 rfl ?_
    obtain ⟨a_15, ea_15, ha_15, ka_15, la_15⟩ := hV_q_13.refn (n := 15) (t := 102) ha0 ka0 3 rfl (by decide) rfl (by decide)
    refine wa_getR B (C := RX9) (T := TX9) (N := 7) iq_X9_addUnit_X9 ha0 ka0 (by decide) rfl 3 (by decide) (by decide) (by decide +kernel) rfl (fun _ _ _ => rfl) (v := a_15) ea_15 dX9_addUnit_39 ?_
    refine wa_iload B dX9_addUnit_42 0 rfl ?_
    refine wa_iload_n B dX9_addUnit_44 rfl 4 rfl ?_
    refine wa_iastore B ha_15 ka_15 (by decide) (by decide) (show 0 ≤ r_10.toInt by omega) (show r_10.toInt < (h.2.1 a_15 : Int) by omega) dX9_addUnit_45 (fun q_16 eq_16 => ?_)
    have hV_q_16 : sx_V h L q_16 := by rw [eq_16]; exact hV_q_13.up1 ha_15 ka_15 trivial
    have hF_q_16 : sx_fr h L (fun a => h.1 a = 202 ∨ h.1 a = 102 ∨ h.1 a = 103 ∨ h.1 a = 104 ∨ h.1 a = 101) q q_16 := hF_q_13.tr (by rw [eq_16]; exact sx_fr.pG (show h.1 a_15 = 100 ∨ (h.1 a_15 = 202 ∨ h.1 a_15 = 102 ∨ h.1 a_15 = 103 ∨ h.1 a_15 = 104 ∨ h.1 a_15 = 101) from by omega))
    have z_17 : q_16.2.2.2.1 a_15 (r_10 : Int32).toNatClampNeg = n2 := by rw [eq_16, sg_pG_e]; exact if_pos rfl
    refine wa_aload_n B dX9_addUnit_46 rfl 2 rfl ?_
    obtain ⟨a_18, ea_18, ha_18, ka_18, la_18⟩ := hV_q_16.refn (n := 15) (t := 103) ha0 ka0 4 rfl (by decide) rfl (by decide)
    refine wa_getR B (C := RX9) (T := TX9) (N := 7) iq_X9_addUnit_X9 ha0 ka0 (by decide) rfl 4 (by decide) (by decide) (by decide +kernel) rfl (fun _ _ _ => rfl) (v := a_18) ea_18 dX9_addUnit_47 ?_
    refine wa_iload B dX9_addUnit_50 0 rfl ?_
    refine wa_iconst B 1 dX9_addUnit_52 (by decide) ?_
    refine wa_iastore B ha_18 ka_18 (by decide) (by decide) (show 0 ≤ r_10.toInt by omega) (show r_10.toInt < (h.2.1 a_18 : Int) by omega) dX9_addUnit_53 (fun q_19 eq_19 => ?_)
    have hV_q_19 : sx_V h L q_19 := by rw [eq_19]; exact hV_q_16.up1 ha_18 ka_18 trivial
    have hF_q_19 : sx_fr h L (fun a => h.1 a = 202 ∨ h.1 a = 102 ∨ h.1 a = 103 ∨ h.1 a = 104 ∨ h.1 a = 101) q q_19 := hF_q_16.tr (by rw [eq_19]; exact sx_fr.pG (show h.1 a_18 = 100 ∨ (h.1 a_18 = 202 ∨ h.1 a_18 = 102 ∨ h.1 a_18 = 103 ∨ h.1 a_18 = 104 ∨ h.1 a_18 = 101) from by omega))
    have z_20 : q_19.2.2.2.1 a_18 (r_10 : Int32).toNatClampNeg = 1 := by rw [eq_19, sg_pG_e]; exact if_pos rfl
    refine wa_aload_n B dX9_addUnit_54 rfl 2 rfl ?_
    obtain ⟨a_21, ea_21, ha_21, ka_21, la_21⟩ := hV_q_19.refn (n := 15) (t := 104) ha0 ka0 5 rfl (by decide) rfl (by decide)
    refine wa_getR B (C := RX9) (T := TX9) (N := 7) iq_X9_addUnit_X9 ha0 ka0 (by decide) rfl 5 (by decide) (by decide) (by decide +kernel) rfl (fun _ _ _ => rfl) (v := a_21) ea_21 dX9_addUnit_55 ?_
    refine wa_iload B dX9_addUnit_58 0 rfl ?_
    refine wa_bipush B 99 dX9_addUnit_60 (by decide) ?_
    refine wa_iastore B ha_21 ka_21 (by decide) (by decide) (show 0 ≤ r_10.toInt by omega) (show r_10.toInt < (h.2.1 a_21 : Int) by omega) dX9_addUnit_62 (fun q_22 eq_22 => ?_)
    have hV_q_22 : sx_V h L q_22 := by rw [eq_22]; exact hV_q_19.up1 ha_21 ka_21 trivial
    have hF_q_22 : sx_fr h L (fun a => h.1 a = 202 ∨ h.1 a = 102 ∨ h.1 a = 103 ∨ h.1 a = 104 ∨ h.1 a = 101) q q_22 := hF_q_19.tr (by rw [eq_22]; exact sx_fr.pG (show h.1 a_21 = 100 ∨ (h.1 a_21 = 202 ∨ h.1 a_21 = 102 ∨ h.1 a_21 = 103 ∨ h.1 a_21 = 104 ∨ h.1 a_21 = 101) from by omega))
    have z_23 : q_22.2.2.2.1 a_21 (r_10 : Int32).toNatClampNeg = 99 := by rw [eq_22, sg_pG_e]; exact if_pos rfl
    refine wa_aload_n B dX9_addUnit_63 rfl 2 rfl ?_
    have z_24 : q_22.2.2.1 a0 1 = a_1 := ((show q_22.2.2.1 a0 1 = q_19.2.2.1 a0 1 from by rw [eq_22]; rfl)).trans (((show q_19.2.2.1 a0 1 = q_16.2.2.1 a0 1 from by rw [eq_19]; rfl)).trans (((show q_16.2.2.1 a0 1 = q_13.2.2.1 a0 1 from by rw [eq_16]; rfl)).trans (((show q_13.2.2.1 a0 1 = q.2.2.1 a0 1 from by rw [eq_13]; rfl)).trans (ea_1))))
    refine wa_getR B (C := RX9) (T := TX9) (N := 7) iq_X9_addUnit_X9 ha0 ka0 (by decide) rfl 1 (by decide) (by decide) (by decide +kernel) rfl (fun _ _ _ => rfl) (v := a_1) z_24 dX9_addUnit_64 ?_
    refine wa_iload B dX9_addUnit_67 1 rfl ?_
    have z_25 : q_22.2.2.2.1 a_1 (v_7 : Int32).toNatClampNeg = (q.2.2.2.1 a_1 (v_7 : Int32).toNatClampNeg) := (congrFun (((show q_22.2.2.2.1 a_1 = q_19.2.2.2.1 a_1 from by rw [eq_22]; exact sg_pG_a (sx_ka h ka_1 ka_21 (by decide)))).trans (((show q_19.2.2.2.1 a_1 = q_16.2.2.2.1 a_1 from by rw [eq_19]; exact sg_pG_a (sx_ka h ka_1 ka_18 (by decide)))).trans (((show q_16.2.2.2.1 a_1 = q_13.2.2.2.1 a_1 from by rw [eq_16]; exact sg_pG_a (sx_ka h ka_1 ka_15 (by decide)))).trans ((show q_13.2.2.2.1 a_1 = q.2.2.2.1 a_1 from by rw [eq_13]; rfl))))) _).trans rfl
    refine wa_iaload B ha_1 ka_1 (by decide) (by decide) (show 0 ≤ v_7.toInt by omega) (show v_7.toInt < (h.2.1 a_1 : Int) by omega) (v := (q.2.2.2.1 a_1 (v_7 : Int32).toNatClampNeg)) z_25 dX9_addUnit_69 ?_
    refine wa_if_le B 103 dX9_addUnit_70 (by decide) (fun (t_26 : ((q.2.2.2.1 a_1 (v_7 : Int32).toNatClampNeg)).toInt ≤ 0) => ?_) (fun (t_26 : ¬ ((q.2.2.2.1 a_1 (v_7 : Int32).toNatClampNeg)).toInt ≤ 0) => ?_)
    · refine wa_aload_n B dX9_addUnit_103 rfl 2 rfl ?_
      refine wa_getR B (C := RX9) (T := TX9) (N := 7) iq_X9_addUnit_X9 ha0 ka0 (by decide) rfl 1 (by decide) (by decide) (by decide +kernel) rfl (fun _ _ _ => rfl) (v := a_1) z_24 dX9_addUnit_104 ?_
      refine wa_iload B dX9_addUnit_107 1 rfl ?_
      refine wa_dup2 B dX9_addUnit_109 rfl rfl ?_
      refine wa_iaload B ha_1 ka_1 (by decide) (by decide) (show 0 ≤ v_7.toInt by omega) (show v_7.toInt < (h.2.1 a_1 : Int) by omega) (v := (q.2.2.2.1 a_1 (v_7 : Int32).toNatClampNeg)) z_25 dX9_addUnit_110 ?_
      refine wa_iconst B 1 dX9_addUnit_111 (by decide) ?_
      refine wa_iadd B dX9_addUnit_112 (fun v_27 ev_27 => ?_)
      refine wa_iastore B ha_1 ka_1 (by decide) (by decide) (show 0 ≤ v_7.toInt by omega) (show v_7.toInt < (h.2.1 a_1 : Int) by omega) dX9_addUnit_113 (fun q_28 eq_28 => ?_)
      have tv_27 : v_27.toInt = ((q.2.2.2.1 a_1 (v_7 : Int32).toNatClampNeg)).toInt + 1 := by have b0 := zx_bd ((q.2.2.2.1 a_1 (v_7 : Int32).toNatClampNeg)); rw [ev_27]; exact zx_add (show (-2147483648 : Int) ≤ ((q.2.2.2.1 a_1 (v_7 : Int32).toNatClampNeg)).toInt + 1 by omega) (show ((q.2.2.2.1 a_1 (v_7 : Int32).toNatClampNeg)).toInt + 1 < (2147483648 : Int) by omega)
      have hV_q_28 : sx_V h L q_28 := by rw [eq_28]; exact hV_q_22.up1 ha_1 ka_1 (show sx_in v_27 (0) 5 from ⟨by omega, by omega⟩)
      have hF_q_28 : sx_fr h L (fun a => h.1 a = 202 ∨ h.1 a = 102 ∨ h.1 a = 103 ∨ h.1 a = 104 ∨ h.1 a = 101) q q_28 := hF_q_22.tr (by rw [eq_28]; exact sx_fr.pG (show h.1 a_1 = 100 ∨ (h.1 a_1 = 202 ∨ h.1 a_1 = 102 ∨ h.1 a_1 = 103 ∨ h.1 a_1 = 104 ∨ h.1 a_1 = 101) from by omega))
      have z_29 : q_28.2.2.2.1 a_1 (v_7 : Int32).toNatClampNeg = v_27 := by rw [eq_28, sg_pG_e]; exact if_pos rfl
      exact hret _ _ _ dX9_addUnit_114 ⟨hV_q_28, hF_q_28⟩
    · refine wa_aload_n B dX9_addUnit_73 rfl 2 rfl ?_
      have z_30 : q_22.2.2.1 a0 4 = a_18 := ((show q_22.2.2.1 a0 4 = q_19.2.2.1 a0 4 from by rw [eq_22]; rfl)).trans (((show q_19.2.2.1 a0 4 = q_16.2.2.1 a0 4 from by rw [eq_19]; rfl)).trans (ea_18))
      refine wa_getR B (C := RX9) (T := TX9) (N := 7) iq_X9_addUnit_X9 ha0 ka0 (by decide) rfl 4 (by decide) (by decide) (by decide +kernel) rfl (fun _ _ _ => rfl) (v := a_18) z_30 dX9_addUnit_74 ?_
      refine wa_iload B dX9_addUnit_77 0 rfl ?_
      refine wa_iload_n B dX9_addUnit_79 rfl 4 rfl ?_
      refine wa_aload_n B dX9_addUnit_80 rfl 2 rfl ?_
      refine wa_getR B (C := RX9) (T := TX9) (N := 7) iq_X9_addUnit_X9 ha0 ka0 (by decide) rfl 4 (by decide) (by decide) (by decide +kernel) rfl (fun _ _ _ => rfl) (v := a_18) z_30 dX9_addUnit_81 ?_
      refine wa_iload B dX9_addUnit_84 0 rfl ?_
      refine wa_iconst B 1 dX9_addUnit_86 (by decide) ?_
      refine wa_isub B dX9_addUnit_87 (fun v_31 ev_31 => ?_)
      have tv_31 : v_31.toInt = r_10.toInt - 1 := by have b0 := zx_bd r_10; rw [ev_31]; exact zx_sub (show (-2147483648 : Int) ≤ r_10.toInt - 1 by omega) (show r_10.toInt - 1 < (2147483648 : Int) by omega)
      refine wa_iaload B ha_18 ka_18 (by decide) (by decide) (show 0 ≤ v_31.toInt by omega) (show v_31.toInt < (h.2.1 a_18 : Int) by omega) (v := (q_22.2.2.2.1 a_18 (v_31 : Int32).toNatClampNeg)) rfl dX9_addUnit_88 ?_
      refine wa_imul B dX9_addUnit_89 (fun v_32 ev_32 => ?_)
      refine wa_iastore B ha_18 ka_18 (by decide) (by decide) (show 0 ≤ r_10.toInt by omega) (show r_10.toInt < (h.2.1 a_18 : Int) by omega) dX9_addUnit_90 (fun q_33 eq_33 => ?_)
      have hV_q_33 : sx_V h L q_33 := by rw [eq_33]; exact hV_q_22.up1 ha_18 ka_18 trivial
      have hF_q_33 : sx_fr h L (fun a => h.1 a = 202 ∨ h.1 a = 102 ∨ h.1 a = 103 ∨ h.1 a = 104 ∨ h.1 a = 101) q q_33 := hF_q_22.tr (by rw [eq_33]; exact sx_fr.pG (show h.1 a_18 = 100 ∨ (h.1 a_18 = 202 ∨ h.1 a_18 = 102 ∨ h.1 a_18 = 103 ∨ h.1 a_18 = 104 ∨ h.1 a_18 = 101) from by omega))
      have z_34 : q_33.2.2.2.1 a_18 (r_10 : Int32).toNatClampNeg = v_32 := by rw [eq_33, sg_pG_e]; exact if_pos rfl
      refine wa_aload_n B dX9_addUnit_91 rfl 2 rfl ?_
      have z_35 : q_33.2.2.1 a0 5 = a_21 := ((show q_33.2.2.1 a0 5 = q_22.2.2.1 a0 5 from by rw [eq_33]; rfl)).trans (((show q_22.2.2.1 a0 5 = q_19.2.2.1 a0 5 from by rw [eq_22]; rfl)).trans (ea_21))
      refine wa_getR B (C := RX9) (T := TX9) (N := 7) iq_X9_addUnit_X9 ha0 ka0 (by decide) rfl 5 (by decide) (by decide) (by decide +kernel) rfl (fun _ _ _ => rfl) (v := a_21) z_35 dX9_addUnit_92 ?_
      refine wa_iload B dX9_addUnit_95 0 rfl ?_
      refine wa_iconst B 1 dX9_addUnit_97 (by decide) ?_
      refine wa_isub B dX9_addUnit_98 (fun v_36 ev_36 => ?_)
      refine wa_iload_n B dX9_addUnit_99 rfl 4 rfl ?_
      refine wa_iconst B 1 dX9_addUnit_100 (by decide) ?_
      refine wa_isub B dX9_addUnit_101 (fun v_37 ev_37 => ?_)
      have tv_36 : v_36.toInt = r_10.toInt - 1 := by have b0 := zx_bd r_10; rw [ev_36]; exact zx_sub (show (-2147483648 : Int) ≤ r_10.toInt - 1 by omega) (show r_10.toInt - 1 < (2147483648 : Int) by omega)
      refine wa_iastore B ha_21 ka_21 (by decide) (by decide) (show 0 ≤ v_36.toInt by omega) (show v_36.toInt < (h.2.1 a_21 : Int) by omega) dX9_addUnit_102 (fun q_38 eq_38 => ?_)
      have hV_q_38 : sx_V h L q_38 := by rw [eq_38]; exact hV_q_33.up1 ha_21 ka_21 trivial
      have hF_q_38 : sx_fr h L (fun a => h.1 a = 202 ∨ h.1 a = 102 ∨ h.1 a = 103 ∨ h.1 a = 104 ∨ h.1 a = 101) q q_38 := hF_q_33.tr (by rw [eq_38]; exact sx_fr.pG (show h.1 a_21 = 100 ∨ (h.1 a_21 = 202 ∨ h.1 a_21 = 102 ∨ h.1 a_21 = 103 ∨ h.1 a_21 = 104 ∨ h.1 a_21 = 101) from by omega))
      have z_39 : q_38.2.2.2.1 a_21 (v_36 : Int32).toNatClampNeg = v_37 := by rw [eq_38, sg_pG_e]; exact if_pos rfl
      refine wa_aload_n B dX9_addUnit_103 rfl 2 rfl ?_
      have z_40 : q_38.2.2.1 a0 1 = a_1 := ((show q_38.2.2.1 a0 1 = q_33.2.2.1 a0 1 from by rw [eq_38]; rfl)).trans (((show q_33.2.2.1 a0 1 = q_22.2.2.1 a0 1 from by rw [eq_33]; rfl)).trans (z_24))
      refine wa_getR B (C := RX9) (T := TX9) (N := 7) iq_X9_addUnit_X9 ha0 ka0 (by decide) rfl 1 (by decide) (by decide) (by decide +kernel) rfl (fun _ _ _ => rfl) (v := a_1) z_40 dX9_addUnit_104 ?_
      refine wa_iload B dX9_addUnit_107 1 rfl ?_
      refine wa_dup2 B dX9_addUnit_109 rfl rfl ?_
      have z_41 : q_38.2.2.2.1 a_1 (v_7 : Int32).toNatClampNeg = (q.2.2.2.1 a_1 (v_7 : Int32).toNatClampNeg) := (congrFun (((show q_38.2.2.2.1 a_1 = q_33.2.2.2.1 a_1 from by rw [eq_38]; exact sg_pG_a (sx_ka h ka_1 ka_21 (by decide)))).trans ((show q_33.2.2.2.1 a_1 = q_22.2.2.2.1 a_1 from by rw [eq_33]; exact sg_pG_a (sx_ka h ka_1 ka_18 (by decide))))) _).trans z_25
      refine wa_iaload B ha_1 ka_1 (by decide) (by decide) (show 0 ≤ v_7.toInt by omega) (show v_7.toInt < (h.2.1 a_1 : Int) by omega) (v := (q.2.2.2.1 a_1 (v_7 : Int32).toNatClampNeg)) z_41 dX9_addUnit_110 ?_
      refine wa_iconst B 1 dX9_addUnit_111 (by decide) ?_
      refine wa_iadd B dX9_addUnit_112 (fun v_42 ev_42 => ?_)
      refine wa_iastore B ha_1 ka_1 (by decide) (by decide) (show 0 ≤ v_7.toInt by omega) (show v_7.toInt < (h.2.1 a_1 : Int) by omega) dX9_addUnit_113 (fun q_43 eq_43 => ?_)
      have tv_42 : v_42.toInt = ((q.2.2.2.1 a_1 (v_7 : Int32).toNatClampNeg)).toInt + 1 := by have b0 := zx_bd ((q.2.2.2.1 a_1 (v_7 : Int32).toNatClampNeg)); rw [ev_42]; exact zx_add (show (-2147483648 : Int) ≤ ((q.2.2.2.1 a_1 (v_7 : Int32).toNatClampNeg)).toInt + 1 by omega) (show ((q.2.2.2.1 a_1 (v_7 : Int32).toNatClampNeg)).toInt + 1 < (2147483648 : Int) by omega)
      have hV_q_43 : sx_V h L q_43 := by rw [eq_43]; exact hV_q_38.up1 ha_1 ka_1 (show sx_in v_42 (0) 5 from ⟨by omega, by omega⟩)
      have hF_q_43 : sx_fr h L (fun a => h.1 a = 202 ∨ h.1 a = 102 ∨ h.1 a = 103 ∨ h.1 a = 104 ∨ h.1 a = 101) q q_43 := hF_q_38.tr (by rw [eq_43]; exact sx_fr.pG (show h.1 a_1 = 100 ∨ (h.1 a_1 = 202 ∨ h.1 a_1 = 102 ∨ h.1 a_1 = 103 ∨ h.1 a_1 = 104 ∨ h.1 a_1 = 101) from by omega))
      have z_44 : q_43.2.2.2.1 a_1 (v_7 : Int32).toNatClampNeg = v_42 := by rw [eq_43, sg_pG_e]; exact if_pos rfl
      exact hret _ _ _ dX9_addUnit_114 ⟨hV_q_43, hF_q_43⟩
  · exact hret _ _ _ dX9_addUnit_7 ⟨hV, hF⟩
theorem iq_X9_find_X9 : ∀ w ∈ wsX90, w ∈ wsX9_find := fun _ h => List.mem_cons_of_mem _ (List.mem_append_right _ h)
set_option maxHeartbeats 4000000 in
set_option maxRecDepth 100000 in
theorem k_X9_find (l : Launch) (dC : Nat → ClassId) (dI : Nat → Nat → Nat) (h : Sh) (L : List Nat) (hN : sx_nd L) (q : Sg) (hV : sx_V h L q) {a0 : Nat} (ha0 : a0 ∈ L) (ka0 : h.1 a0 = 9) (n1 : Int64)   : CMi l dC dI h L yX9_find wsX9_find ({ frames := 0, cells := 0, slots := 0, locals := 0 } : Room) q [.ref a0, .long n1] (fun r q' => q = q' ∧ ((-1) ≤ r.toInt ∧ r.toInt ≤ 14)) := by
  refine cm_i (cc := cX9_find) (mL := 4) (own := RX9) hN (by decide) rfl rfl (Nat.le_of_ble_eq_true rfl) (fun Z B hret => ?_)
  show WA l dC dI h L ({ frames := 0, cells := 0, slots := 0, locals := 0 } : Room) 4 Z q 0 [(0, .ref a0), (1, .long n1)] []
  refine wa_iconst B 0 dX9_find_0 (by decide) ?_
  refine wa_istore_n B [(3, .int 0), (0, .ref a0), (1, .long n1)] dX9_find_1 rfl (by decide) rfl ?_
  have Lp_2_3 : ∀ (n : Nat) (v_1 : Int32), 0 ≤ v_1.toInt → (15 - v_1.toInt : Int).toNat < n → WA l dC dI h L ({ frames := 0, cells := 0, slots := 0, locals := 0 } : Room) 4 Z q 2 [(3, .int v_1), (0, .ref a0), (1, .long n1)] [] := by
    intro n
    induction n with
    | zero =>
      intro v_1 x_2 hn
      exact absurd hn (Nat.not_lt_zero _)
    | succ n ih_4 =>
      intro v_1 x_2 hn
      refine wa_iload_n B dX9_find_2 rfl 0 rfl ?_
      refine wa_bipush B 15 dX9_find_3 (by decide) ?_
      refine wa_icmp_ge B 27 dX9_find_5 (by decide) (fun (t_5 : 15 ≤ v_1.toInt) => ?_) (fun (t_5 : ¬ 15 ≤ v_1.toInt) => ?_)
      · refine wa_iconst B (-1) dX9_find_27 (by decide) ?_
        exact hret _ _ _ _ dX9_find_28 ⟨rfl, (by have h9 : ((-1) : Int32).toInt = (-1) := rfl; first | omega | (refine ⟨?_, ?_⟩ <;> omega) | trivial)⟩
      · refine wa_aload_n B dX9_find_8 rfl 1 rfl ?_
        obtain ⟨a_6, ea_6, ha_6, ka_6, la_6⟩ := hV.refn (n := 15) (t := 202) ha0 ka0 2 rfl (by decide) rfl (by decide)
        refine wa_getR B (C := RX9) (T := TX9) (N := 7) iq_X9_find_X9 ha0 ka0 (by decide) rfl 2 (by decide) (by decide) (by decide +kernel) rfl (fun _ _ _ => rfl) (v := a_6) ea_6 dX9_find_9 ?_
        refine wa_iload_n B dX9_find_12 rfl 0 rfl ?_
        refine wa_laload B ha_6 ka_6 (by decide) (by decide) (show 0 ≤ v_1.toInt by omega) (show v_1.toInt < (h.2.1 a_6 : Int) by omega) (v := (q.2.2.2.2 a_6 (v_1 : Int32).toNatClampNeg)) rfl dX9_find_13 ?_
        refine wa_lload_n B dX9_find_14 rfl 2 rfl ?_
        refine wa_lcmp B dX9_find_15 (fun v_7 ev_7 => ?_)
        refine wa_if_ne B 21 dX9_find_16 (by decide) (fun (t_8 : ¬ v_7.toInt = 0) => ?_) (fun (t_8 : v_7.toInt = 0) => ?_)
        · obtain ⟨v_9, ev_9⟩ : ∃ z : Int32, z = v_1 + 1 := ⟨_, rfl⟩
          refine wa_iinc B [(3, .int v_9), (0, .ref a0), (1, .long n1)] v_9 dX9_find_21 0 rfl (by rw [ev_9]; rfl) (by decide) rfl ?_
          refine wa_goto B 2 dX9_find_24 (by decide) ?_
          have tv_9 : v_9.toInt = v_1.toInt + 1 := by have b0 := zx_bd v_1; rw [ev_9]; exact zx_add (show (-2147483648 : Int) ≤ v_1.toInt + 1 by omega) (show v_1.toInt + 1 < (2147483648 : Int) by omega)
          exact ih_4 v_9 (show 0 ≤ v_9.toInt from by first | assumption | omega | decide) (show (15 - v_9.toInt : Int).toNat < _ from by omega)
        · refine wa_iload_n B dX9_find_19 rfl 0 rfl ?_
          exact hret _ _ _ _ dX9_find_20 ⟨rfl, (by first | omega | (refine ⟨?_, ?_⟩ <;> omega) | trivial)⟩
  exact Lp_2_3 _ 0 (show 0 ≤ 0 from by first | assumption | omega | decide) (Nat.lt_succ_self _)
theorem iq_X9_isTaken_X9 : ∀ w ∈ wsX90, w ∈ wsX9_isTaken := fun _ h => List.mem_cons_of_mem _ (List.mem_append_right _ h)
set_option maxHeartbeats 4000000 in
set_option maxRecDepth 100000 in
theorem k_X9_isTaken (l : Launch) (dC : Nat → ClassId) (dI : Nat → Nat → Nat) (h : Sh) (L : List Nat) (hN : sx_nd L) (q : Sg) (hV : sx_V h L q) {a0 : Nat} (ha0 : a0 ∈ L) (ka0 : h.1 a0 = 9) (n1 : Int64)   : CMi l dC dI h L yX9_isTaken wsX9_isTaken ({ frames := 1, cells := 0, slots := 0, locals := 23 } : Room) q [.ref a0, .long n1] (fun r q' => q = q' ∧ (r.toInt = 0 ∨ r.toInt = 1)) := by
  refine cm_z (cc := cX9_isTaken) (mL := 4) (own := RX9) hN (by decide) rfl rfl (Nat.le_of_ble_eq_true rfl) (fun Z B hret => ?_)
  show WA l dC dI h L ({ frames := 1, cells := 0, slots := 0, locals := 23 } : Room) 4 Z q 0 [(0, .ref a0), (1, .long n1)] []
  refine wa_iconst B 0 dX9_isTaken_0 (by decide) ?_
  refine wa_istore_n B [(3, .int 0), (0, .ref a0), (1, .long n1)] dX9_isTaken_1 rfl (by decide) rfl ?_
  have Lp_2_3 : ∀ (n : Nat) (v_1 : Int32), 0 ≤ v_1.toInt → (3 - v_1.toInt : Int).toNat < n → WA l dC dI h L ({ frames := 1, cells := 0, slots := 0, locals := 23 } : Room) 4 Z q 2 [(3, .int v_1), (0, .ref a0), (1, .long n1)] [] := by
    intro n
    induction n with
    | zero =>
      intro v_1 x_2 hn
      exact absurd hn (Nat.not_lt_zero _)
    | succ n ih_4 =>
      intro v_1 x_2 hn
      refine wa_iload_n B dX9_isTaken_2 rfl 0 rfl ?_
      refine wa_iconst B 3 dX9_isTaken_3 (by decide) ?_
      refine wa_icmp_ge B 26 dX9_isTaken_4 (by decide) (fun (t_5 : 3 ≤ v_1.toInt) => ?_) (fun (t_5 : ¬ 3 ≤ v_1.toInt) => ?_)
      · refine wa_aload_n B dX9_isTaken_26 rfl 1 rfl ?_
        refine wa_lload_n B dX9_isTaken_27 rfl 2 rfl ?_
        refine wa_callVi B (x := (RX9, TX9, 7)) (As := [.long n1]) (rest := []) (k_X9_find l dC dI h L hN q hV (a0 := a0) ha0 ka0 n1  ) (cwV 1 B.1.2.2.2.2 gX9_isTaken_X9_find rfl rfl rfl (by decide +kernel) ⟨Nat.le_of_ble_eq_true rfl, Nat.le_of_ble_eq_true rfl⟩) ha0 ka0 (by decide) rfl rfl rfl (Nat.le_of_ble_eq_true rfl) dX9_isTaken_28 (fun r_7 q_6 w_8 => ?_)
        obtain ⟨ew_8, hw_8⟩ := w_8
        subst ew_8
        refine wa_iconst B (-1) dX9_isTaken_31 (by decide) ?_
        refine wa_icmp_eq B 39 dX9_isTaken_32 (by decide) (fun (t_9 : r_7.toInt = (-1)) => ?_) (fun (t_9 : ¬ r_7.toInt = (-1)) => ?_)
        · refine wa_iconst B 0 dX9_isTaken_39 (by decide) ?_
          exact hret _ _ _ _ dX9_isTaken_40 (Or.inl rfl) ⟨rfl, (by have h9 : (0 : Int32).toInt = 0 := rfl; first | omega | (refine ⟨?_, ?_⟩ <;> omega) | trivial)⟩
        · refine wa_iconst B 1 dX9_isTaken_35 (by decide) ?_
          refine wa_goto B 40 dX9_isTaken_36 (by decide) ?_
          exact hret _ _ _ _ dX9_isTaken_40 (Or.inr rfl) ⟨rfl, (by have h9 : (1 : Int32).toInt = 1 := rfl; first | omega | (refine ⟨?_, ?_⟩ <;> omega) | trivial)⟩
      · refine wa_aload_n B dX9_isTaken_7 rfl 1 rfl ?_
        obtain ⟨a_10, ea_10, ha_10, ka_10, la_10⟩ := hV.refn (n := 3) (t := 201) ha0 ka0 0 rfl (by decide) rfl (by decide)
        refine wa_getR B (C := RX9) (T := TX9) (N := 7) iq_X9_isTaken_X9 ha0 ka0 (by decide) rfl 0 (by decide) (by decide) (by decide +kernel) rfl (fun _ _ _ => rfl) (v := a_10) ea_10 dX9_isTaken_8 ?_
        refine wa_iload_n B dX9_isTaken_11 rfl 0 rfl ?_
        refine wa_laload B ha_10 ka_10 (by decide) (by decide) (show 0 ≤ v_1.toInt by omega) (show v_1.toInt < (h.2.1 a_10 : Int) by omega) (v := (q.2.2.2.2 a_10 (v_1 : Int32).toNatClampNeg)) rfl dX9_isTaken_12 ?_
        refine wa_lload_n B dX9_isTaken_13 rfl 2 rfl ?_
        refine wa_lcmp B dX9_isTaken_14 (fun v_11 ev_11 => ?_)
        refine wa_if_ne B 20 dX9_isTaken_15 (by decide) (fun (t_12 : ¬ v_11.toInt = 0) => ?_) (fun (t_12 : v_11.toInt = 0) => ?_)
        · obtain ⟨v_13, ev_13⟩ : ∃ z : Int32, z = v_1 + 1 := ⟨_, rfl⟩
          refine wa_iinc B [(3, .int v_13), (0, .ref a0), (1, .long n1)] v_13 dX9_isTaken_20 0 rfl (by rw [ev_13]; rfl) (by decide) rfl ?_
          refine wa_goto B 2 dX9_isTaken_23 (by decide) ?_
          have tv_13 : v_13.toInt = v_1.toInt + 1 := by have b0 := zx_bd v_1; rw [ev_13]; exact zx_add (show (-2147483648 : Int) ≤ v_1.toInt + 1 by omega) (show v_1.toInt + 1 < (2147483648 : Int) by omega)
          exact ih_4 v_13 (show 0 ≤ v_13.toInt from by first | assumption | omega | decide) (show (3 - v_13.toInt : Int).toNat < _ from by omega)
        · refine wa_iconst B 1 dX9_isTaken_18 (by decide) ?_
          exact hret _ _ _ _ dX9_isTaken_19 (Or.inr rfl) ⟨rfl, (by have h9 : (1 : Int32).toInt = 1 := rfl; first | omega | (refine ⟨?_, ?_⟩ <;> omega) | trivial)⟩
  exact Lp_2_3 _ 0 (show 0 ≤ 0 from by first | assumption | omega | decide) (Nat.lt_succ_self _)
theorem iq_X9_canWrite_X9 : ∀ w ∈ wsX90, w ∈ wsX9_canWrite := fun _ h => List.mem_cons_of_mem _ (List.mem_append_right _ h)
set_option maxHeartbeats 4000000 in
set_option maxRecDepth 100000 in
theorem k_X9_canWrite (l : Launch) (dC : Nat → ClassId) (dI : Nat → Nat → Nat) (h : Sh) (L : List Nat) (hN : sx_nd L) (q : Sg) (hV : sx_V h L q) {a0 : Nat} (ha0 : a0 ∈ L) (ka0 : h.1 a0 = 9) (n1 : Int32) (n2 : Int32)  (hy0 : 0 ≤ n1.toInt) (hy1 : n1.toInt < 3) : CMi l dC dI h L yX9_canWrite wsX9_canWrite ({ frames := 1, cells := 0, slots := 0, locals := 21 } : Room) q [.ref a0, .int n1, .int n2] (fun r q' => q = q' ∧ (r.toInt = 0 ∨ r.toInt = 1)) := by
  refine cm_z (cc := cX9_canWrite) (mL := 5) (own := RX9) hN (by decide) rfl rfl (Nat.le_of_ble_eq_true rfl) (fun Z B hret => ?_)
  show WA l dC dI h L ({ frames := 1, cells := 0, slots := 0, locals := 21 } : Room) 5 Z q 0 [(0, .ref a0), (1, .int n1), (2, .int n2)] []
  refine wa_aload_n B dX9_canWrite_0 rfl 0 rfl ?_
  obtain ⟨a_1, ea_1, ha_1, ka_1, la_1⟩ := hV.refn (n := 3) (t := 101) ha0 ka0 1 rfl (by decide) rfl (by decide)
  refine wa_getR B (C := RX9) (T := TX9) (N := 7) iq_X9_canWrite_X9 ha0 ka0 (by decide) rfl 1 (by decide) (by decide) (by decide +kernel) rfl (fun _ _ _ => rfl) (v := a_1) ea_1 dX9_canWrite_1 ?_
  refine wa_iload_n B dX9_canWrite_4 rfl 1 rfl ?_
  refine wa_iaload B ha_1 ka_1 (by decide) (by decide) (show 0 ≤ n1.toInt by omega) (show n1.toInt < (h.2.1 a_1 : Int) by omega) (v := (q.2.2.2.1 a_1 (n1 : Int32).toNatClampNeg)) rfl dX9_canWrite_5 ?_
  have g_2 : (0 : Int) ≤ ((q.2.2.2.1 a_1 (n1 : Int32).toNatClampNeg)).toInt ∧ ((q.2.2.2.1 a_1 (n1 : Int32).toNatClampNeg)).toInt ≤ 5 := hV.cnt ha_1 ka_1 _
  refine wa_iconst B 1 dX9_canWrite_6 (by decide) ?_
  refine wa_isub B dX9_canWrite_7 (fun v_3 ev_3 => ?_)
  refine wa_istore_n B [(3, .int v_3), (0, .ref a0), (1, .int n1), (2, .int n2)] dX9_canWrite_8 rfl (by decide) rfl ?_
  refine wa_iload_n B dX9_canWrite_9 rfl 0 rfl ?_
  refine wa_if_lt B 26 dX9_canWrite_10 (by decide) (fun (t_4 : v_3.toInt < 0) => ?_) (fun (t_4 : ¬ v_3.toInt < 0) => ?_)
  · refine wa_iconst B 0 dX9_canWrite_26 (by decide) ?_
    refine wa_istore B [(4, .int 0), (3, .int v_3), (0, .ref a0), (1, .int n1), (2, .int n2)] dX9_canWrite_27 (by decide) rfl ?_
    refine wa_iload B dX9_canWrite_29 0 rfl ?_
    refine wa_if_le B 47 dX9_canWrite_31 (by decide) (fun _ => ?_) (fun z => absurd z (by decide))
    refine wa_iconst B 0 dX9_canWrite_47 (by decide) ?_
    exact hret _ _ _ _ dX9_canWrite_48 (Or.inl rfl) ⟨rfl, (by have h9 : (0 : Int32).toInt = 0 := rfl; first | omega | (refine ⟨?_, ?_⟩ <;> omega) | trivial)⟩
  · refine wa_aload_n B dX9_canWrite_13 rfl 1 rfl ?_
    obtain ⟨a_5, ea_5, ha_5, ka_5, la_5⟩ := hV.refn (n := 15) (t := 103) ha0 ka0 4 rfl (by decide) rfl (by decide)
    refine wa_getR B (C := RX9) (T := TX9) (N := 7) iq_X9_canWrite_X9 ha0 ka0 (by decide) rfl 4 (by decide) (by decide) (by decide +kernel) rfl (fun _ _ _ => rfl) (v := a_5) ea_5 dX9_canWrite_14 ?_
    refine wa_iload_n B dX9_canWrite_17 rfl 2 rfl ?_
    refine wa_iload_n B dX9_canWrite_18 rfl 0 rfl ?_
    have tv_3 : v_3.toInt = ((q.2.2.2.1 a_1 (n1 : Int32).toNatClampNeg)).toInt - 1 := by have b0 := zx_bd ((q.2.2.2.1 a_1 (n1 : Int32).toNatClampNeg)); rw [ev_3]; exact zx_sub (show (-2147483648 : Int) ≤ ((q.2.2.2.1 a_1 (n1 : Int32).toNatClampNeg)).toInt - 1 by omega) (show ((q.2.2.2.1 a_1 (n1 : Int32).toNatClampNeg)).toInt - 1 < (2147483648 : Int) by omega)
    refine wa_callSi B (As := [.int n1, .int v_3]) (rest := [.ref a_5]) (k_X9_slot l dC dI h L hN q hV n1 v_3  (by first | assumption | omega | decide) (by first | assumption | omega | decide) (by first | assumption | omega | decide) (by first | assumption | omega | decide)) (va_cwS 2 B.1.2.2.2.2 gX9_canWrite_X9_slot rfl rfl rfl (by decide +kernel) ⟨Nat.le_of_ble_eq_true rfl, Nat.le_of_ble_eq_true rfl⟩) rfl rfl (Nat.le_of_ble_eq_true rfl) dX9_canWrite_19 (fun r_7 q_6 w_8 => ?_)
    obtain ⟨ew_8, hw_8⟩ := w_8
    subst ew_8
    refine wa_iaload B ha_5 ka_5 (by decide) (by decide) (show 0 ≤ r_7.toInt by omega) (show r_7.toInt < (h.2.1 a_5 : Int) by omega) (v := (q.2.2.2.1 a_5 (r_7 : Int32).toNatClampNeg)) rfl dX9_canWrite_22 ?_
    refine wa_goto B 27 dX9_canWrite_23 (by decide) ?_
    refine wa_istore B [(4, .int ((q.2.2.2.1 a_5 (r_7 : Int32).toNatClampNeg))), (3, .int v_3), (0, .ref a0), (1, .int n1), (2, .int n2)] dX9_canWrite_27 (by decide) rfl ?_
    refine wa_iload B dX9_canWrite_29 0 rfl ?_
    refine wa_if_le B 47 dX9_canWrite_31 (by decide) (fun (t_9 : ((q.2.2.2.1 a_5 (r_7 : Int32).toNatClampNeg)).toInt ≤ 0) => ?_) (fun (t_9 : ¬ ((q.2.2.2.1 a_5 (r_7 : Int32).toNatClampNeg)).toInt ≤ 0) => ?_)
    · refine wa_iconst B 0 dX9_canWrite_47 (by decide) ?_
      exact hret _ _ _ _ dX9_canWrite_48 (Or.inl rfl) ⟨rfl, (by have h9 : (0 : Int32).toInt = 0 := rfl; first | omega | (refine ⟨?_, ?_⟩ <;> omega) | trivial)⟩
    · refine wa_iload_n B dX9_canWrite_34 rfl 4 rfl ?_
      refine wa_iload B dX9_canWrite_35 0 rfl ?_
      refine wa_idiv B dX9_canWrite_37 (fun z => absurd (show ((q.2.2.2.1 a_5 (r_7 : Int32).toNatClampNeg)).toInt = (0 : Int) from zx_eq.mp z) (by omega)) (fun v_10 ev_10 => ?_)
      refine wa_bipush B 99 dX9_canWrite_38 (by decide) ?_
      refine wa_icmp_gt B 47 dX9_canWrite_40 (by decide) (fun (t_11 : 99 < v_10.toInt) => ?_) (fun (t_11 : ¬ 99 < v_10.toInt) => ?_)
      · refine wa_iconst B 0 dX9_canWrite_47 (by decide) ?_
        exact hret _ _ _ _ dX9_canWrite_48 (Or.inl rfl) ⟨rfl, (by have h9 : (0 : Int32).toInt = 0 := rfl; first | omega | (refine ⟨?_, ?_⟩ <;> omega) | trivial)⟩
      · refine wa_iconst B 1 dX9_canWrite_43 (by decide) ?_
        refine wa_goto B 48 dX9_canWrite_44 (by decide) ?_
        exact hret _ _ _ _ dX9_canWrite_48 (Or.inr rfl) ⟨rfl, (by have h9 : (1 : Int32).toInt = 1 := rfl; first | omega | (refine ⟨?_, ?_⟩ <;> omega) | trivial)⟩
theorem iq_X9_writeAmount_X7 : ∀ w ∈ wsX70, w ∈ wsX9_writeAmount := fun _ h => List.mem_cons_of_mem _ (List.mem_append_right _ h)
set_option maxHeartbeats 4000000 in
set_option maxRecDepth 100000 in
theorem k_X9_writeAmount (l : Launch) (dC : Nat → ClassId) (dI : Nat → Nat → Nat) (h : Sh) (L : List Nat) (hN : sx_nd L) (q : Sg) (hV : sx_V h L q) {a0 : Nat} (ha0 : a0 ∈ L) (ka0 : h.1 a0 = 7) (n1 : Int32) (n2 : Int64) {b0 : Nat} (eb0 : q.2.2.1 a0 0 = b0)   : CMv l dC dI h L yX9_writeAmount wsX9_writeAmount ({ frames := 1, cells := 0, slots := 0, locals := 21 } : Room) q [.ref a0, .int n1, .long n2] (fun q' => sx_V h L q' ∧ sx_fr h L (fun a => a = a0 ∧ h.1 a = 7 ∨ a = b0 ∧ h.1 a = 300) q q') := by
  refine cm_v (cc := cX9_writeAmount) (mL := 6) (own := RX9) hN (by decide) rfl rfl (Nat.le_of_ble_eq_true rfl) (fun Z B hret => ?_)
  have hF : sx_fr h L (fun a => a = a0 ∧ h.1 a = 7 ∨ a = b0 ∧ h.1 a = 300) q q := sx_fr.rf
  obtain ⟨hb0, kb0⟩ : b0 ∈ L ∧ h.1 b0 = 300 := by obtain ⟨r9, e9, z1, z2⟩ := hV.ref (t := 300) ha0 ka0 0 rfl (by decide); rw [← eb0, e9]; exact ⟨z1, z2⟩
  show WA l dC dI h L ({ frames := 1, cells := 0, slots := 0, locals := 21 } : Room) 6 Z q 0 [(0, .ref a0), (1, .int n1), (2, .long n2)] []
  refine wa_aload_n B dX9_writeAmount_0 rfl 0 rfl ?_
  refine wa_getI B (C := RX7) (T := TX7) (N := 2) iq_X9_writeAmount_X7 ha0 ka0 (by decide) rfl 1 (by decide) (by decide) (by decide +kernel) rfl (by decide) (v := (q.1 a0 1)) rfl dX9_writeAmount_1 ?_
  have g_1 : (0 : Int) ≤ (q.1 a0 1).toInt ∧ (q.1 a0 1).toInt ≤ (h.2.1 b0 : Int) := by have z9 := hV.int ha0 ka0 1; rw [eb0] at z9; exact z9
  have l_2 : h.2.1 b0 ≤ 5000 := hV.len hb0
  have Jn_13_4 : ∀  (q_3 : Sg), sx_V h L q_3 → sx_fr h L (fun a => a = a0 ∧ h.1 a = 7 ∨ a = b0 ∧ h.1 a = 300) q q_3 → q_3.2.2.1 a0 0 = b0 → WA l dC dI h L ({ frames := 1, cells := 0, slots := 0, locals := 21 } : Room) 6 Z q_3 13 [(0, .ref a0), (1, .int n1), (2, .long n2)] [] := by
    intro q_3 hV_q_3 hF_q_3 p0_q_3
    refine wa_iload_n B dX9_writeAmount_13 rfl 1 rfl ?_
    refine wa_bipush B 10 dX9_writeAmount_14 (by decide) ?_
    have Jn_30_6 : ∀  (q_5 : Sg), sx_V h L q_5 → sx_fr h L (fun a => a = a0 ∧ h.1 a = 7 ∨ a = b0 ∧ h.1 a = 300) q q_5 → q_5.2.2.1 a0 0 = b0 → WA l dC dI h L ({ frames := 1, cells := 0, slots := 0, locals := 21 } : Room) 6 Z q_5 30 [(0, .ref a0), (1, .int n1), (2, .long n2)] [] := by
      intro q_5 hV_q_5 hF_q_5 p0_q_5
      refine wa_aload_n B dX9_writeAmount_30 rfl 0 rfl ?_
      refine wa_bipush B 48 dX9_writeAmount_31 (by decide) ?_
      refine wa_iload_n B dX9_writeAmount_33 rfl 1 rfl ?_
      refine wa_bipush B 10 dX9_writeAmount_34 (by decide) ?_
      refine wa_irem B dX9_writeAmount_36 (by decide) (fun v_7 ev_7 => ?_)
      refine wa_iadd B dX9_writeAmount_37 (fun v_8 ev_8 => ?_)
      refine wa_callVv B (x := (RX7, TX7, 2)) (As := [.int v_8]) (rest := []) (k_X7_put l dC dI h L hN q_5 hV_q_5 (a0 := a0) ha0 ka0 v_8 (b0 := b0) p0_q_5  ) (cwV 1 B.1.2.2.2.2 gX9_writeAmount_X7_put rfl rfl rfl (by decide +kernel) ⟨Nat.le_of_ble_eq_true rfl, Nat.le_of_ble_eq_true rfl⟩) ha0 ka0 (by decide) rfl rfl rfl (Nat.le_of_ble_eq_true rfl) dX9_writeAmount_38 (fun q_9 w_10 => ?_)
      obtain ⟨hV_q_9, h2_q_9, hw_10⟩ := w_10
      have hF_q_9 : sx_fr h L (fun a => a = a0 ∧ h.1 a = 7 ∨ a = b0 ∧ h.1 a = 300) q q_9 := hF_q_5.tr (h2_q_9.mono (fun a (z : a = a0 ∧ h.1 a = 7 ∨ a = b0 ∧ h.1 a = 300) => (show a = a0 ∧ h.1 a = 7 ∨ a = b0 ∧ h.1 a = 300 from by omega)))
      refine wa_aload_n B dX9_writeAmount_41 rfl 0 rfl ?_
      refine wa_bipush B 32 dX9_writeAmount_42 (by decide) ?_
      have z_11 : q_9.2.2.1 a0 0 = b0 := (h2_q_9.R ha0 (show ¬ ((a0 = a0 ∧ h.1 a0 = 7 ∨ a0 = b0 ∧ h.1 a0 = 300) ∧ (h.1 a0 = 8 ∨ h.1 a0 = 11)) from by omega) 0).trans (p0_q_5)
      refine wa_callVv B (x := (RX7, TX7, 2)) (As := [.int 32]) (rest := []) (k_X7_put l dC dI h L hN q_9 hV_q_9 (a0 := a0) ha0 ka0 32 (b0 := b0) z_11  ) (cwV 1 B.1.2.2.2.2 gX9_writeAmount_X7_put rfl rfl rfl (by decide +kernel) ⟨Nat.le_of_ble_eq_true rfl, Nat.le_of_ble_eq_true rfl⟩) ha0 ka0 (by decide) rfl rfl rfl (Nat.le_of_ble_eq_true rfl) dX9_writeAmount_44 (fun q_12 w_13 => ?_)
      obtain ⟨hV_q_12, h2_q_12, hw_13⟩ := w_13
      have hF_q_12 : sx_fr h L (fun a => a = a0 ∧ h.1 a = 7 ∨ a = b0 ∧ h.1 a = 300) q q_12 := hF_q_9.tr (h2_q_12.mono (fun a (z : a = a0 ∧ h.1 a = 7 ∨ a = b0 ∧ h.1 a = 300) => (show a = a0 ∧ h.1 a = 7 ∨ a = b0 ∧ h.1 a = 300 from by omega)))
      refine wa_bipush B 56 dX9_writeAmount_47 (by decide) ?_
      refine wa_istore B [(4, .int 56), (0, .ref a0), (1, .int n1), (2, .long n2)] dX9_writeAmount_49 (by decide) rfl ?_
      have z_16 : q_12.2.2.1 a0 0 = b0 := (h2_q_12.R ha0 (show ¬ ((a0 = a0 ∧ h.1 a0 = 7 ∨ a0 = b0 ∧ h.1 a0 = 300) ∧ (h.1 a0 = 8 ∨ h.1 a0 = 11)) from by omega) 0).trans (z_11)
      have Lp_51_19 : ∀ (n : Nat) (v_14 : Int32) (q_15 : Sg), sx_V h L q_15 → sx_fr h L (fun a => a = a0 ∧ h.1 a = 7 ∨ a = b0 ∧ h.1 a = 300) q q_15 → q_15.2.2.1 a0 0 = b0 → (-8) ≤ v_14.toInt → v_14.toInt ≤ 56 → (v_14.toInt + 8 : Int).toNat < n → WA l dC dI h L ({ frames := 1, cells := 0, slots := 0, locals := 21 } : Room) 6 Z q_15 51 [(4, .int v_14), (0, .ref a0), (1, .int n1), (2, .long n2)] [] := by
        intro n
        induction n with
        | zero =>
          intro v_14 q_15 hV_q_15 hF_q_15 p0_q_15 x_17 x_18 hn
          exact absurd hn (Nat.not_lt_zero _)
        | succ n ih_20 =>
          intro v_14 q_15 hV_q_15 hF_q_15 p0_q_15 x_17 x_18 hn
          refine wa_iload B dX9_writeAmount_51 0 rfl ?_
          refine wa_if_lt B 84 dX9_writeAmount_53 (by decide) (fun (t_21 : v_14.toInt < 0) => ?_) (fun (t_21 : ¬ v_14.toInt < 0) => ?_)
          · exact hret _ _ _ dX9_writeAmount_84 ⟨hV_q_15, hF_q_15⟩
          · refine wa_lload_n B dX9_writeAmount_56 rfl 3 rfl ?_
            refine wa_iload B dX9_writeAmount_57 0 rfl ?_
            refine wa_lushr B dX9_writeAmount_59 (fun v_22 ev_22 => ?_)
            refine wa_l2i B dX9_writeAmount_60 (fun v_23 ev_23 => ?_)
            refine wa_sipush B 255 dX9_writeAmount_61 (by decide) ?_
            refine wa_iand B dX9_writeAmount_64 (fun v_24 ev_24 => ?_)
            have gv_24 : 0 ≤ v_24.toInt ∧ v_24.toInt ≤ 255 := by rw [ev_24]; exact zx_and255 _
            refine wa_istore B [(5, .int v_24), (4, .int v_14), (0, .ref a0), (1, .int n1), (2, .long n2)] dX9_writeAmount_65 (by decide) rfl ?_
            refine wa_iload B dX9_writeAmount_67 0 rfl ?_
            refine wa_if_eq B 78 dX9_writeAmount_69 (by decide) (fun (t_25 : v_24.toInt = 0) => ?_) (fun (t_25 : ¬ v_24.toInt = 0) => ?_)
            · obtain ⟨v_26, ev_26⟩ : ∃ z : Int32, z = v_14 + (-8) := ⟨_, rfl⟩
              refine wa_iinc B [(4, .int v_26), (5, .int v_24), (0, .ref a0), (1, .int n1), (2, .long n2)] v_26 dX9_writeAmount_78 1 rfl (by rw [ev_26]; rfl) (by decide) rfl ?_
              refine wa_goto B 51 dX9_writeAmount_81 (by decide) ?_
              have tv_26 : v_26.toInt = v_14.toInt + (-8) := by have b0 := zx_bd v_14; rw [ev_26]; exact zx_add (show (-2147483648 : Int) ≤ v_14.toInt + (-8) by omega) (show v_14.toInt + (-8) < (2147483648 : Int) by omega)
              refine WA.sub [0, 2, 3, 4] rfl ?_
              exact ih_20 v_26 q_15 hV_q_15 hF_q_15 p0_q_15 (show (-8) ≤ v_26.toInt from by first | assumption | omega | decide) (show v_26.toInt ≤ 56 from by first | assumption | omega | decide) (show (v_26.toInt + 8 : Int).toNat < _ from by omega)
            · refine wa_aload_n B dX9_writeAmount_72 rfl 2 rfl ?_
              refine wa_iload B dX9_writeAmount_73 0 rfl ?_
              refine wa_callVv B (x := (RX7, TX7, 2)) (As := [.int v_24]) (rest := []) (k_X7_put l dC dI h L hN q_15 hV_q_15 (a0 := a0) ha0 ka0 v_24 (b0 := b0) p0_q_15  ) (cwV 1 B.1.2.2.2.2 gX9_writeAmount_X7_put rfl rfl rfl (by decide +kernel) ⟨Nat.le_of_ble_eq_true rfl, Nat.le_of_ble_eq_true rfl⟩) ha0 ka0 (by decide) rfl rfl rfl (Nat.le_of_ble_eq_true rfl) dX9_writeAmount_75 (fun q_27 w_28 => ?_)
              obtain ⟨hV_q_27, h2_q_27, hw_28⟩ := w_28
              have hF_q_27 : sx_fr h L (fun a => a = a0 ∧ h.1 a = 7 ∨ a = b0 ∧ h.1 a = 300) q q_27 := hF_q_15.tr (h2_q_27.mono (fun a (z : a = a0 ∧ h.1 a = 7 ∨ a = b0 ∧ h.1 a = 300) => (show a = a0 ∧ h.1 a = 7 ∨ a = b0 ∧ h.1 a = 300 from by omega)))
              obtain ⟨v_29, ev_29⟩ : ∃ z : Int32, z = v_14 + (-8) := ⟨_, rfl⟩
              refine wa_iinc B [(4, .int v_29), (5, .int v_24), (0, .ref a0), (1, .int n1), (2, .long n2)] v_29 dX9_writeAmount_78 1 rfl (by rw [ev_29]; rfl) (by decide) rfl ?_
              refine wa_goto B 51 dX9_writeAmount_81 (by decide) ?_
              have tv_29 : v_29.toInt = v_14.toInt + (-8) := by have b0 := zx_bd v_14; rw [ev_29]; exact zx_add (show (-2147483648 : Int) ≤ v_14.toInt + (-8) by omega) (show v_14.toInt + (-8) < (2147483648 : Int) by omega)
              have z_30 : q_27.2.2.1 a0 0 = b0 := (h2_q_27.R ha0 (show ¬ ((a0 = a0 ∧ h.1 a0 = 7 ∨ a0 = b0 ∧ h.1 a0 = 300) ∧ (h.1 a0 = 8 ∨ h.1 a0 = 11)) from by omega) 0).trans (p0_q_15)
              refine WA.sub [0, 2, 3, 4] rfl ?_
              exact ih_20 v_29 q_27 hV_q_27 hF_q_27 z_30 (show (-8) ≤ v_29.toInt from by first | assumption | omega | decide) (show v_29.toInt ≤ 56 from by first | assumption | omega | decide) (show (v_29.toInt + 8 : Int).toNat < _ from by omega)
      exact Lp_51_19 _ 56 q_12 hV_q_12 hF_q_12 z_16 (show (-8) ≤ 56 from by first | assumption | omega | decide) (show 56 ≤ 56 from by first | assumption | omega | decide) (Nat.lt_succ_self _)
    refine wa_icmp_lt B 30 dX9_writeAmount_16 (by decide) (fun (t_31 : n1.toInt < 10) => ?_) (fun (t_31 : ¬ n1.toInt < 10) => ?_)
    · exact Jn_30_6 q_3 hV_q_3 hF_q_3 p0_q_3
    · refine wa_aload_n B dX9_writeAmount_19 rfl 0 rfl ?_
      refine wa_bipush B 48 dX9_writeAmount_20 (by decide) ?_
      refine wa_iload_n B dX9_writeAmount_22 rfl 1 rfl ?_
      refine wa_bipush B 10 dX9_writeAmount_23 (by decide) ?_
      refine wa_idiv B dX9_writeAmount_25 (by decide) (fun v_32 ev_32 => ?_)
      refine wa_iadd B dX9_writeAmount_26 (fun v_33 ev_33 => ?_)
      refine wa_callVv B (x := (RX7, TX7, 2)) (As := [.int v_33]) (rest := []) (k_X7_put l dC dI h L hN q_3 hV_q_3 (a0 := a0) ha0 ka0 v_33 (b0 := b0) p0_q_3  ) (cwV 1 B.1.2.2.2.2 gX9_writeAmount_X7_put rfl rfl rfl (by decide +kernel) ⟨Nat.le_of_ble_eq_true rfl, Nat.le_of_ble_eq_true rfl⟩) ha0 ka0 (by decide) rfl rfl rfl (Nat.le_of_ble_eq_true rfl) dX9_writeAmount_27 (fun q_34 w_35 => ?_)
      obtain ⟨hV_q_34, h2_q_34, hw_35⟩ := w_35
      have hF_q_34 : sx_fr h L (fun a => a = a0 ∧ h.1 a = 7 ∨ a = b0 ∧ h.1 a = 300) q q_34 := hF_q_3.tr (h2_q_34.mono (fun a (z : a = a0 ∧ h.1 a = 7 ∨ a = b0 ∧ h.1 a = 300) => (show a = a0 ∧ h.1 a = 7 ∨ a = b0 ∧ h.1 a = 300 from by omega)))
      have z_36 : q_34.2.2.1 a0 0 = b0 := (h2_q_34.R ha0 (show ¬ ((a0 = a0 ∧ h.1 a0 = 7 ∨ a0 = b0 ∧ h.1 a0 = 300) ∧ (h.1 a0 = 8 ∨ h.1 a0 = 11)) from by omega) 0).trans (p0_q_3)
      exact Jn_30_6 q_34 hV_q_34 hF_q_34 z_36
  refine wa_if_le B 13 dX9_writeAmount_4 (by decide) (fun (t_37 : (q.1 a0 1).toInt ≤ 0) => ?_) (fun (t_37 : ¬ (q.1 a0 1).toInt ≤ 0) => ?_)
  · exact Jn_13_4 q hV hF eb0
  · refine wa_aload_n B dX9_writeAmount_7 rfl 0 rfl ?_
    refine wa_bipush B 32 dX9_writeAmount_8 (by decide) ?_
    refine wa_callVv B (x := (RX7, TX7, 2)) (As := [.int 32]) (rest := []) (k_X7_put l dC dI h L hN q hV (a0 := a0) ha0 ka0 32 (b0 := b0) eb0  ) (cwV 1 B.1.2.2.2.2 gX9_writeAmount_X7_put rfl rfl rfl (by decide +kernel) ⟨Nat.le_of_ble_eq_true rfl, Nat.le_of_ble_eq_true rfl⟩) ha0 ka0 (by decide) rfl rfl rfl (Nat.le_of_ble_eq_true rfl) dX9_writeAmount_10 (fun q_38 w_39 => ?_)
    obtain ⟨hV_q_38, h2_q_38, hw_39⟩ := w_39
    have hF_q_38 : sx_fr h L (fun a => a = a0 ∧ h.1 a = 7 ∨ a = b0 ∧ h.1 a = 300) q q_38 := hF.tr (h2_q_38.mono (fun a (z : a = a0 ∧ h.1 a = 7 ∨ a = b0 ∧ h.1 a = 300) => (show a = a0 ∧ h.1 a = 7 ∨ a = b0 ∧ h.1 a = 300 from by omega)))
    have z_40 : q_38.2.2.1 a0 0 = b0 := (h2_q_38.R ha0 (show ¬ ((a0 = a0 ∧ h.1 a0 = 7 ∨ a0 = b0 ∧ h.1 a0 = 300) ∧ (h.1 a0 = 8 ∨ h.1 a0 = 11)) from by omega) 0).trans (eb0)
    exact Jn_13_4 q_38 hV_q_38 hF_q_38 z_40
theorem iq_X9_writeTo_X9 : ∀ w ∈ wsX90, w ∈ wsX9_writeTo := fun _ h => List.mem_cons_of_mem _ (List.mem_append_left _ (List.mem_append_right _ h))
set_option maxHeartbeats 4000000 in
set_option maxRecDepth 100000 in
theorem k_X9_writeTo (l : Launch) (dC : Nat → ClassId) (dI : Nat → Nat → Nat) (h : Sh) (L : List Nat) (hN : sx_nd L) (q : Sg) (hV : sx_V h L q) {a0 : Nat} (ha0 : a0 ∈ L) (ka0 : h.1 a0 = 9) {a1 : Nat} (ha1 : a1 ∈ L) (ka1 : h.1 a1 = 7) (n1 : Int32) (n2 : Int32) {b0 : Nat} (eb0 : q.2.2.1 a1 0 = b0)  (hy0 : 0 ≤ n1.toInt) (hy1 : n1.toInt < 3) : CMv l dC dI h L yX9_writeTo wsX9_writeTo ({ frames := 2, cells := 0, slots := 0, locals := 46 } : Room) q [.ref a0, .ref a1, .int n1, .int n2] (fun q' => sx_V h L q' ∧ sx_fr h L (fun a => a = a1 ∧ h.1 a = 7 ∨ a = b0 ∧ h.1 a = 300) q q') := by
  refine cm_v (cc := cX9_writeTo) (mL := 9) (own := RX9) hN (by decide) rfl rfl (Nat.le_of_ble_eq_true rfl) (fun Z B hret => ?_)
  have hF : sx_fr h L (fun a => a = a1 ∧ h.1 a = 7 ∨ a = b0 ∧ h.1 a = 300) q q := sx_fr.rf
  obtain ⟨hb0, kb0⟩ : b0 ∈ L ∧ h.1 b0 = 300 := by obtain ⟨r9, e9, z1, z2⟩ := hV.ref (t := 300) ha1 ka1 0 rfl (by decide); rw [← eb0, e9]; exact ⟨z1, z2⟩
  show WA l dC dI h L ({ frames := 2, cells := 0, slots := 0, locals := 46 } : Room) 9 Z q 0 [(0, .ref a0), (1, .ref a1), (2, .int n1), (3, .int n2)] []
  refine wa_iload_n B dX9_writeTo_0 rfl 3 rfl ?_
  refine wa_istore B [(4, .int n2), (0, .ref a0), (1, .ref a1), (2, .int n1), (3, .int n2)] dX9_writeTo_1 (by decide) rfl ?_
  refine wa_aload_n B dX9_writeTo_3 rfl 1 rfl ?_
  obtain ⟨a_1, ea_1, ha_1, ka_1, la_1⟩ := hV.refn (n := 3) (t := 101) ha0 ka0 1 rfl (by decide) rfl (by decide)
  refine wa_getR B (C := RX9) (T := TX9) (N := 7) iq_X9_writeTo_X9 ha0 ka0 (by decide) rfl 1 (by decide) (by decide) (by decide +kernel) rfl (fun _ _ _ => rfl) (v := a_1) ea_1 dX9_writeTo_4 ?_
  refine wa_iload_n B dX9_writeTo_7 rfl 3 rfl ?_
  refine wa_iaload B ha_1 ka_1 (by decide) (by decide) (show 0 ≤ n1.toInt by omega) (show n1.toInt < (h.2.1 a_1 : Int) by omega) (v := (q.2.2.2.1 a_1 (n1 : Int32).toNatClampNeg)) rfl dX9_writeTo_8 ?_
  have g_2 : (0 : Int) ≤ ((q.2.2.2.1 a_1 (n1 : Int32).toNatClampNeg)).toInt ∧ ((q.2.2.2.1 a_1 (n1 : Int32).toNatClampNeg)).toInt ≤ 5 := hV.cnt ha_1 ka_1 _
  refine wa_iconst B 1 dX9_writeTo_9 (by decide) ?_
  refine wa_isub B dX9_writeTo_10 (fun v_3 ev_3 => ?_)
  refine wa_istore B [(5, .int v_3), (4, .int n2), (0, .ref a0), (1, .ref a1), (2, .int n1), (3, .int n2)] dX9_writeTo_11 (by decide) rfl ?_
  have Lp_13_9 : ∀ (n : Nat) (v_4 : Int32) (v_5 : Int32) (q_6 : Sg), sx_V h L q_6 → sx_fr h L (fun a => a = a1 ∧ h.1 a = 7 ∨ a = b0 ∧ h.1 a = 300) q q_6 → q_6.2.2.1 a1 0 = b0 → q_6.2.2.1 a0 1 = a_1 → q_6.2.2.2.1 a_1 = (q.2.2.2.1 a_1) → (-1) ≤ v_4.toInt → v_4.toInt ≤ 4 → (v_4.toInt + 1 : Int).toNat < n → WA l dC dI h L ({ frames := 2, cells := 0, slots := 0, locals := 46 } : Room) 9 Z q_6 13 [(5, .int v_4), (4, .int v_5), (0, .ref a0), (1, .ref a1), (2, .int n1), (3, .int n2)] [] := by
    intro n
    induction n with
    | zero =>
      intro v_4 v_5 q_6 hV_q_6 hF_q_6 p0_q_6 p1_q_6 p2_q_6 x_7 x_8 hn
      exact absurd hn (Nat.not_lt_zero _)
    | succ n ih_10 =>
      intro v_4 v_5 q_6 hV_q_6 hF_q_6 p0_q_6 p1_q_6 p2_q_6 x_7 x_8 hn
      refine wa_iload B dX9_writeTo_13 0 rfl ?_
      refine wa_if_lt B 85 dX9_writeTo_15 (by decide) (fun (t_11 : v_4.toInt < 0) => ?_) (fun (t_11 : ¬ v_4.toInt < 0) => ?_)
      · exact hret _ _ _ dX9_writeTo_85 ⟨hV_q_6, hF_q_6⟩
      · refine wa_iload_n B dX9_writeTo_18 rfl 4 rfl ?_
        refine wa_iload B dX9_writeTo_19 0 rfl ?_
        refine wa_callSi B (As := [.int n1, .int v_4]) (rest := []) (k_X9_slot l dC dI h L hN q_6 hV_q_6 n1 v_4  (by first | assumption | omega | decide) (by first | assumption | omega | decide) (by first | assumption | omega | decide) (by first | assumption | omega | decide)) (va_cwS 2 B.1.2.2.2.2 gX9_writeTo_X9_slot rfl rfl rfl (by decide +kernel) ⟨Nat.le_of_ble_eq_true rfl, Nat.le_of_ble_eq_true rfl⟩) rfl rfl (Nat.le_of_ble_eq_true rfl) dX9_writeTo_21 (fun r_13 q_12 w_14 => ?_)
        obtain ⟨ew_14, hw_14⟩ := w_14
        subst ew_14
        refine wa_istore B [(6, .int r_13), (5, .int v_4), (4, .int v_5), (0, .ref a0), (1, .ref a1), (2, .int n1), (3, .int n2)] dX9_writeTo_24 (by decide) rfl ?_
        refine wa_aload_n B dX9_writeTo_26 rfl 3 rfl ?_
        obtain ⟨a_15, ea_15, ha_15, ka_15, la_15⟩ := hV_q_6.refn (n := 15) (t := 103) ha0 ka0 4 rfl (by decide) rfl (by decide)
        refine wa_getR B (C := RX9) (T := TX9) (N := 7) iq_X9_writeTo_X9 ha0 ka0 (by decide) rfl 4 (by decide) (by decide) (by decide +kernel) rfl (fun _ _ _ => rfl) (v := a_15) ea_15 dX9_writeTo_27 ?_
        refine wa_iload B dX9_writeTo_30 0 rfl ?_
        refine wa_iaload B ha_15 ka_15 (by decide) (by decide) (show 0 ≤ r_13.toInt by omega) (show r_13.toInt < (h.2.1 a_15 : Int) by omega) (v := (q_6.2.2.2.1 a_15 (r_13 : Int32).toNatClampNeg)) rfl dX9_writeTo_32 ?_
        refine wa_istore B [(7, .int ((q_6.2.2.2.1 a_15 (r_13 : Int32).toNatClampNeg))), (6, .int r_13), (5, .int v_4), (4, .int v_5), (0, .ref a0), (1, .ref a1), (2, .int n1), (3, .int n2)] dX9_writeTo_33 (by decide) rfl ?_
        refine wa_iload B dX9_writeTo_35 0 rfl ?_
        have Jn_49_17 : ∀  (v_16 : Int32), WA l dC dI h L ({ frames := 2, cells := 0, slots := 0, locals := 46 } : Room) 9 Z q_6 49 [(7, .int ((q_6.2.2.2.1 a_15 (r_13 : Int32).toNatClampNeg))), (6, .int r_13), (5, .int v_4), (4, .int v_5), (0, .ref a0), (1, .ref a1), (2, .int n1), (3, .int n2)] [.int v_16] := by
          intro v_16
          refine wa_istore B [(8, .int v_16), (7, .int ((q_6.2.2.2.1 a_15 (r_13 : Int32).toNatClampNeg))), (6, .int r_13), (5, .int v_4), (4, .int v_5), (0, .ref a0), (1, .ref a1), (2, .int n1), (3, .int n2)] dX9_writeTo_49 (by decide) rfl ?_
          refine wa_iload B dX9_writeTo_51 4 rfl ?_
          refine wa_iload B dX9_writeTo_53 0 rfl ?_
          refine wa_iload B dX9_writeTo_55 1 rfl ?_
          refine wa_imul B dX9_writeTo_57 (fun v_18 ev_18 => ?_)
          refine wa_isub B dX9_writeTo_58 (fun v_19 ev_19 => ?_)
          refine wa_istore B [(4, .int v_19), (8, .int v_16), (7, .int ((q_6.2.2.2.1 a_15 (r_13 : Int32).toNatClampNeg))), (6, .int r_13), (5, .int v_4), (0, .ref a0), (1, .ref a1), (2, .int n1), (3, .int n2)] dX9_writeTo_59 (by decide) rfl ?_
          refine wa_iload B dX9_writeTo_61 1 rfl ?_
          refine wa_if_le B 79 dX9_writeTo_63 (by decide) (fun (t_20 : v_16.toInt ≤ 0) => ?_) (fun (t_20 : ¬ v_16.toInt ≤ 0) => ?_)
          · obtain ⟨v_21, ev_21⟩ : ∃ z : Int32, z = v_4 + (-1) := ⟨_, rfl⟩
            refine wa_iinc B [(5, .int v_21), (4, .int v_19), (8, .int v_16), (7, .int ((q_6.2.2.2.1 a_15 (r_13 : Int32).toNatClampNeg))), (6, .int r_13), (0, .ref a0), (1, .ref a1), (2, .int n1), (3, .int n2)] v_21 dX9_writeTo_79 4 rfl (by rw [ev_21]; rfl) (by decide) rfl ?_
            refine wa_goto B 13 dX9_writeTo_82 (by decide) ?_
            have tv_21 : v_21.toInt = v_4.toInt + (-1) := by have b0 := zx_bd v_4; rw [ev_21]; exact zx_add (show (-2147483648 : Int) ≤ v_4.toInt + (-1) by omega) (show v_4.toInt + (-1) < (2147483648 : Int) by omega)
            refine WA.sub [0, 1, 5, 6, 7, 8] rfl ?_
            exact ih_10 v_21 v_19 q_6 hV_q_6 hF_q_6 p0_q_6 p1_q_6 p2_q_6 (show (-1) ≤ v_21.toInt from by first | assumption | omega | decide) (show v_21.toInt ≤ 4 from by first | assumption | omega | decide) (show (v_21.toInt + 1 : Int).toNat < _ from by omega)
          · refine wa_aload_n B dX9_writeTo_66 rfl 6 rfl ?_
            refine wa_iload B dX9_writeTo_67 1 rfl ?_
            refine wa_aload_n B dX9_writeTo_69 rfl 5 rfl ?_
            obtain ⟨a_22, ea_22, ha_22, ka_22, la_22⟩ := hV_q_6.refn (n := 15) (t := 202) ha0 ka0 2 rfl (by decide) rfl (by decide)
            refine wa_getR B (C := RX9) (T := TX9) (N := 7) iq_X9_writeTo_X9 ha0 ka0 (by decide) rfl 2 (by decide) (by decide) (by decide +kernel) rfl (fun _ _ _ => rfl) (v := a_22) ea_22 dX9_writeTo_70 ?_
            refine wa_iload B dX9_writeTo_73 3 rfl ?_
            refine wa_laload B ha_22 ka_22 (by decide) (by decide) (show 0 ≤ r_13.toInt by omega) (show r_13.toInt < (h.2.1 a_22 : Int) by omega) (v := (q_6.2.2.2.2 a_22 (r_13 : Int32).toNatClampNeg)) rfl dX9_writeTo_75 ?_
            refine wa_callSv B (As := [.ref a1, .int v_16, .long ((q_6.2.2.2.2 a_22 (r_13 : Int32).toNatClampNeg))]) (rest := []) (k_X9_writeAmount l dC dI h L hN q_6 hV_q_6 (a0 := a1) ha1 ka1 v_16 ((q_6.2.2.2.2 a_22 (r_13 : Int32).toNatClampNeg)) (b0 := b0) p0_q_6  ) (va_cwS 3 B.1.2.2.2.2 gX9_writeTo_X9_writeAmount rfl rfl rfl (by decide +kernel) ⟨Nat.le_of_ble_eq_true rfl, Nat.le_of_ble_eq_true rfl⟩) rfl rfl (Nat.le_of_ble_eq_true rfl) dX9_writeTo_76 (fun q_23 w_24 => ?_)
            obtain ⟨hV_q_23, h2_q_23⟩ := w_24
            have hF_q_23 : sx_fr h L (fun a => a = a1 ∧ h.1 a = 7 ∨ a = b0 ∧ h.1 a = 300) q q_23 := hF_q_6.tr (h2_q_23.mono (fun a (z : a = a1 ∧ h.1 a = 7 ∨ a = b0 ∧ h.1 a = 300) => (show a = a1 ∧ h.1 a = 7 ∨ a = b0 ∧ h.1 a = 300 from by omega)))
            obtain ⟨v_25, ev_25⟩ : ∃ z : Int32, z = v_4 + (-1) := ⟨_, rfl⟩
            refine wa_iinc B [(5, .int v_25), (4, .int v_19), (8, .int v_16), (7, .int ((q_6.2.2.2.1 a_15 (r_13 : Int32).toNatClampNeg))), (6, .int r_13), (0, .ref a0), (1, .ref a1), (2, .int n1), (3, .int n2)] v_25 dX9_writeTo_79 4 rfl (by rw [ev_25]; rfl) (by decide) rfl ?_
            refine wa_goto B 13 dX9_writeTo_82 (by decide) ?_
            have tv_25 : v_25.toInt = v_4.toInt + (-1) := by have b0 := zx_bd v_4; rw [ev_25]; exact zx_add (show (-2147483648 : Int) ≤ v_4.toInt + (-1) by omega) (show v_4.toInt + (-1) < (2147483648 : Int) by omega)
            have z_26 : q_23.2.2.1 a1 0 = b0 := (h2_q_23.R ha1 (show ¬ ((a1 = a1 ∧ h.1 a1 = 7 ∨ a1 = b0 ∧ h.1 a1 = 300) ∧ (h.1 a1 = 8 ∨ h.1 a1 = 11)) from by omega) 0).trans (p0_q_6)
            have z_27 : q_23.2.2.1 a0 1 = a_1 := (h2_q_23.R ha0 (show ¬ ((a0 = a1 ∧ h.1 a0 = 7 ∨ a0 = b0 ∧ h.1 a0 = 300) ∧ (h.1 a0 = 8 ∨ h.1 a0 = 11)) from by omega) 1).trans (p1_q_6)
            have z_28 : q_23.2.2.2.1 a_1 = (q.2.2.2.1 a_1) := (h2_q_23.G ha_1 (show ¬ (a_1 = a1 ∧ h.1 a_1 = 7 ∨ a_1 = b0 ∧ h.1 a_1 = 300) from by omega) (by rw [ka_1]; decide)).trans (p2_q_6)
            refine WA.sub [0, 1, 5, 6, 7, 8] rfl ?_
            exact ih_10 v_25 v_19 q_23 hV_q_23 hF_q_23 z_26 z_27 z_28 (show (-1) ≤ v_25.toInt from by first | assumption | omega | decide) (show v_25.toInt ≤ 4 from by first | assumption | omega | decide) (show (v_25.toInt + 1 : Int).toNat < _ from by omega)
        refine wa_if_le B 48 dX9_writeTo_37 (by decide) (fun (t_29 : ((q_6.2.2.2.1 a_15 (r_13 : Int32).toNatClampNeg)).toInt ≤ 0) => ?_) (fun (t_29 : ¬ ((q_6.2.2.2.1 a_15 (r_13 : Int32).toNatClampNeg)).toInt ≤ 0) => ?_)
        · refine wa_iconst B 0 dX9_writeTo_48 (by decide) ?_
          exact Jn_49_17 0
        · refine wa_iload B dX9_writeTo_40 3 rfl ?_
          refine wa_iload B dX9_writeTo_42 0 rfl ?_
          refine wa_idiv B dX9_writeTo_44 (fun z => absurd (show ((q_6.2.2.2.1 a_15 (r_13 : Int32).toNatClampNeg)).toInt = (0 : Int) from zx_eq.mp z) (by omega)) (fun v_30 ev_30 => ?_)
          refine wa_goto B 49 dX9_writeTo_45 (by decide) ?_
          exact Jn_49_17 v_30
  have tv_3 : v_3.toInt = ((q.2.2.2.1 a_1 (n1 : Int32).toNatClampNeg)).toInt - 1 := by have b0 := zx_bd ((q.2.2.2.1 a_1 (n1 : Int32).toNatClampNeg)); rw [ev_3]; exact zx_sub (show (-2147483648 : Int) ≤ ((q.2.2.2.1 a_1 (n1 : Int32).toNatClampNeg)).toInt - 1 by omega) (show ((q.2.2.2.1 a_1 (n1 : Int32).toNatClampNeg)).toInt - 1 < (2147483648 : Int) by omega)
  exact Lp_13_9 _ v_3 n2 q hV hF eb0 ea_1 rfl (show (-1) ≤ v_3.toInt from by first | assumption | omega | decide) (show v_3.toInt ≤ 4 from by first | assumption | omega | decide) (Nat.lt_succ_self _)
