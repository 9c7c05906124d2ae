theorem iq_X9_find_X9 : ∀ w ∈ wsX90, w ∈ wsX9_find := fun _ h => List.mem_cons_of_mem _ (List.mem_append_right _ h)
set_option maxHeartbeats 4000000 in
set_option maxRecDepth 100000 in
theorem k_X9_find (l : Launch) (dC : Nat → ClassId) (dI : Nat → Nat → Nat) (h : Sh) (L : List Nat) (hN : sx_nd L) (q : Sg) (hV : sx_V h L q) {a0 : Nat} (ha0 : a0 ∈ L) (ka0 : h.1 a0 = 9) (n1 : Int64)  : CMi l dC dI h L yX9_find wsX9_find ({ frames := 0, cells := 0, slots := 0, locals := 0 } : Room) q [.ref a0, .long n1] (fun r q' => sx_V h L q' ∧ sx_fr L (fun a => False) q q' ∧ sx_in r (-1) 14) := by
  intro sz
  refine Met.ofW (cc := cX9_find) (maxL := 4) (ret := (some .int)) (by decide) rfl ?_
  intro p e s m args below meth c s₁ B hml hv
  obtain ⟨rfl, hsz, hP, hK⟩ := hv
  have hx := B.exec
  have hb := B.bytes
  have hr := B.returns
  have hts := atoms_spec (ws := wsX9_find) B.pre
  have hown : s.vm.findClass RX9 = some m.cls := findClass_of_methodNamed B.named
  have hlocks := B.notSynchronized
  subst hsz
  have hD : ∀ g, va_D (AL L s.heap.size) (va_pl L g) := AL_D hN s.heap.size
  have hS : va_S (AL L s.heap.size) s.heap s.heap [] := va_S.rf
  have hF : sx_fr L (fun a => False) q q := sx_fr.rf
  have hl := lv_entry ([.ref a0, .long n1]) (n := 4) (Nat.le_of_ble_eq_true rfl)
  rw [lg_entry_eq]
  generalize (lg_sl ([.ref a0, .long n1]) ++ List.replicate (4 - (lg_sl ([.ref a0, .long n1])).length) Slot.unset).toArray = ls at hl ⊢
  have hl : lv_has ls 4 [(0, .ref a0), (1, .long n1)] := hl
  refine lv_iconst (v := 0) hx hb dX9_find_0 (by decide) ?_
  refine lv_istore_n (lv' := [(3, .int 0), (0, .ref a0), (1, .long n1)]) hx hb dX9_find_1 rfl hl (by decide) rfl (fun ls hl => ?_)
  obtain ⟨v_1, ev_1⟩ : ∃ z : Int32, z = 0 := ⟨_, rfl⟩
  replace hl : lv_has ls 4 [(3, .int v_1), (0, .ref a0), (1, .long n1)] := by rw [ev_1]; exact hl
  have hv_1_0 : 0 ≤ (v_1).toInt := by rw [ev_1]; decide
  clear ev_1
  obtain ⟨n, hn⟩ : ∃ n : Nat, (15 - (v_1).toInt).toNat < n := ⟨_, Nat.lt_succ_self _⟩
  induction n generalizing v_1 ls with
  | zero => exact absurd hn (Nat.not_lt_zero _)
  | succ n ih =>
    refine lv_iload_n hx hb dX9_find_2 rfl (lv_at hl 0 rfl) ?_
    refine lv_bipush (v := 15) hx hb dX9_find_3 (by decide) ?_
    refine lv_icmp_ge (tgt := 27) hx hb dX9_find_5 (by decide) (fun c_2 => ?_) (fun c_2 => ?_)
    · have tc_2 : 15 ≤ v_1.toInt := zx_le.mp c_2
      refine lv_iconst (v := (-1)) hx hb dX9_find_27 (by decide) ?_
      exact W.iret (v := (-1)) hx hb hr (fun t ht hW => ⟨⟨(-1), q, rfl, ⟨hV, hF, by unfold sx_in; first | omega | decide⟩, by unfold sx_at; rw [ht]; exact hP⟩, hS.F ht⟩) hS.2.2 dX9_find_28
    · have tc_2 : ¬ 15 ≤ v_1.toInt := fun z => c_2 (zx_le.mpr z)
      refine lv_aload_n hx hb dX9_find_8 rfl (lv_at hl 1 rfl) ?_
      refine pl_get (D := (dC, dI)) (v := .ref (q.2.2.1 a0 2)) (C := RX9) (T := TX9) (N := 7) hx hb hts iq_X9_find_X9 hown hK hP ha0 (sg_F_o ka0 (by decide)) rfl 2 (by decide) (hts (.fieldLink RX9 19 "ClayAccounts$Units" "names" "[J") (by decide +kernel)) (fun _ h9 => h9) (sg_fs_at (by decide)) dX9_find_9 ?_
      obtain ⟨ha_3, ka_3, na_3⟩ := hV.ref (k := 2) ha0 (by rw [ka0]; decide)
      rw [ka0] at ka_3 na_3
      have ka_3 : h.1 (q.2.2.1 a0 2) = 200 := ka_3
      have l_4 : h.2.1 (q.2.2.1 a0 2) = 15 := na_3 (by decide)
      refine lv_iload_n hx hb dX9_find_12 rfl (lv_at hl 0 rfl) ?_
      refine pl_lald hx hb hK hP ha_3 1 (sg_F_l ka_3 (by decide) (by decide)) rfl (vp_in_iff.mpr ⟨by omega, by omega⟩) dX9_find_13 ?_
      refine lv_lload_n hx hb dX9_find_14 rfl (lv_at hl 2 rfl) ?_
      refine W.lcmp hx hb dX9_find_15 ?_
      refine lv_topi (fun v_5 ev_5 => ?_)
      refine lv_if_ne (tgt := 21) hx hb dX9_find_16 (by decide) (fun c_6 => ?_) (fun c_6 => ?_)
      · have tc_6 : ¬ v_5.toInt = 0 := fun z => c_6 (Int32.toInt_inj.mp z)
        obtain ⟨v_7, ev_7⟩ : ∃ z : Int32, z = v_1 + 1 := ⟨_, rfl⟩
        have tv_7 : v_7.toInt = v_1.toInt + 1 := by rw [ev_7]; exact zx_add (show (-2147483648 : Int) ≤ v_1.toInt + 1 by omega) (show v_1.toInt + 1 < (2147483648 : Int) by omega)
        refine lv_iinc (v := v_7) (lv' := [(3, .int v_7), (0, .ref a0), (1, .long n1)]) hx hb dX9_find_21 hl (k := 0) rfl (by rw [ev_7]; rfl) (by decide) rfl (fun ls hl => ?_)
        refine lv_goto (tgt := 2) hx hb dX9_find_24 (by decide) ?_
        apply ih (v_1 := v_7)
        all_goals first | exact hl | exact hP | exact hV | exact hF | exact hS | assumption | omega
      · have tc_6 : v_5.toInt = 0 := congrArg Int32.toInt c_6
        refine lv_iload_n hx hb dX9_find_19 rfl (lv_at hl 0 rfl) ?_
        exact W.iret (v := v_1) hx hb hr (fun t ht hW => ⟨⟨v_1, q, rfl, ⟨hV, hF, by unfold sx_in; first | omega | decide⟩, by unfold sx_at; rw [ht]; exact hP⟩, hS.F ht⟩) hS.2.2 dX9_find_20
theorem iq_X9_isTaken_X9 : ∀ w ∈ wsX90, w ∈ wsX9_isTaken := fun _ h => List.mem_cons_of_mem _ (List.mem_append_right _ h)
set_option maxHeartbeats 4000000 in
set_option maxRecDepth 100000 in
theorem k_X9_isTaken (l : Launch) (dC : Nat → ClassId) (dI : Nat → Nat → Nat) (h : Sh) (L : List Nat) (hN : sx_nd L) (q : Sg) (hV : sx_V h L q) {a0 : Nat} (ha0 : a0 ∈ L) (ka0 : h.1 a0 = 9) (n1 : Int64)  : CMi l dC dI h L yX9_isTaken wsX9_isTaken ({ frames := 1, cells := 0, slots := 0, locals := 23 } : Room) q [.ref a0, .long n1] (fun r q' => sx_V h L q' ∧ sx_fr L (fun a => False) q q' ∧ (r = 0 ∨ r = 1)) := by
  intro sz
  refine Met.ofW (cc := cX9_isTaken) (maxL := 4) (ret := (some .boolean)) (by decide) rfl ?_
  intro p e s m args below meth c s₁ B hml hv
  obtain ⟨rfl, hsz, hP, hK⟩ := hv
  have hx := B.exec
  have hb := B.bytes
  have hr := B.returns
  have hts := atoms_spec (ws := wsX9_isTaken) B.pre
  have hown : s.vm.findClass RX9 = some m.cls := findClass_of_methodNamed B.named
  have hlocks := B.notSynchronized
  subst hsz
  have hD : ∀ g, va_D (AL L s.heap.size) (va_pl L g) := AL_D hN s.heap.size
  have hS : va_S (AL L s.heap.size) s.heap s.heap [] := va_S.rf
  have hF : sx_fr L (fun a => False) q q := sx_fr.rf
  have hl := lv_entry ([.ref a0, .long n1]) (n := 4) (Nat.le_of_ble_eq_true rfl)
  rw [lg_entry_eq]
  generalize (lg_sl ([.ref a0, .long n1]) ++ List.replicate (4 - (lg_sl ([.ref a0, .long n1])).length) Slot.unset).toArray = ls at hl ⊢
  have hl : lv_has ls 4 [(0, .ref a0), (1, .long n1)] := hl
  refine lv_iconst (v := 0) hx hb dX9_isTaken_0 (by decide) ?_
  refine lv_istore_n (lv' := [(3, .int 0), (0, .ref a0), (1, .long n1)]) hx hb dX9_isTaken_1 rfl hl (by decide) rfl (fun ls hl => ?_)
  obtain ⟨v_1, ev_1⟩ : ∃ z : Int32, z = 0 := ⟨_, rfl⟩
  replace hl : lv_has ls 4 [(3, .int v_1), (0, .ref a0), (1, .long n1)] := by rw [ev_1]; exact hl
  have hv_1_0 : 0 ≤ (v_1).toInt := by rw [ev_1]; decide
  clear ev_1
  obtain ⟨n, hn⟩ : ∃ n : Nat, (3 - (v_1).toInt).toNat < n := ⟨_, Nat.lt_succ_self _⟩
  induction n generalizing v_1 ls with
  | zero => exact absurd hn (Nat.not_lt_zero _)
  | succ n ih =>
    refine lv_iload_n hx hb dX9_isTaken_2 rfl (lv_at hl 0 rfl) ?_
    refine lv_iconst (v := 3) hx hb dX9_isTaken_3 (by decide) ?_
    refine lv_icmp_ge (tgt := 26) hx hb dX9_isTaken_4 (by decide) (fun c_2 => ?_) (fun c_2 => ?_)
    · have tc_2 : 3 ≤ v_1.toInt := zx_le.mp c_2
      refine lv_aload_n hx hb dX9_isTaken_26 rfl (lv_at hl 1 rfl) ?_
      refine lv_lload_n hx hb dX9_isTaken_27 rfl (lv_at hl 2 rfl) ?_
      refine pl_callVi (x := (RX9, TX9, 7)) (As := [.long n1]) (rest := []) ⟨hx, hb, hml, hown, hts⟩ (k_X9_find l dC dI h L hN q hV (a0 := a0) ha0 ka0 n1 ) (cwV 1 hts gX9_isTaken_X9_find rfl rfl rfl (by decide +kernel) ⟨Nat.le_of_ble_eq_true rfl, Nat.le_of_ble_eq_true rfl⟩) hK hP hS ha0 ka0 (by decide) rfl rfl hl.1 rfl (Nat.le_of_ble_eq_true rfl) dX9_isTaken_28 ⟨Nat.zero_le _, Nat.zero_le _⟩ (fun r_4 q_3 H locs hw hP hS => ?_)
      obtain ⟨hV, hF2, w_5⟩ := hw
      have hF : sx_fr L (fun a => False) q q_3 := hF.tr (hF2.mono (fun a z => by first | exact z | exact z.elim | exact Or.inl z | exact Or.inr z | (simp_all; done)))
      have y_6 : q_3.1 a0 = q.1 a0 := (hF2 a0 ha0 (by exact id)).1
      refine lv_iconst (v := (-1)) hx hb dX9_isTaken_31 (by decide) ?_
      refine lv_icmp_eq (tgt := 39) hx hb dX9_isTaken_32 (by decide) (fun c_7 => ?_) (fun c_7 => ?_)
      · have tc_7 : r_4.toInt = (-1) := congrArg Int32.toInt c_7
        refine lv_iconst (v := 0) hx hb dX9_isTaken_39 (by decide) ?_
        exact W.zret (v := 0) hx hb hr rfl (fun t ht hW => ⟨⟨0, q_3, rfl, ⟨hV, hF, by first | exact Or.inl rfl | exact Or.inr rfl | assumption⟩, by unfold sx_at; rw [ht]; exact hP⟩, hS.F ht⟩) hS.2.2 dX9_isTaken_40
      · have tc_7 : ¬ r_4.toInt = (-1) := fun z => c_7 (Int32.toInt_inj.mp z)
        refine lv_iconst (v := 1) hx hb dX9_isTaken_35 (by decide) ?_
        refine lv_goto (tgt := 40) hx hb dX9_isTaken_36 (by decide) ?_
        exact W.zret (v := 1) hx hb hr rfl (fun t ht hW => ⟨⟨1, q_3, rfl, ⟨hV, hF, by first | exact Or.inl rfl | exact Or.inr rfl | assumption⟩, by unfold sx_at; rw [ht]; exact hP⟩, hS.F ht⟩) hS.2.2 dX9_isTaken_40
    · have tc_2 : ¬ 3 ≤ v_1.toInt := fun z => c_2 (zx_le.mpr z)
      refine lv_aload_n hx hb dX9_isTaken_7 rfl (lv_at hl 1 rfl) ?_
      refine pl_get (D := (dC, dI)) (v := .ref (q.2.2.1 a0 0)) (C := RX9) (T := TX9) (N := 7) hx hb hts iq_X9_isTaken_X9 hown hK hP ha0 (sg_F_o ka0 (by decide)) rfl 0 (by decide) (hts (.fieldLink RX9 9 "ClayAccounts$Units" "systemNames" "[J") (by decide +kernel)) (fun _ h9 => h9) (sg_fs_at (by decide)) dX9_isTaken_8 ?_
      obtain ⟨ha_8, ka_8, na_8⟩ := hV.ref (k := 0) ha0 (by rw [ka0]; decide)
      rw [ka0] at ka_8 na_8
      have ka_8 : h.1 (q.2.2.1 a0 0) = 200 := ka_8
      have l_9 : h.2.1 (q.2.2.1 a0 0) = 3 := na_8 (by decide)
      refine lv_iload_n hx hb dX9_isTaken_11 rfl (lv_at hl 0 rfl) ?_
      refine pl_lald hx hb hK hP ha_8 1 (sg_F_l ka_8 (by decide) (by decide)) rfl (vp_in_iff.mpr ⟨by omega, by omega⟩) dX9_isTaken_12 ?_
      refine lv_lload_n hx hb dX9_isTaken_13 rfl (lv_at hl 2 rfl) ?_
      refine W.lcmp hx hb dX9_isTaken_14 ?_
      refine lv_topi (fun v_10 ev_10 => ?_)
      refine lv_if_ne (tgt := 20) hx hb dX9_isTaken_15 (by decide) (fun c_11 => ?_) (fun c_11 => ?_)
      · have tc_11 : ¬ v_10.toInt = 0 := fun z => c_11 (Int32.toInt_inj.mp z)
        obtain ⟨v_12, ev_12⟩ : ∃ z : Int32, z = v_1 + 1 := ⟨_, rfl⟩
        have tv_12 : v_12.toInt = v_1.toInt + 1 := by rw [ev_12]; exact zx_add (show (-2147483648 : Int) ≤ v_1.toInt + 1 by omega) (show v_1.toInt + 1 < (2147483648 : Int) by omega)
        refine lv_iinc (v := v_12) (lv' := [(3, .int v_12), (0, .ref a0), (1, .long n1)]) hx hb dX9_isTaken_20 hl (k := 0) rfl (by rw [ev_12]; rfl) (by decide) rfl (fun ls hl => ?_)
        refine lv_goto (tgt := 2) hx hb dX9_isTaken_23 (by decide) ?_
        apply ih (v_1 := v_12)
        all_goals first | exact hl | exact hP | exact hV | exact hF | exact hS | assumption | omega
      · have tc_11 : v_10.toInt = 0 := congrArg Int32.toInt c_11
        refine lv_iconst (v := 1) hx hb dX9_isTaken_18 (by decide) ?_
        exact W.zret (v := 1) hx hb hr rfl (fun t ht hW => ⟨⟨1, q, rfl, ⟨hV, hF, by first | exact Or.inl rfl | exact Or.inr rfl | assumption⟩, by unfold sx_at; rw [ht]; exact hP⟩, hS.F ht⟩) hS.2.2 dX9_isTaken_19
