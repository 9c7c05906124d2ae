theorem iq_X8_begin_X8 : ∀ w ∈ wsX80, w ∈ wsX8_begin := fun _ h => List.mem_cons_of_mem _ (List.mem_append_right _ h)
set_option maxHeartbeats 4000000 in
set_option maxRecDepth 100000 in
theorem k_X8_begin (l : Launch) (dC : Nat → ClassId) (dI : Nat → Nat → Nat) (h : Sh) (L : List Nat) (hN : sx_nd L) (q : Sg) (hV : sx_V h L q) {a0 : Nat} (ha0 : a0 ∈ L) (ka0 : h.1 a0 = 8) {a1 : Nat} (ha1 : a1 ∈ L) (ka1 : h.1 a1 = 7) (n1 : Int32) (n2 : Int32) (hn2 : n2 = 0 ∨ n2 = 1) : CMv l dC dI h L yX8_begin wsX8_begin ({ frames := 0, cells := 0, slots := 0, locals := 0 } : Room) q [.ref a0, .ref a1, .int n1, .int n2] (fun q' => sx_V h L q' ∧ sx_fr L (fun a => h.1 a = 8) q q') := by
  intro sz
  refine Met.ofW (cc := cX8_begin) (maxL := 4) (ret := none) (by decide) rfl ?_
  intro p e s m args below meth c s₁ B hml hv
  obtain ⟨rfl, hsz, hP, hK⟩ := hv
  have hx := B.exec
  have hb := B.bytes
  have hr := B.returns
  have hts := atoms_spec (ws := wsX8_begin) B.pre
  have hown : s.vm.findClass RX8 = some m.cls := findClass_of_methodNamed B.named
  have hlocks := B.notSynchronized
  subst hsz
  have hD : ∀ g, va_D (AL L s.heap.size) (va_pl L g) := AL_D hN s.heap.size
  have hS : va_S (AL L s.heap.size) s.heap s.heap [] := va_S.rf
  have hF : sx_fr L (fun a => h.1 a = 8) q q := sx_fr.rf
  have hl := lv_entry ([.ref a0, .ref a1, .int n1, .int n2]) (n := 4) (Nat.le_of_ble_eq_true rfl)
  rw [lg_entry_eq]
  generalize (lg_sl ([.ref a0, .ref a1, .int n1, .int n2]) ++ List.replicate (4 - (lg_sl ([.ref a0, .ref a1, .int n1, .int n2])).length) Slot.unset).toArray = ls at hl ⊢
  have hl : lv_has ls 4 [(0, .ref a0), (1, .ref a1), (2, .int n1), (3, .int n2)] := hl
  refine lv_aload_n hx hb dX8_begin_0 rfl (lv_at hl 0 rfl) ?_
  refine lv_aload_n hx hb dX8_begin_1 rfl (lv_at hl 1 rfl) ?_
  refine pl_put (D := (dC, dI)) (ty := .object "ClayAccounts$Text") (v := .ref a1) (C := RX8) (T := TX8) (N := 11) hx hb hts iq_X8_begin_X8 tyX8 tyX8_ok nmX8 hown hK hP hD hS ha0 (sg_F_o ka0 (by decide)) rfl 7 (by decide) (hts (.fieldLink RX8 14 "ClayAccounts$Tokens" "text" "LClayAccounts$Text;") (by decide +kernel)) (fun _ h9 => h9) rfl (by decide +kernel) rfl rfl (by rw [sg_fs_len]; decide) dX8_begin_2 (fun H locs hP hS => ?_)
  rw [sg_upR ka0 (by decide) (by decide) (fun _ _ => rfl)] at hP
  obtain ⟨q_1, eq_1⟩ : ∃ z, z = sg_pR q a0 7 a1 := ⟨_, rfl⟩
  rw [← eq_1] at hP
  have hV : sx_V h L q_1 := by rw [eq_1]; exact hV.pR (by rw [ka0]; decide) (fun _ => ⟨ha1, by rw [ka1, ka0]; rfl, fun z => absurd z (by rw [ka0]; decide)⟩)
  have hF : sx_fr L (fun a => h.1 a = 8) q q_1 := hF.tr (by rw [eq_1]; exact sx_fr.pR (by first | exact ka0 | exact Or.inl ka0 | exact Or.inr ka0 | rfl | simp [ka0]))
  refine lv_aload_n hx hb dX8_begin_5 rfl (lv_at hl 0 rfl) ?_
  refine lv_iload_n hx hb dX8_begin_6 rfl (lv_at hl 2 rfl) ?_
  refine pl_put (D := (dC, dI)) (ty := .int) (v := .int n1) (C := RX8) (T := TX8) (N := 11) hx hb hts iq_X8_begin_X8 tyX8 tyX8_ok nmX8 hown hK hP hD hS ha0 (sg_F_o ka0 (by decide)) rfl 8 (by decide) (hts (.fieldLink RX8 20 "ClayAccounts$Tokens" "most" "I") (by decide +kernel)) (fun _ h9 => h9) rfl (by decide +kernel) rfl rfl (by rw [sg_fs_len]; decide) dX8_begin_7 (fun H locs hP hS => ?_)
  rw [sg_upI ka0 (by decide) (by decide) (Or.inl rfl)] at hP
  obtain ⟨q_2, eq_2⟩ : ∃ z, z = sg_pI q_1 a0 8 n1 := ⟨_, rfl⟩
  rw [← eq_2] at hP
  have hV : sx_V h L q_2 := by rw [eq_2]; exact hV.pI (by rw [ka0]; exact trivial)
  have hF : sx_fr L (fun a => h.1 a = 8) q q_2 := hF.tr (by rw [eq_2]; exact sx_fr.pI (by first | exact ka0 | exact Or.inl ka0 | exact Or.inr ka0 | rfl | simp [ka0]))
  refine lv_aload_n hx hb dX8_begin_10 rfl (lv_at hl 0 rfl) ?_
  refine lv_iload_n hx hb dX8_begin_11 rfl (lv_at hl 3 rfl) ?_
  refine pl_put (D := (dC, dI)) (ty := .boolean) (v := .int n2) (C := RX8) (T := TX8) (N := 11) hx hb hts iq_X8_begin_X8 tyX8 tyX8_ok nmX8 hown hK hP hD hS ha0 (sg_F_o ka0 (by decide)) rfl 9 (by decide) (hts (.fieldLink RX8 24 "ClayAccounts$Tokens" "withBroken" "Z") (by decide +kernel)) (fun _ h9 => h9) rfl (by decide +kernel) (by first | (rcases hn2 with z | z <;> rw [z] <;> rfl) | rfl) (by first | (rcases hn2 with z | z <;> rw [z] <;> rfl) | rfl) (by rw [sg_fs_len]; decide) dX8_begin_12 (fun H locs hP hS => ?_)
  rw [sg_upI ka0 (by decide) (by decide) (Or.inr rfl)] at hP
  obtain ⟨q_3, eq_3⟩ : ∃ z, z = sg_pI q_2 a0 9 n2 := ⟨_, rfl⟩
  rw [← eq_3] at hP
  have hV : sx_V h L q_3 := by rw [eq_3]; exact hV.pI (by rw [ka0]; exact trivial)
  have hF : sx_fr L (fun a => h.1 a = 8) q q_3 := hF.tr (by rw [eq_3]; exact sx_fr.pI (by first | exact ka0 | exact Or.inl ka0 | exact Or.inr ka0 | rfl | simp [ka0]))
  refine lv_aload_n hx hb dX8_begin_15 rfl (lv_at hl 0 rfl) ?_
  refine lv_iconst (v := 0) hx hb dX8_begin_16 (by decide) ?_
  refine pl_put (D := (dC, dI)) (ty := .int) (v := .int 0) (C := RX8) (T := TX8) (N := 11) hx hb hts iq_X8_begin_X8 tyX8 tyX8_ok nmX8 hown hK hP hD hS ha0 (sg_F_o ka0 (by decide)) rfl 10 (by decide) (hts (.fieldLink RX8 28 "ClayAccounts$Tokens" "at" "I") (by decide +kernel)) (fun _ h9 => h9) rfl (by decide +kernel) rfl rfl (by rw [sg_fs_len]; decide) dX8_begin_17 (fun H locs hP hS => ?_)
  rw [sg_upI ka0 (by decide) (by decide) (Or.inl rfl)] at hP
  obtain ⟨q_4, eq_4⟩ : ∃ z, z = sg_pI q_3 a0 10 0 := ⟨_, rfl⟩
  rw [← eq_4] at hP
  have hV : sx_V h L q_4 := by rw [eq_4]; exact hV.pI (by rw [ka0]; exact (by first | assumption | (show sx_in 0 0 500; unfold sx_in; decide)))
  have hF : sx_fr L (fun a => h.1 a = 8) q q_4 := hF.tr (by rw [eq_4]; exact sx_fr.pI (by first | exact ka0 | exact Or.inl ka0 | exact Or.inr ka0 | rfl | simp [ka0]))
  refine lv_aload_n hx hb dX8_begin_20 rfl (lv_at hl 0 rfl) ?_
  refine lv_iconst (v := 0) hx hb dX8_begin_21 (by decide) ?_
  refine pl_put (D := (dC, dI)) (ty := .int) (v := .int 0) (C := RX8) (T := TX8) (N := 11) hx hb hts iq_X8_begin_X8 tyX8 tyX8_ok nmX8 hown hK hP hD hS ha0 (sg_F_o ka0 (by decide)) rfl 5 (by decide) (hts (.fieldLink RX8 31 "ClayAccounts$Tokens" "fault" "I") (by decide +kernel)) (fun _ h9 => h9) rfl (by decide +kernel) rfl rfl (by rw [sg_fs_len]; decide) dX8_begin_22 (fun H locs hP hS => ?_)
  rw [sg_upI ka0 (by decide) (by decide) (Or.inl rfl)] at hP
  obtain ⟨q_5, eq_5⟩ : ∃ z, z = sg_pI q_4 a0 5 0 := ⟨_, rfl⟩
  rw [← eq_5] at hP
  have hV : sx_V h L q_5 := by rw [eq_5]; exact hV.pI (by rw [ka0]; exact trivial)
  have hF : sx_fr L (fun a => h.1 a = 8) q q_5 := hF.tr (by rw [eq_5]; exact sx_fr.pI (by first | exact ka0 | exact Or.inl ka0 | exact Or.inr ka0 | rfl | simp [ka0]))
  refine lv_aload_n hx hb dX8_begin_25 rfl (lv_at hl 0 rfl) ?_
  refine lv_iconst (v := 0) hx hb dX8_begin_26 (by decide) ?_
  refine pl_put (D := (dC, dI)) (ty := .int) (v := .int 0) (C := RX8) (T := TX8) (N := 11) hx hb hts iq_X8_begin_X8 tyX8 tyX8_ok nmX8 hown hK hP hD hS ha0 (sg_F_o ka0 (by decide)) rfl 6 (by decide) (hts (.fieldLink RX8 34 "ClayAccounts$Tokens" "faultPlace" "I") (by decide +kernel)) (fun _ h9 => h9) rfl (by decide +kernel) rfl rfl (by rw [sg_fs_len]; decide) dX8_begin_27 (fun H locs hP hS => ?_)
  rw [sg_upI ka0 (by decide) (by decide) (Or.inl rfl)] at hP
  obtain ⟨q_6, eq_6⟩ : ∃ z, z = sg_pI q_5 a0 6 0 := ⟨_, rfl⟩
  rw [← eq_6] at hP
  have hV : sx_V h L q_6 := by rw [eq_6]; exact hV.pI (by rw [ka0]; exact trivial)
  have hF : sx_fr L (fun a => h.1 a = 8) q q_6 := hF.tr (by rw [eq_6]; exact sx_fr.pI (by first | exact ka0 | exact Or.inl ka0 | exact Or.inr ka0 | rfl | simp [ka0]))
  exact W.vret hx hb hr (fun t ht hW => ⟨⟨q_6, rfl, ⟨hV, hF⟩, by unfold sx_at; rw [ht]; exact hP⟩, hS.F ht⟩) hS.2.2 dX8_begin_30
theorem iq_X8_endsWell_X7 : ∀ w ∈ wsX70, w ∈ wsX8_endsWell := fun _ h => List.mem_cons_of_mem _ (List.mem_append_right _ h)
theorem iq_X8_endsWell_X8 : ∀ w ∈ wsX80, w ∈ wsX8_endsWell := fun _ h => List.mem_cons_of_mem _ (List.mem_append_left _ (List.mem_append_right _ h))
set_option maxHeartbeats 4000000 in
set_option maxRecDepth 100000 in
theorem k_X8_endsWell (l : Launch) (dC : Nat → ClassId) (dI : Nat → Nat → Nat) (h : Sh) (L : List Nat) (hN : sx_nd L) (q : Sg) (hV : sx_V h L q) {a0 : Nat} (ha0 : a0 ∈ L) (ka0 : h.1 a0 = 8) (n1 : Int32)  : CMi l dC dI h L yX8_endsWell wsX8_endsWell ({ frames := 1, cells := 0, slots := 0, locals := 22 } : Room) q [.ref a0, .int n1] (fun r q' => sx_V h L q' ∧ sx_fr L (fun a => h.1 a = 8) q q' ∧ (r = 0 ∨ r = 1)) := by
  intro sz
  refine Met.ofW (cc := cX8_endsWell) (maxL := 2) (ret := (some .boolean)) (by decide) rfl ?_
  intro p e s m args below meth c s₁ B hml hv
  obtain ⟨rfl, hsz, hP, hK⟩ := hv
  have hx := B.exec
  have hb := B.bytes
  have hr := B.returns
  have hts := atoms_spec (ws := wsX8_endsWell) B.pre
  have hown : s.vm.findClass RX8 = some m.cls := findClass_of_methodNamed B.named
  have hlocks := B.notSynchronized
  subst hsz
  have hD : ∀ g, va_D (AL L s.heap.size) (va_pl L g) := AL_D hN s.heap.size
  have hS : va_S (AL L s.heap.size) s.heap s.heap [] := va_S.rf
  have hF : sx_fr L (fun a => h.1 a = 8) q q := sx_fr.rf
  have hl := lv_entry ([.ref a0, .int n1]) (n := 2) (Nat.le_of_ble_eq_true rfl)
  rw [lg_entry_eq]
  generalize (lg_sl ([.ref a0, .int n1]) ++ List.replicate (2 - (lg_sl ([.ref a0, .int n1])).length) Slot.unset).toArray = ls at hl ⊢
  have hl : lv_has ls 2 [(0, .ref a0), (1, .int n1)] := hl
  refine lv_iload_n hx hb dX8_endsWell_0 rfl (lv_at hl 1 rfl) ?_
  refine lv_if_le (tgt := 18) hx hb dX8_endsWell_1 (by decide) (fun c_1 => ?_) (fun c_1 => ?_)
  · have tc_1 : n1.toInt ≤ 0 := zx_le.mp c_1
    refine lv_aload_n hx hb dX8_endsWell_18 rfl (lv_at hl 0 rfl) ?_
    refine lv_iconst (v := 1) hx hb dX8_endsWell_19 (by decide) ?_
    refine lv_aload_n hx hb dX8_endsWell_20 rfl (lv_at hl 0 rfl) ?_
    refine pl_get (D := (dC, dI)) (v := .int (q.1 a0 1)) (C := RX8) (T := TX8) (N := 11) hx hb hts iq_X8_endsWell_X8 hown hK hP ha0 (sg_F_o ka0 (by decide)) rfl 1 (by decide) (hts (.fieldLink RX8 40 "ClayAccounts$Tokens" "place" "I") (by decide +kernel)) (fun _ h9 => h9) (sg_fs_at (by decide)) dX8_endsWell_21 ?_
    refine pl_callVi (x := (RX8, TX8, 11)) (As := [.int 1, .int (q.1 a0 1)]) (rest := []) ⟨hx, hb, hml, hown, hts⟩ (k_X8_refuse l dC dI h L hN q hV (a0 := a0) ha0 ka0 1 (q.1 a0 1) ) (cwV 2 hts gX8_endsWell_X8_refuse rfl rfl rfl (by decide +kernel) ⟨Nat.le_of_ble_eq_true rfl, Nat.le_of_ble_eq_true rfl⟩) hK hP hS ha0 ka0 (by decide) rfl rfl hl.1 rfl (Nat.le_of_ble_eq_true rfl) dX8_endsWell_24 ⟨Nat.zero_le _, Nat.zero_le _⟩ (fun r_3 q_2 H locs hw hP hS => ?_)
    obtain ⟨hV, hF2, w_4⟩ := hw
    have hF : sx_fr L (fun a => h.1 a = 8) q q_2 := hF.tr (hF2.mono (fun a z => by first | exact z | exact z.elim | exact Or.inl z | exact Or.inr z | (simp_all; done)))
    have hr_3 : r_3 = 0 ∨ r_3 = 1 := Or.inl w_4
    refine lv_if_eq (tgt := 34) hx hb dX8_endsWell_27 (by decide) (fun c_5 => ?_) (fun c_5 => ?_)
    · have tc_5 : r_3.toInt = 0 := congrArg Int32.toInt c_5
      refine lv_iconst (v := 0) hx hb dX8_endsWell_34 (by decide) ?_
      exact W.zret (v := 0) hx hb hr rfl (fun t ht hW => ⟨⟨0, q_2, rfl, ⟨hV, hF, by first | exact Or.inl rfl | exact Or.inr rfl | assumption⟩, by unfold sx_at; rw [ht]; exact hP⟩, hS.F ht⟩) hS.2.2 dX8_endsWell_35
    · have tc_5 : ¬ r_3.toInt = 0 := fun z => c_5 (Int32.toInt_inj.mp z)
      refine lv_iconst (v := 1) hx hb dX8_endsWell_30 (by decide) ?_
      refine lv_goto (tgt := 35) hx hb dX8_endsWell_31 (by decide) ?_
      exact W.zret (v := 1) hx hb hr rfl (fun t ht hW => ⟨⟨1, q_2, rfl, ⟨hV, hF, by first | exact Or.inl rfl | exact Or.inr rfl | assumption⟩, by unfold sx_at; rw [ht]; exact hP⟩, hS.F ht⟩) hS.2.2 dX8_endsWell_35
  · have tc_1 : ¬ n1.toInt ≤ 0 := fun z => c_1 (zx_le.mpr z)
    refine lv_aload_n hx hb dX8_endsWell_4 rfl (lv_at hl 0 rfl) ?_
    refine pl_get (D := (dC, dI)) (v := .ref (q.2.2.1 a0 7)) (C := RX8) (T := TX8) (N := 11) hx hb hts iq_X8_endsWell_X8 hown hK hP ha0 (sg_F_o ka0 (by decide)) rfl 7 (by decide) (hts (.fieldLink RX8 14 "ClayAccounts$Tokens" "text" "LClayAccounts$Text;") (by decide +kernel)) (fun _ h9 => h9) (sg_fs_at (by decide)) dX8_endsWell_5 ?_
    obtain ⟨ha_6, ka_6, na_6⟩ := hV.ref (k := 7) ha0 (by rw [ka0]; decide)
    rw [ka0] at ka_6 na_6
    have ka_6 : h.1 (q.2.2.1 a0 7) = 7 := ka_6
    refine pl_get (D := (dC, dI)) (v := .int (q.1 (q.2.2.1 a0 7) 1)) (C := RX7) (T := TX7) (N := 2) hx hb hts iq_X8_endsWell_X7 hown hK hP ha_6 (sg_F_o ka_6 (by decide)) rfl 1 (by decide) (hts (.fieldLink RX8 43 "ClayAccounts$Text" "size" "I") (by decide +kernel)) (fun _ h9 => h9) (sg_fs_at (by decide)) dX8_endsWell_8 ?_
    have g_7 := hV.int ha_6 1
    rw [ka_6] at g_7
    have g_7 : sx_in (q.1 (q.2.2.1 a0 7) 1) 0 (h.2.1 (q.2.2.1 (q.2.2.1 a0 7) 0) : Int) := g_7
    unfold sx_in at g_7
    refine lv_aload_n hx hb dX8_endsWell_11 rfl (lv_at hl 0 rfl) ?_
    refine pl_get (D := (dC, dI)) (v := .int (q.1 a0 8)) (C := RX8) (T := TX8) (N := 11) hx hb hts iq_X8_endsWell_X8 hown hK hP ha0 (sg_F_o ka0 (by decide)) rfl 8 (by decide) (hts (.fieldLink RX8 20 "ClayAccounts$Tokens" "most" "I") (by decide +kernel)) (fun _ h9 => h9) (sg_fs_at (by decide)) dX8_endsWell_12 ?_
    refine lv_icmp_le (tgt := 30) hx hb dX8_endsWell_15 (by decide) (fun c_8 => ?_) (fun c_8 => ?_)
    · have tc_8 : (q.1 (q.2.2.1 a0 7) 1).toInt ≤ (q.1 a0 8).toInt := zx_le.mp c_8
      refine lv_iconst (v := 1) hx hb dX8_endsWell_30 (by decide) ?_
      refine lv_goto (tgt := 35) hx hb dX8_endsWell_31 (by decide) ?_
      exact W.zret (v := 1) hx hb hr rfl (fun t ht hW => ⟨⟨1, q, rfl, ⟨hV, hF, by first | exact Or.inl rfl | exact Or.inr rfl | assumption⟩, by unfold sx_at; rw [ht]; exact hP⟩, hS.F ht⟩) hS.2.2 dX8_endsWell_35
    · have tc_8 : ¬ (q.1 (q.2.2.1 a0 7) 1).toInt ≤ (q.1 a0 8).toInt := fun z => c_8 (zx_le.mpr z)
      refine lv_aload_n hx hb dX8_endsWell_18 rfl (lv_at hl 0 rfl) ?_
      refine lv_iconst (v := 1) hx hb dX8_endsWell_19 (by decide) ?_
      refine lv_aload_n hx hb dX8_endsWell_20 rfl (lv_at hl 0 rfl) ?_
      refine pl_get (D := (dC, dI)) (v := .int (q.1 a0 1)) (C := RX8) (T := TX8) (N := 11) hx hb hts iq_X8_endsWell_X8 hown hK hP ha0 (sg_F_o ka0 (by decide)) rfl 1 (by decide) (hts (.fieldLink RX8 40 "ClayAccounts$Tokens" "place" "I") (by decide +kernel)) (fun _ h9 => h9) (sg_fs_at (by decide)) dX8_endsWell_21 ?_
      refine pl_callVi (x := (RX8, TX8, 11)) (As := [.int 1, .int (q.1 a0 1)]) (rest := []) ⟨hx, hb, hml, hown, hts⟩ (k_X8_refuse l dC dI h L hN q hV (a0 := a0) ha0 ka0 1 (q.1 a0 1) ) (cwV 2 hts gX8_endsWell_X8_refuse rfl rfl rfl (by decide +kernel) ⟨Nat.le_of_ble_eq_true rfl, Nat.le_of_ble_eq_true rfl⟩) hK hP hS ha0 ka0 (by decide) rfl rfl hl.1 rfl (Nat.le_of_ble_eq_true rfl) dX8_endsWell_24 ⟨Nat.zero_le _, Nat.zero_le _⟩ (fun r_10 q_9 H locs hw hP hS => ?_)
      obtain ⟨hV, hF2, w_11⟩ := hw
      have hF : sx_fr L (fun a => h.1 a = 8) q q_9 := hF.tr (hF2.mono (fun a z => by first | exact z | exact z.elim | exact Or.inl z | exact Or.inr z | (simp_all; done)))
      have hr_10 : r_10 = 0 ∨ r_10 = 1 := Or.inl w_11
      refine lv_if_eq (tgt := 34) hx hb dX8_endsWell_27 (by decide) (fun c_12 => ?_) (fun c_12 => ?_)
      · have tc_12 : r_10.toInt = 0 := congrArg Int32.toInt c_12
        refine lv_iconst (v := 0) hx hb dX8_endsWell_34 (by decide) ?_
        exact W.zret (v := 0) hx hb hr rfl (fun t ht hW => ⟨⟨0, q_9, rfl, ⟨hV, hF, by first | exact Or.inl rfl | exact Or.inr rfl | assumption⟩, by unfold sx_at; rw [ht]; exact hP⟩, hS.F ht⟩) hS.2.2 dX8_endsWell_35
      · have tc_12 : ¬ r_10.toInt = 0 := fun z => c_12 (Int32.toInt_inj.mp z)
        refine lv_iconst (v := 1) hx hb dX8_endsWell_30 (by decide) ?_
        refine lv_goto (tgt := 35) hx hb dX8_endsWell_31 (by decide) ?_
        exact W.zret (v := 1) hx hb hr rfl (fun t ht hW => ⟨⟨1, q_9, rfl, ⟨hV, hF, by first | exact Or.inl rfl | exact Or.inr rfl | assumption⟩, by unfold sx_at; rw [ht]; exact hP⟩, hS.F ht⟩) hS.2.2 dX8_endsWell_35
theorem iq_X5_addLine_X5 : ∀ w ∈ wsX50, w ∈ wsX5_addLine := fun _ h => List.mem_cons_of_mem _ (List.mem_append_left _ (List.mem_append_right _ h))
set_option maxHeartbeats 4000000 in
set_option maxRecDepth 100000 in
theorem k_X5_addLine (l : Launch) (dC : Nat → ClassId) (dI : Nat → Nat → Nat) (h : Sh) (L : List Nat) (hN : sx_nd L) (q : Sg) (hV : sx_V h L q) {a0 : Nat} (ha0 : a0 ∈ L) (ka0 : h.1 a0 = 5) (n1 : Int32)  : CMv l dC dI h L yX5_addLine wsX5_addLine ({ frames := 1, cells := 0, slots := 0, locals := 21 } : Room) q [.ref a0, .int n1] (fun q' => sx_V h L q' ∧ sx_fr L (fun a => h.1 a = 5 ∨ h.1 a = 2) q q') := by
  intro sz
  refine Met.ofW (cc := cX5_addLine) (maxL := 2) (ret := none) (by decide) rfl ?_
  intro p e s m args below meth c s₁ B hml hv
  obtain ⟨rfl, hsz, hP, hK⟩ := hv
  have hx := B.exec
  have hb := B.bytes
  have hr := B.returns
  have hts := atoms_spec (ws := wsX5_addLine) B.pre
  have hown : s.vm.findClass RX5 = some m.cls := findClass_of_methodNamed B.named
  have hlocks := B.notSynchronized
  subst hsz
  have hD : ∀ g, va_D (AL L s.heap.size) (va_pl L g) := AL_D hN s.heap.size
  have hS : va_S (AL L s.heap.size) s.heap s.heap [] := va_S.rf
  have hF : sx_fr L (fun a => h.1 a = 5 ∨ h.1 a = 2) q q := sx_fr.rf
  have hl := lv_entry ([.ref a0, .int n1]) (n := 2) (Nat.le_of_ble_eq_true rfl)
  rw [lg_entry_eq]
  generalize (lg_sl ([.ref a0, .int n1]) ++ List.replicate (2 - (lg_sl ([.ref a0, .int n1])).length) Slot.unset).toArray = ls at hl ⊢
  have hl : lv_has ls 2 [(0, .ref a0), (1, .int n1)] := hl
  refine lv_aload_n hx hb dX5_addLine_0 rfl (lv_at hl 0 rfl) ?_
  refine pl_callVi (x := (RX5, TX5, 7)) (As := []) (rest := []) ⟨hx, hb, hml, hown, hts⟩ (k_X5_isFull l dC dI h L hN q hV (a0 := a0) ha0 ka0 ) (cwV 0 hts gX5_addLine_X5_isFull rfl rfl rfl (by decide +kernel) ⟨Nat.le_of_ble_eq_true rfl, Nat.le_of_ble_eq_true rfl⟩) hK hP hS ha0 ka0 (by decide) rfl rfl hl.1 rfl (Nat.le_of_ble_eq_true rfl) dX5_addLine_1 ⟨Nat.zero_le _, Nat.zero_le _⟩ (fun r_2 q_1 H locs hw hP hS => ?_)
  obtain ⟨hV, hF2, w_3⟩ := hw
  have hF : sx_fr L (fun a => h.1 a = 5 ∨ h.1 a = 2) q q_1 := hF.tr (hF2.mono (fun a z => by first | exact z | exact z.elim | exact Or.inl z | exact Or.inr z | (simp_all; done)))
  obtain ⟨hr_2, lr_2, sr_2⟩ := w_3
  rw [sr_2] at hP hV hF
  refine lv_if_ne (tgt := 30) hx hb dX5_addLine_4 (by decide) (fun c_4 => ?_) (fun c_4 => ?_)
  · have tc_4 : ¬ r_2.toInt = 0 := fun z => c_4 (Int32.toInt_inj.mp z)
    exact W.vret hx hb hr (fun t ht hW => ⟨⟨q, rfl, ⟨hV, hF⟩, by unfold sx_at; rw [ht]; exact hP⟩, hS.F ht⟩) hS.2.2 dX5_addLine_30
  · have tc_4 : r_2.toInt = 0 := congrArg Int32.toInt c_4
    have xlr_2 := lr_2 c_4
    refine lv_aload_n hx hb dX5_addLine_7 rfl (lv_at hl 0 rfl) ?_
    refine pl_get (D := (dC, dI)) (v := .ref (q.2.2.1 a0 0)) (C := RX5) (T := TX5) (N := 7) hx hb hts iq_X5_addLine_X5 hown hK hP ha0 (sg_F_o ka0 (by decide)) rfl 0 (by decide) (hts (.fieldLink RX5 11 "ClayAccounts$Tablet" "lines" "[LClayAccounts$Line;") (by decide +kernel)) (fun _ h9 => h9) (sg_fs_at (by decide)) dX5_addLine_8 ?_
    obtain ⟨ha_5, ka_5, na_5⟩ := hV.ref (k := 0) ha0 (by rw [ka0]; decide)
    rw [ka0] at ka_5 na_5
    have ka_5 : h.1 (q.2.2.1 a0 0) = 401 := ka_5
    have l_6 : h.2.1 (q.2.2.1 a0 0) = 12 := na_5 (by decide)
    refine lv_aload_n hx hb dX5_addLine_11 rfl (lv_at hl 0 rfl) ?_
    refine pl_get (D := (dC, dI)) (v := .int (q.1 a0 2)) (C := RX5) (T := TX5) (N := 7) hx hb hts iq_X5_addLine_X5 hown hK hP ha0 (sg_F_o ka0 (by decide)) rfl 2 (by decide) (hts (.fieldLink RX5 25 "ClayAccounts$Tablet" "lineCount" "I") (by decide +kernel)) (fun _ h9 => h9) (sg_fs_at (by decide)) dX5_addLine_12 ?_
    have g_7 := hV.int ha0 2
    rw [ka0] at g_7
    have g_7 : sx_in (q.1 a0 2) 0 12 := g_7
    unfold sx_in at g_7
    have i_8 : vp_in (q.1 a0 2) (h.2.1 (q.2.2.1 a0 0)) := (vp_in_iff.mpr ⟨by omega, by omega⟩)
    refine pl_aldq hx hb hK hP ha_5 4 (sg_F_q ka_5 (by decide)) rfl i_8 rfl dX5_addLine_15 ?_
    obtain ⟨ha_9, ka_9, na_9⟩ := hV.elem ha_5 (by rw [ka_5]; decide) (zx_ix i_8)
    rw [ka_5] at ka_9 na_9
    have ka_9 : h.1 (h.2.2.2 (q.2.2.1 a0 0) (((q.1 a0 2) : Int32).toNatClampNeg)) = 2 := ka_9
    refine lv_iload_n hx hb dX5_addLine_16 rfl (lv_at hl 1 rfl) ?_
    refine pl_callVv (x := (RX2, TX2, 6)) (As := [.int n1]) (rest := []) ⟨hx, hb, hml, hown, hts⟩ (k_X2_begin l dC dI h L hN q hV (a0 := (h.2.2.2 (q.2.2.1 a0 0) (((q.1 a0 2) : Int32).toNatClampNeg))) ha_9 ka_9 n1 ) (cwV 1 hts gX5_addLine_X2_begin rfl rfl rfl (by decide +kernel) ⟨Nat.le_of_ble_eq_true rfl, Nat.le_of_ble_eq_true rfl⟩) hK hP hS ha_9 ka_9 (by decide) rfl rfl hl.1 rfl (Nat.le_of_ble_eq_true rfl) dX5_addLine_17 ⟨Nat.zero_le _, Nat.zero_le _⟩ (fun q_10 H locs hw hP hS => ?_)
    obtain ⟨hV, hF2⟩ := hw
    have hF : sx_fr L (fun a => h.1 a = 5 ∨ h.1 a = 2) q q_10 := hF.tr (hF2.mono (fun a z => by first | exact z | exact z.elim | exact Or.inl z | exact Or.inr z | (simp_all; done)))
    have y_12 : q_10.1 a0 = q.1 a0 := (hF2 a0 ha0 (by show ¬ (h.1 a0 = 2); rw [ka0]; decide)).1
    refine lv_aload_n hx hb dX5_addLine_20 rfl (lv_at hl 0 rfl) ?_
    refine lv_dup hx hb dX5_addLine_21 rfl ?_
    refine pl_get (D := (dC, dI)) (v := .int (q_10.1 a0 2)) (C := RX5) (T := TX5) (N := 7) hx hb hts iq_X5_addLine_X5 hown hK hP ha0 (sg_F_o ka0 (by decide)) rfl 2 (by decide) (hts (.fieldLink RX5 25 "ClayAccounts$Tablet" "lineCount" "I") (by decide +kernel)) (fun _ h9 => h9) (sg_fs_at (by decide)) dX5_addLine_22 ?_
    have z_13 : (q_10.1 a0 2).toInt = (q.1 a0 2).toInt := by rw [y_12]
    have g_14 := hV.int ha0 2
    rw [ka0] at g_14
    have g_14 : sx_in (q_10.1 a0 2) 0 12 := g_14
    unfold sx_in at g_14
    refine lv_iconst (v := 1) hx hb dX5_addLine_25 (by decide) ?_
    refine lv_iadd hx hb dX5_addLine_26 ?_
    refine lv_topi (fun v_15 ev_15 => ?_)
    refine pl_put (D := (dC, dI)) (ty := .int) (v := .int v_15) (C := RX5) (T := TX5) (N := 7) hx hb hts iq_X5_addLine_X5 tyX5 tyX5_ok nmX5 hown hK hP hD hS ha0 (sg_F_o ka0 (by decide)) rfl 2 (by decide) (hts (.fieldLink RX5 25 "ClayAccounts$Tablet" "lineCount" "I") (by decide +kernel)) (fun _ h9 => h9) rfl (by decide +kernel) rfl rfl (by rw [sg_fs_len]; decide) dX5_addLine_27 (fun H locs hP hS => ?_)
    rw [sg_upI ka0 (by decide) (by decide) (Or.inl rfl)] at hP
    have tv_15 : v_15.toInt = (q_10.1 a0 2).toInt + 1 := by rw [ev_15]; exact zx_add (show (-2147483648 : Int) ≤ (q_10.1 a0 2).toInt + 1 by omega) (show (q_10.1 a0 2).toInt + 1 < (2147483648 : Int) by omega)
    obtain ⟨q_16, eq_16⟩ : ∃ z, z = sg_pI q_10 a0 2 v_15 := ⟨_, rfl⟩
    rw [← eq_16] at hP
    have hV : sx_V h L q_16 := by rw [eq_16]; exact hV.pI (by rw [ka0]; exact (by first | assumption | (show sx_in v_15 0 12; unfold sx_in; omega)))
    have hF : sx_fr L (fun a => h.1 a = 5 ∨ h.1 a = 2) q q_16 := hF.tr (by rw [eq_16]; exact sx_fr.pI (by first | exact ka0 | exact Or.inl ka0 | exact Or.inr ka0 | rfl | simp [ka0]))
    exact W.vret hx hb hr (fun t ht hW => ⟨⟨q_16, rfl, ⟨hV, hF⟩, by unfold sx_at; rw [ht]; exact hP⟩, hS.F ht⟩) hS.2.2 dX5_addLine_30
