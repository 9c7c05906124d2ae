set_option maxHeartbeats 4000000 in
set_option maxRecDepth 100000 in
theorem k_X8_isBlank (l : Launch) (dC : Nat → ClassId) (dI : Nat → Nat → Nat) (h : Sh) (L : List Nat) (hN : sx_nd L) (q : Sg) (hV : sx_V h L q) (n1 : Int32)  : CMi l dC dI h L yX8_isBlank wsX8_isBlank ({ frames := 0, cells := 0, slots := 0, locals := 0 } : Room) q [.int n1] (fun r q' => sx_V h L q' ∧ sx_fr L (fun a => False) q q' ∧ sx_in r 0 1) := by
  intro sz
  refine Met.ofW (cc := cX8_isBlank) (maxL := 1) (ret := (some .boolean)) (by decide) rfl ?_
  intro p e s m args below meth c s₁ B hml hv
  obtain ⟨rfl, hsz, hP, hK⟩ := hv
  have hx := B.exec
  have hb := B.bytes
  have hr := B.returns
  have hts := atoms_spec (ws := wsX8_isBlank) B.pre
  have hown : s.vm.findClass RX8 = some m.cls := findClass_of_methodNamed B.named
  have hlocks := B.notSynchronized
  subst hsz
  have hD : ∀ g, va_D (AL L s.heap.size) (va_pl L g) := AL_D hN s.heap.size
  have hS : va_S (AL L s.heap.size) s.heap s.heap [] := va_S.rf
  have hF : sx_fr L (fun a => False) q q := sx_fr.rf
  have hl := lv_entry ([.int n1]) (n := 1) (Nat.le_of_ble_eq_true rfl)
  rw [lg_entry_eq]
  generalize (lg_sl ([.int n1]) ++ List.replicate (1 - (lg_sl ([.int n1])).length) Slot.unset).toArray = ls at hl ⊢
  have hl : lv_has ls 1 [(0, .int n1)] := hl
  refine lv_iload_n hx hb dX8_isBlank_0 rfl (lv_at hl 0 rfl) ?_
  refine lv_bipush (v := 32) hx hb dX8_isBlank_1 (by decide) ?_
  refine lv_icmp_eq (tgt := 12) hx hb dX8_isBlank_3 (by decide) (fun c_1 => ?_) (fun c_1 => ?_)
  · refine lv_iconst (v := 1) hx hb dX8_isBlank_12 (by decide) ?_
    refine lv_goto (tgt := 17) hx hb dX8_isBlank_13 (by decide) ?_
    exact W.zret (v := 1) hx hb hr rfl (fun t ht hW => ⟨⟨1, q, rfl, ⟨hV, hF, by unfold sx_in; decide⟩, by unfold sx_at; rw [ht]; exact hP⟩, hS.F ht⟩) hS.2.2 dX8_isBlank_17
  · refine lv_iload_n hx hb dX8_isBlank_6 rfl (lv_at hl 0 rfl) ?_
    refine lv_bipush (v := 10) hx hb dX8_isBlank_7 (by decide) ?_
    refine lv_icmp_ne (tgt := 16) hx hb dX8_isBlank_9 (by decide) (fun c_2 => ?_) (fun c_2 => ?_)
    · refine lv_iconst (v := 0) hx hb dX8_isBlank_16 (by decide) ?_
      exact W.zret (v := 0) hx hb hr rfl (fun t ht hW => ⟨⟨0, q, rfl, ⟨hV, hF, by unfold sx_in; decide⟩, by unfold sx_at; rw [ht]; exact hP⟩, hS.F ht⟩) hS.2.2 dX8_isBlank_17
    · refine lv_iconst (v := 1) hx hb dX8_isBlank_12 (by decide) ?_
      refine lv_goto (tgt := 17) hx hb dX8_isBlank_13 (by decide) ?_
      exact W.zret (v := 1) hx hb hr rfl (fun t ht hW => ⟨⟨1, q, rfl, ⟨hV, hF, by unfold sx_in; decide⟩, by unfold sx_at; rw [ht]; exact hP⟩, hS.F ht⟩) hS.2.2 dX8_isBlank_17
set_option maxHeartbeats 4000000 in
set_option maxRecDepth 100000 in
theorem k_X8_isSmallLetter (l : Launch) (dC : Nat → ClassId) (dI : Nat → Nat → Nat) (h : Sh) (L : List Nat) (hN : sx_nd L) (q : Sg) (hV : sx_V h L q) (n1 : Int32)  : CMi l dC dI h L yX8_isSmallLetter wsX8_isSmallLetter ({ frames := 0, cells := 0, slots := 0, locals := 0 } : Room) q [.int n1] (fun r q' => sx_V h L q' ∧ sx_fr L (fun a => False) q q' ∧ sx_in r 0 1) := by
  intro sz
  refine Met.ofW (cc := cX8_isSmallLetter) (maxL := 1) (ret := (some .boolean)) (by decide) rfl ?_
  intro p e s m args below meth c s₁ B hml hv
  obtain ⟨rfl, hsz, hP, hK⟩ := hv
  have hx := B.exec
  have hb := B.bytes
  have hr := B.returns
  have hts := atoms_spec (ws := wsX8_isSmallLetter) B.pre
  have hown : s.vm.findClass RX8 = some m.cls := findClass_of_methodNamed B.named
  have hlocks := B.notSynchronized
  subst hsz
  have hD : ∀ g, va_D (AL L s.heap.size) (va_pl L g) := AL_D hN s.heap.size
  have hS : va_S (AL L s.heap.size) s.heap s.heap [] := va_S.rf
  have hF : sx_fr L (fun a => False) q q := sx_fr.rf
  have hl := lv_entry ([.int n1]) (n := 1) (Nat.le_of_ble_eq_true rfl)
  rw [lg_entry_eq]
  generalize (lg_sl ([.int n1]) ++ List.replicate (1 - (lg_sl ([.int n1])).length) Slot.unset).toArray = ls at hl ⊢
  have hl : lv_has ls 1 [(0, .int n1)] := hl
  refine lv_iload_n hx hb dX8_isSmallLetter_0 rfl (lv_at hl 0 rfl) ?_
  refine lv_bipush (v := 97) hx hb dX8_isSmallLetter_1 (by decide) ?_
  refine lv_icmp_lt (tgt := 16) hx hb dX8_isSmallLetter_3 (by decide) (fun c_1 => ?_) (fun c_1 => ?_)
  · refine lv_iconst (v := 0) hx hb dX8_isSmallLetter_16 (by decide) ?_
    exact W.zret (v := 0) hx hb hr rfl (fun t ht hW => ⟨⟨0, q, rfl, ⟨hV, hF, by unfold sx_in; decide⟩, by unfold sx_at; rw [ht]; exact hP⟩, hS.F ht⟩) hS.2.2 dX8_isSmallLetter_17
  · refine lv_iload_n hx hb dX8_isSmallLetter_6 rfl (lv_at hl 0 rfl) ?_
    refine lv_bipush (v := 122) hx hb dX8_isSmallLetter_7 (by decide) ?_
    refine lv_icmp_gt (tgt := 16) hx hb dX8_isSmallLetter_9 (by decide) (fun c_2 => ?_) (fun c_2 => ?_)
    · refine lv_iconst (v := 0) hx hb dX8_isSmallLetter_16 (by decide) ?_
      exact W.zret (v := 0) hx hb hr rfl (fun t ht hW => ⟨⟨0, q, rfl, ⟨hV, hF, by unfold sx_in; decide⟩, by unfold sx_at; rw [ht]; exact hP⟩, hS.F ht⟩) hS.2.2 dX8_isSmallLetter_17
    · refine lv_iconst (v := 1) hx hb dX8_isSmallLetter_12 (by decide) ?_
      refine lv_goto (tgt := 17) hx hb dX8_isSmallLetter_13 (by decide) ?_
      exact W.zret (v := 1) hx hb hr rfl (fun t ht hW => ⟨⟨1, q, rfl, ⟨hV, hF, by unfold sx_in; decide⟩, by unfold sx_at; rw [ht]; exact hP⟩, hS.F ht⟩) hS.2.2 dX8_isSmallLetter_17
theorem iq_X8_isDigit_X8 : ∀ w ∈ wsX80, w ∈ wsX8_isDigit := fun _ h => List.mem_cons_of_mem _ (List.mem_append_right _ h)
set_option maxHeartbeats 4000000 in
set_option maxRecDepth 100000 in
theorem k_X8_isDigit (l : Launch) (dC : Nat → ClassId) (dI : Nat → Nat → Nat) (h : Sh) (L : List Nat) (hN : sx_nd L) (q : Sg) (hV : sx_V h L q) {a0 : Nat} (ha0 : a0 ∈ L) (ka0 : h.1 a0 = 8) (n1 : Int32)  : CMi l dC dI h L yX8_isDigit wsX8_isDigit ({ frames := 0, cells := 0, slots := 0, locals := 0 } : Room) q [.ref a0, .int n1] (fun r q' => sx_V h L q' ∧ sx_fr L (fun a => False) q q' ∧ sx_in r 0 1) := by
  intro sz
  refine Met.ofW (cc := cX8_isDigit) (maxL := 2) (ret := (some .boolean)) (by decide) rfl ?_
  intro p e s m args below meth c s₁ B hml hv
  obtain ⟨rfl, hsz, hP, hK⟩ := hv
  have hx := B.exec
  have hb := B.bytes
  have hr := B.returns
  have hts := atoms_spec (ws := wsX8_isDigit) B.pre
  have hown : s.vm.findClass RX8 = some m.cls := findClass_of_methodNamed B.named
  have hlocks := B.notSynchronized
  subst hsz
  have hD : ∀ g, va_D (AL L s.heap.size) (va_pl L g) := AL_D hN s.heap.size
  have hS : va_S (AL L s.heap.size) s.heap s.heap [] := va_S.rf
  have hF : sx_fr L (fun a => False) q q := sx_fr.rf
  have hl := lv_entry ([.ref a0, .int n1]) (n := 2) (Nat.le_of_ble_eq_true rfl)
  rw [lg_entry_eq]
  generalize (lg_sl ([.ref a0, .int n1]) ++ List.replicate (2 - (lg_sl ([.ref a0, .int n1])).length) Slot.unset).toArray = ls at hl ⊢
  have hl : lv_has ls 2 [(0, .ref a0), (1, .int n1)] := hl
  refine lv_iload_n hx hb dX8_isDigit_0 rfl (lv_at hl 1 rfl) ?_
  refine lv_bipush (v := 48) hx hb dX8_isDigit_1 (by decide) ?_
  refine lv_icmp_lt (tgt := 12) hx hb dX8_isDigit_3 (by decide) (fun c_1 => ?_) (fun c_1 => ?_)
  · refine lv_aload_n hx hb dX8_isDigit_12 rfl (lv_at hl 0 rfl) ?_
    refine pl_get (D := (dC, dI)) (v := .int (q.1 a0 9)) (C := RX8) (T := TX8) (N := 11) hx hb hts iq_X8_isDigit_X8 hown hK hP ha0 (sg_F_o ka0 (by decide)) rfl 9 (by decide) (hts (.fieldLink RX8 24 "ClayAccounts$Tokens" "withBroken" "Z") (by decide +kernel)) (fun _ h9 => h9) (sg_fs_at (by decide)) dX8_isDigit_13 ?_
    refine lv_if_eq (tgt := 29) hx hb dX8_isDigit_16 (by decide) (fun c_2 => ?_) (fun c_2 => ?_)
    · refine lv_iconst (v := 0) hx hb dX8_isDigit_29 (by decide) ?_
      exact W.zret (v := 0) hx hb hr rfl (fun t ht hW => ⟨⟨0, q, rfl, ⟨hV, hF, by unfold sx_in; decide⟩, by unfold sx_at; rw [ht]; exact hP⟩, hS.F ht⟩) hS.2.2 dX8_isDigit_30
    · refine lv_iload_n hx hb dX8_isDigit_19 rfl (lv_at hl 1 rfl) ?_
      refine lv_bipush (v := 63) hx hb dX8_isDigit_20 (by decide) ?_
      refine lv_icmp_ne (tgt := 29) hx hb dX8_isDigit_22 (by decide) (fun c_3 => ?_) (fun c_3 => ?_)
      · refine lv_iconst (v := 0) hx hb dX8_isDigit_29 (by decide) ?_
        exact W.zret (v := 0) hx hb hr rfl (fun t ht hW => ⟨⟨0, q, rfl, ⟨hV, hF, by unfold sx_in; decide⟩, by unfold sx_at; rw [ht]; exact hP⟩, hS.F ht⟩) hS.2.2 dX8_isDigit_30
      · refine lv_iconst (v := 1) hx hb dX8_isDigit_25 (by decide) ?_
        refine lv_goto (tgt := 30) hx hb dX8_isDigit_26 (by decide) ?_
        exact W.zret (v := 1) hx hb hr rfl (fun t ht hW => ⟨⟨1, q, rfl, ⟨hV, hF, by unfold sx_in; decide⟩, by unfold sx_at; rw [ht]; exact hP⟩, hS.F ht⟩) hS.2.2 dX8_isDigit_30
  · refine lv_iload_n hx hb dX8_isDigit_6 rfl (lv_at hl 1 rfl) ?_
    refine lv_bipush (v := 57) hx hb dX8_isDigit_7 (by decide) ?_
    refine lv_icmp_le (tgt := 25) hx hb dX8_isDigit_9 (by decide) (fun c_4 => ?_) (fun c_4 => ?_)
    · refine lv_iconst (v := 1) hx hb dX8_isDigit_25 (by decide) ?_
      refine lv_goto (tgt := 30) hx hb dX8_isDigit_26 (by decide) ?_
      exact W.zret (v := 1) hx hb hr rfl (fun t ht hW => ⟨⟨1, q, rfl, ⟨hV, hF, by unfold sx_in; decide⟩, by unfold sx_at; rw [ht]; exact hP⟩, hS.F ht⟩) hS.2.2 dX8_isDigit_30
    · refine lv_aload_n hx hb dX8_isDigit_12 rfl (lv_at hl 0 rfl) ?_
      refine pl_get (D := (dC, dI)) (v := .int (q.1 a0 9)) (C := RX8) (T := TX8) (N := 11) hx hb hts iq_X8_isDigit_X8 hown hK hP ha0 (sg_F_o ka0 (by decide)) rfl 9 (by decide) (hts (.fieldLink RX8 24 "ClayAccounts$Tokens" "withBroken" "Z") (by decide +kernel)) (fun _ h9 => h9) (sg_fs_at (by decide)) dX8_isDigit_13 ?_
      refine lv_if_eq (tgt := 29) hx hb dX8_isDigit_16 (by decide) (fun c_5 => ?_) (fun c_5 => ?_)
      · refine lv_iconst (v := 0) hx hb dX8_isDigit_29 (by decide) ?_
        exact W.zret (v := 0) hx hb hr rfl (fun t ht hW => ⟨⟨0, q, rfl, ⟨hV, hF, by unfold sx_in; decide⟩, by unfold sx_at; rw [ht]; exact hP⟩, hS.F ht⟩) hS.2.2 dX8_isDigit_30
      · refine lv_iload_n hx hb dX8_isDigit_19 rfl (lv_at hl 1 rfl) ?_
        refine lv_bipush (v := 63) hx hb dX8_isDigit_20 (by decide) ?_
        refine lv_icmp_ne (tgt := 29) hx hb dX8_isDigit_22 (by decide) (fun c_6 => ?_) (fun c_6 => ?_)
        · refine lv_iconst (v := 0) hx hb dX8_isDigit_29 (by decide) ?_
          exact W.zret (v := 0) hx hb hr rfl (fun t ht hW => ⟨⟨0, q, rfl, ⟨hV, hF, by unfold sx_in; decide⟩, by unfold sx_at; rw [ht]; exact hP⟩, hS.F ht⟩) hS.2.2 dX8_isDigit_30
        · refine lv_iconst (v := 1) hx hb dX8_isDigit_25 (by decide) ?_
          refine lv_goto (tgt := 30) hx hb dX8_isDigit_26 (by decide) ?_
          exact W.zret (v := 1) hx hb hr rfl (fun t ht hW => ⟨⟨1, q, rfl, ⟨hV, hF, by unfold sx_in; decide⟩, by unfold sx_at; rw [ht]; exact hP⟩, hS.F ht⟩) hS.2.2 dX8_isDigit_30
theorem iq_X8_refuse_X8 : ∀ w ∈ wsX80, w ∈ wsX8_refuse := fun _ h => List.mem_cons_of_mem _ (List.mem_append_right _ h)
set_option maxHeartbeats 4000000 in
set_option maxRecDepth 100000 in
theorem k_X8_refuse (l : Launch) (dC : Nat → ClassId) (dI : Nat → Nat → Nat) (h : Sh) (L : List Nat) (hN : sx_nd L) (q : Sg) (hV : sx_V h L q) {a0 : Nat} (ha0 : a0 ∈ L) (ka0 : h.1 a0 = 8) (n1 : Int32) (n2 : Int32)  : CMi l dC dI h L yX8_refuse wsX8_refuse ({ frames := 0, cells := 0, slots := 0, locals := 0 } : Room) q [.ref a0, .int n1, .int n2] (fun r q' => sx_V h L q' ∧ sx_fr L (fun a => h.1 a = 8) q q' ∧ r = 0) := by
  intro sz
  refine Met.ofW (cc := cX8_refuse) (maxL := 3) (ret := (some .boolean)) (by decide) rfl ?_
  intro p e s m args below meth c s₁ B hml hv
  obtain ⟨rfl, hsz, hP, hK⟩ := hv
  have hx := B.exec
  have hb := B.bytes
  have hr := B.returns
  have hts := atoms_spec (ws := wsX8_refuse) B.pre
  have hown : s.vm.findClass RX8 = some m.cls := findClass_of_methodNamed B.named
  have hlocks := B.notSynchronized
  subst hsz
  have hD : ∀ g, va_D (AL L s.heap.size) (va_pl L g) := AL_D hN s.heap.size
  have hS : va_S (AL L s.heap.size) s.heap s.heap [] := va_S.rf
  have hF : sx_fr L (fun a => h.1 a = 8) q q := sx_fr.rf
  have hl := lv_entry ([.ref a0, .int n1, .int n2]) (n := 3) (Nat.le_of_ble_eq_true rfl)
  rw [lg_entry_eq]
  generalize (lg_sl ([.ref a0, .int n1, .int n2]) ++ List.replicate (3 - (lg_sl ([.ref a0, .int n1, .int n2])).length) Slot.unset).toArray = ls at hl ⊢
  have hl : lv_has ls 3 [(0, .ref a0), (1, .int n1), (2, .int n2)] := hl
  refine lv_aload_n hx hb dX8_refuse_0 rfl (lv_at hl 0 rfl) ?_
  refine lv_iload_n hx hb dX8_refuse_1 rfl (lv_at hl 1 rfl) ?_
  refine pl_put (D := (dC, dI)) (ty := .int) (v := .int n1) (C := RX8) (T := TX8) (N := 11) hx hb hts iq_X8_refuse_X8 tyX8 tyX8_ok nmX8 hown hK hP hD hS ha0 (sg_F_o ka0 (by decide)) rfl 5 (by decide) (hts (.fieldLink RX8 31 "ClayAccounts$Tokens" "fault" "I") (by decide +kernel)) (fun _ h9 => h9) rfl (by decide +kernel) rfl rfl (by rw [sg_fs_len]; decide) dX8_refuse_2 (fun H locs hP hS => ?_)
  rw [sg_upI ka0 (by decide) (by decide) (Or.inl rfl)] at hP
  obtain ⟨q_1, eq_1⟩ : ∃ z, z = sg_pI q a0 5 n1 := ⟨_, rfl⟩
  rw [← eq_1] at hP
  have hV : sx_V h L q_1 := by rw [eq_1]; exact hV.pI (by rw [ka0]; exact trivial)
  have hF : sx_fr L (fun a => h.1 a = 8) q q_1 := hF.tr (by rw [eq_1]; exact sx_fr.pI (by first | exact ka0 | exact Or.inl ka0 | exact Or.inr ka0 | rfl | simp [ka0]))
  refine lv_aload_n hx hb dX8_refuse_5 rfl (lv_at hl 0 rfl) ?_
  refine lv_iload_n hx hb dX8_refuse_6 rfl (lv_at hl 2 rfl) ?_
  refine pl_put (D := (dC, dI)) (ty := .int) (v := .int n2) (C := RX8) (T := TX8) (N := 11) hx hb hts iq_X8_refuse_X8 tyX8 tyX8_ok nmX8 hown hK hP hD hS ha0 (sg_F_o ka0 (by decide)) rfl 6 (by decide) (hts (.fieldLink RX8 34 "ClayAccounts$Tokens" "faultPlace" "I") (by decide +kernel)) (fun _ h9 => h9) rfl (by decide +kernel) rfl rfl (by rw [sg_fs_len]; decide) dX8_refuse_7 (fun H locs hP hS => ?_)
  rw [sg_upI ka0 (by decide) (by decide) (Or.inl rfl)] at hP
  obtain ⟨q_2, eq_2⟩ : ∃ z, z = sg_pI q_1 a0 6 n2 := ⟨_, rfl⟩
  rw [← eq_2] at hP
  have hV : sx_V h L q_2 := by rw [eq_2]; exact hV.pI (by rw [ka0]; exact trivial)
  have hF : sx_fr L (fun a => h.1 a = 8) q q_2 := hF.tr (by rw [eq_2]; exact sx_fr.pI (by first | exact ka0 | exact Or.inl ka0 | exact Or.inr ka0 | rfl | simp [ka0]))
  refine lv_iconst (v := 0) hx hb dX8_refuse_10 (by decide) ?_
  exact W.zret (v := 0) hx hb hr rfl (fun t ht hW => ⟨⟨0, q_2, rfl, ⟨hV, hF, rfl⟩, by unfold sx_at; rw [ht]; exact hP⟩, hS.F ht⟩) hS.2.2 dX8_refuse_11
theorem iq_X8_demand_X8 : ∀ w ∈ wsX80, w ∈ wsX8_demand := fun _ h => List.mem_cons_of_mem _ (List.mem_append_right _ h)
set_option maxHeartbeats 4000000 in
set_option maxRecDepth 100000 in
theorem k_X8_demand (l : Launch) (dC : Nat → ClassId) (dI : Nat → Nat → Nat) (h : Sh) (L : List Nat) (hN : sx_nd L) (q : Sg) (hV : sx_V h L q) {a0 : Nat} (ha0 : a0 ∈ L) (ka0 : h.1 a0 = 8) (n1 : Int32)  : CMi l dC dI h L yX8_demand wsX8_demand ({ frames := 0, cells := 0, slots := 0, locals := 0 } : Room) q [.ref a0, .int n1] (fun r q' => sx_V h L q' ∧ sx_fr L (fun a => h.1 a = 8) q q' ∧ sx_in r 0 1) := by
  intro sz
  refine Met.ofW (cc := cX8_demand) (maxL := 2) (ret := (some .boolean)) (by decide) rfl ?_
  intro p e s m args below meth c s₁ B hml hv
  obtain ⟨rfl, hsz, hP, hK⟩ := hv
  have hx := B.exec
  have hb := B.bytes
  have hr := B.returns
  have hts := atoms_spec (ws := wsX8_demand) B.pre
  have hown : s.vm.findClass RX8 = some m.cls := findClass_of_methodNamed B.named
  have hlocks := B.notSynchronized
  subst hsz
  have hD : ∀ g, va_D (AL L s.heap.size) (va_pl L g) := AL_D hN s.heap.size
  have hS : va_S (AL L s.heap.size) s.heap s.heap [] := va_S.rf
  have hF : sx_fr L (fun a => h.1 a = 8) q q := sx_fr.rf
  have hl := lv_entry ([.ref a0, .int n1]) (n := 2) (Nat.le_of_ble_eq_true rfl)
  rw [lg_entry_eq]
  generalize (lg_sl ([.ref a0, .int n1]) ++ List.replicate (2 - (lg_sl ([.ref a0, .int n1])).length) Slot.unset).toArray = ls at hl ⊢
  have hl : lv_has ls 2 [(0, .ref a0), (1, .int n1)] := hl
  refine lv_aload_n hx hb dX8_demand_0 rfl (lv_at hl 0 rfl) ?_
  refine pl_get (D := (dC, dI)) (v := .int (q.1 a0 0)) (C := RX8) (T := TX8) (N := 11) hx hb hts iq_X8_demand_X8 hown hK hP ha0 (sg_F_o ka0 (by decide)) rfl 0 (by decide) (hts (.fieldLink RX8 37 "ClayAccounts$Tokens" "kind" "I") (by decide +kernel)) (fun _ h9 => h9) (sg_fs_at (by decide)) dX8_demand_1 ?_
  refine lv_iload_n hx hb dX8_demand_4 rfl (lv_at hl 1 rfl) ?_
  refine lv_icmp_eq (tgt := 21) hx hb dX8_demand_5 (by decide) (fun c_1 => ?_) (fun c_1 => ?_)
  · refine lv_aload_n hx hb dX8_demand_21 rfl (lv_at hl 0 rfl) ?_
    refine pl_get (D := (dC, dI)) (v := .int (q.1 a0 0)) (C := RX8) (T := TX8) (N := 11) hx hb hts iq_X8_demand_X8 hown hK hP ha0 (sg_F_o ka0 (by decide)) rfl 0 (by decide) (hts (.fieldLink RX8 37 "ClayAccounts$Tokens" "kind" "I") (by decide +kernel)) (fun _ h9 => h9) (sg_fs_at (by decide)) dX8_demand_22 ?_
    refine lv_iload_n hx hb dX8_demand_25 rfl (lv_at hl 1 rfl) ?_
    refine lv_icmp_ne (tgt := 33) hx hb dX8_demand_26 (by decide) (fun c_2 => ?_) (fun c_2 => ?_)
    · refine lv_iconst (v := 0) hx hb dX8_demand_33 (by decide) ?_
      exact W.zret (v := 0) hx hb hr rfl (fun t ht hW => ⟨⟨0, q, rfl, ⟨hV, hF, by unfold sx_in; decide⟩, by unfold sx_at; rw [ht]; exact hP⟩, hS.F ht⟩) hS.2.2 dX8_demand_34
    · refine lv_iconst (v := 1) hx hb dX8_demand_29 (by decide) ?_
      refine lv_goto (tgt := 34) hx hb dX8_demand_30 (by decide) ?_
      exact W.zret (v := 1) hx hb hr rfl (fun t ht hW => ⟨⟨1, q, rfl, ⟨hV, hF, by unfold sx_in; decide⟩, by unfold sx_at; rw [ht]; exact hP⟩, hS.F ht⟩) hS.2.2 dX8_demand_34
  · refine lv_aload_n hx hb dX8_demand_8 rfl (lv_at hl 0 rfl) ?_
    refine lv_iconst (v := 1) hx hb dX8_demand_9 (by decide) ?_
    refine pl_put (D := (dC, dI)) (ty := .int) (v := .int 1) (C := RX8) (T := TX8) (N := 11) hx hb hts iq_X8_demand_X8 tyX8 tyX8_ok nmX8 hown hK hP hD hS ha0 (sg_F_o ka0 (by decide)) rfl 5 (by decide) (hts (.fieldLink RX8 31 "ClayAccounts$Tokens" "fault" "I") (by decide +kernel)) (fun _ h9 => h9) rfl (by decide +kernel) rfl rfl (by rw [sg_fs_len]; decide) dX8_demand_10 (fun H locs hP hS => ?_)
    rw [sg_upI ka0 (by decide) (by decide) (Or.inl rfl)] at hP
    obtain ⟨q_3, eq_3⟩ : ∃ z, z = sg_pI q a0 5 1 := ⟨_, rfl⟩
    rw [← eq_3] at hP
    have hV : sx_V h L q_3 := by rw [eq_3]; exact hV.pI (by rw [ka0]; exact trivial)
    have hF : sx_fr L (fun a => h.1 a = 8) q q_3 := hF.tr (by rw [eq_3]; exact sx_fr.pI (by first | exact ka0 | exact Or.inl ka0 | exact Or.inr ka0 | rfl | simp [ka0]))
    refine lv_aload_n hx hb dX8_demand_13 rfl (lv_at hl 0 rfl) ?_
    refine lv_aload_n hx hb dX8_demand_14 rfl (lv_at hl 0 rfl) ?_
    refine pl_get (D := (dC, dI)) (v := .int (q_3.1 a0 1)) (C := RX8) (T := TX8) (N := 11) hx hb hts iq_X8_demand_X8 hown hK hP ha0 (sg_F_o ka0 (by decide)) rfl 1 (by decide) (hts (.fieldLink RX8 40 "ClayAccounts$Tokens" "place" "I") (by decide +kernel)) (fun _ h9 => h9) (sg_fs_at (by decide)) dX8_demand_15 ?_
    refine pl_put (D := (dC, dI)) (ty := .int) (v := .int (q_3.1 a0 1)) (C := RX8) (T := TX8) (N := 11) hx hb hts iq_X8_demand_X8 tyX8 tyX8_ok nmX8 hown hK hP hD hS ha0 (sg_F_o ka0 (by decide)) rfl 6 (by decide) (hts (.fieldLink RX8 34 "ClayAccounts$Tokens" "faultPlace" "I") (by decide +kernel)) (fun _ h9 => h9) rfl (by decide +kernel) rfl rfl (by rw [sg_fs_len]; decide) dX8_demand_18 (fun H locs hP hS => ?_)
    rw [sg_upI ka0 (by decide) (by decide) (Or.inl rfl)] at hP
    obtain ⟨q_4, eq_4⟩ : ∃ z, z = sg_pI q_3 a0 6 (q_3.1 a0 1) := ⟨_, rfl⟩
    rw [← eq_4] at hP
    have hV : sx_V h L q_4 := by rw [eq_4]; exact hV.pI (by rw [ka0]; exact trivial)
    have hF : sx_fr L (fun a => h.1 a = 8) q q_4 := hF.tr (by rw [eq_4]; exact sx_fr.pI (by first | exact ka0 | exact Or.inl ka0 | exact Or.inr ka0 | rfl | simp [ka0]))
    refine lv_aload_n hx hb dX8_demand_21 rfl (lv_at hl 0 rfl) ?_
    refine pl_get (D := (dC, dI)) (v := .int (q_4.1 a0 0)) (C := RX8) (T := TX8) (N := 11) hx hb hts iq_X8_demand_X8 hown hK hP ha0 (sg_F_o ka0 (by decide)) rfl 0 (by decide) (hts (.fieldLink RX8 37 "ClayAccounts$Tokens" "kind" "I") (by decide +kernel)) (fun _ h9 => h9) (sg_fs_at (by decide)) dX8_demand_22 ?_
    refine lv_iload_n hx hb dX8_demand_25 rfl (lv_at hl 1 rfl) ?_
    refine lv_icmp_ne (tgt := 33) hx hb dX8_demand_26 (by decide) (fun c_5 => ?_) (fun c_5 => ?_)
    · refine lv_iconst (v := 0) hx hb dX8_demand_33 (by decide) ?_
      exact W.zret (v := 0) hx hb hr rfl (fun t ht hW => ⟨⟨0, q_4, rfl, ⟨hV, hF, by unfold sx_in; decide⟩, by unfold sx_at; rw [ht]; exact hP⟩, hS.F ht⟩) hS.2.2 dX8_demand_34
    · refine lv_iconst (v := 1) hx hb dX8_demand_29 (by decide) ?_
      refine lv_goto (tgt := 34) hx hb dX8_demand_30 (by decide) ?_
      exact W.zret (v := 1) hx hb hr rfl (fun t ht hW => ⟨⟨1, q_4, rfl, ⟨hV, hF, by unfold sx_in; decide⟩, by unfold sx_at; rw [ht]; exact hP⟩, hS.F ht⟩) hS.2.2 dX8_demand_34
theorem iq_X2_begin_X2 : ∀ w ∈ wsX20, w ∈ wsX2_begin := fun _ h => List.mem_cons_of_mem _ (List.mem_append_right _ h)
set_option maxHeartbeats 4000000 in
set_option maxRecDepth 100000 in
theorem k_X2_begin (l : Launch) (dC : Nat → ClassId) (dI : Nat → Nat → Nat) (h : Sh) (L : List Nat) (hN : sx_nd L) (q : Sg) (hV : sx_V h L q) {a0 : Nat} (ha0 : a0 ∈ L) (ka0 : h.1 a0 = 2) (n1 : Int32)  : CMv l dC dI h L yX2_begin wsX2_begin ({ frames := 0, cells := 0, slots := 0, locals := 0 } : Room) q [.ref a0, .int n1] (fun q' => sx_V h L q' ∧ sx_fr L (fun a => h.1 a = 2) q q') := by
  intro sz
  refine Met.ofW (cc := cX2_begin) (maxL := 2) (ret := none) (by decide) rfl ?_
  intro p e s m args below meth c s₁ B hml hv
  obtain ⟨rfl, hsz, hP, hK⟩ := hv
  have hx := B.exec
  have hb := B.bytes
  have hr := B.returns
  have hts := atoms_spec (ws := wsX2_begin) B.pre
  have hown : s.vm.findClass RX2 = some m.cls := findClass_of_methodNamed B.named
  have hlocks := B.notSynchronized
  subst hsz
  have hD : ∀ g, va_D (AL L s.heap.size) (va_pl L g) := AL_D hN s.heap.size
  have hS : va_S (AL L s.heap.size) s.heap s.heap [] := va_S.rf
  have hF : sx_fr L (fun a => h.1 a = 2) q q := sx_fr.rf
  have hl := lv_entry ([.ref a0, .int n1]) (n := 2) (Nat.le_of_ble_eq_true rfl)
  rw [lg_entry_eq]
  generalize (lg_sl ([.ref a0, .int n1]) ++ List.replicate (2 - (lg_sl ([.ref a0, .int n1])).length) Slot.unset).toArray = ls at hl ⊢
  have hl : lv_has ls 2 [(0, .ref a0), (1, .int n1)] := hl
  refine lv_aload_n hx hb dX2_begin_0 rfl (lv_at hl 0 rfl) ?_
  refine lv_iload_n hx hb dX2_begin_1 rfl (lv_at hl 1 rfl) ?_
  refine pl_put (D := (dC, dI)) (ty := .int) (v := .int n1) (C := RX2) (T := TX2) (N := 6) hx hb hts iq_X2_begin_X2 tyX2 tyX2_ok nmX2 hown hK hP hD hS ha0 (sg_F_o ka0 (by decide)) rfl 0 (by decide) (hts (.fieldLink RX2 9 "ClayAccounts$Line" "kind" "I") (by decide +kernel)) (fun _ h9 => h9) rfl (by decide +kernel) rfl rfl (by rw [sg_fs_len]; decide) dX2_begin_2 (fun H locs hP hS => ?_)
  rw [sg_upI ka0 (by decide) (by decide) (Or.inl rfl)] at hP
  obtain ⟨q_1, eq_1⟩ : ∃ z, z = sg_pI q a0 0 n1 := ⟨_, rfl⟩
  rw [← eq_1] at hP
  have hV : sx_V h L q_1 := by rw [eq_1]; exact hV.pI (by rw [ka0]; exact trivial)
  have hF : sx_fr L (fun a => h.1 a = 2) q q_1 := hF.tr (by rw [eq_1]; exact sx_fr.pI (by first | exact ka0 | exact Or.inl ka0 | exact Or.inr ka0 | rfl | simp [ka0]))
  refine lv_aload_n hx hb dX2_begin_5 rfl (lv_at hl 0 rfl) ?_
  refine lv_iconst (v := (-1)) hx hb dX2_begin_6 (by decide) ?_
  refine pl_put (D := (dC, dI)) (ty := .int) (v := .int (-1)) (C := RX2) (T := TX2) (N := 6) hx hb hts iq_X2_begin_X2 tyX2 tyX2_ok nmX2 hown hK hP hD hS ha0 (sg_F_o ka0 (by decide)) rfl 1 (by decide) (hts (.fieldLink RX2 15 "ClayAccounts$Line" "system" "I") (by decide +kernel)) (fun _ h9 => h9) rfl (by decide +kernel) rfl rfl (by rw [sg_fs_len]; decide) dX2_begin_7 (fun H locs hP hS => ?_)
  rw [sg_upI ka0 (by decide) (by decide) (Or.inl rfl)] at hP
  obtain ⟨q_2, eq_2⟩ : ∃ z, z = sg_pI q_1 a0 1 (-1) := ⟨_, rfl⟩
  rw [← eq_2] at hP
  have hV : sx_V h L q_2 := by rw [eq_2]; exact hV.pI (by rw [ka0]; exact trivial)
  have hF : sx_fr L (fun a => h.1 a = 2) q q_2 := hF.tr (by rw [eq_2]; exact sx_fr.pI (by first | exact ka0 | exact Or.inl ka0 | exact Or.inr ka0 | rfl | simp [ka0]))
  refine lv_aload_n hx hb dX2_begin_10 rfl (lv_at hl 0 rfl) ?_
  refine lv_iconst (v := 0) hx hb dX2_begin_11 (by decide) ?_
  refine pl_put (D := (dC, dI)) (ty := .int) (v := .int 0) (C := RX2) (T := TX2) (N := 6) hx hb hts iq_X2_begin_X2 tyX2 tyX2_ok nmX2 hown hK hP hD hS ha0 (sg_F_o ka0 (by decide)) rfl 2 (by decide) (hts (.fieldLink RX2 18 "ClayAccounts$Line" "holeCount" "I") (by decide +kernel)) (fun _ h9 => h9) rfl (by decide +kernel) rfl rfl (by rw [sg_fs_len]; decide) dX2_begin_12 (fun H locs hP hS => ?_)
  rw [sg_upI ka0 (by decide) (by decide) (Or.inl rfl)] at hP
  obtain ⟨q_3, eq_3⟩ : ∃ z, z = sg_pI q_2 a0 2 0 := ⟨_, rfl⟩
  rw [← eq_3] at hP
  have hV : sx_V h L q_3 := by rw [eq_3]; exact hV.pI (by rw [ka0]; exact trivial)
  have hF : sx_fr L (fun a => h.1 a = 2) q q_3 := hF.tr (by rw [eq_3]; exact sx_fr.pI (by first | exact ka0 | exact Or.inl ka0 | exact Or.inr ka0 | rfl | simp [ka0]))
  refine lv_aload_n hx hb dX2_begin_15 rfl (lv_at hl 0 rfl) ?_
  refine lv_iconst (v := 0) hx hb dX2_begin_16 (by decide) ?_
  refine pl_put (D := (dC, dI)) (ty := .int) (v := .int 0) (C := RX2) (T := TX2) (N := 6) hx hb hts iq_X2_begin_X2 tyX2 tyX2_ok nmX2 hown hK hP hD hS ha0 (sg_F_o ka0 (by decide)) rfl 3 (by decide) (hts (.fieldLink RX2 21 "ClayAccounts$Line" "value" "I") (by decide +kernel)) (fun _ h9 => h9) rfl (by decide +kernel) rfl rfl (by rw [sg_fs_len]; decide) dX2_begin_17 (fun H locs hP hS => ?_)
  rw [sg_upI ka0 (by decide) (by decide) (Or.inl rfl)] at hP
  obtain ⟨q_4, eq_4⟩ : ∃ z, z = sg_pI q_3 a0 3 0 := ⟨_, rfl⟩
  rw [← eq_4] at hP
  have hV : sx_V h L q_4 := by rw [eq_4]; exact hV.pI (by rw [ka0]; exact trivial)
  have hF : sx_fr L (fun a => h.1 a = 2) q q_4 := hF.tr (by rw [eq_4]; exact sx_fr.pI (by first | exact ka0 | exact Or.inl ka0 | exact Or.inr ka0 | rfl | simp [ka0]))
  refine lv_aload_n hx hb dX2_begin_20 rfl (lv_at hl 0 rfl) ?_
  refine lv_iconst (v := (-1)) hx hb dX2_begin_21 (by decide) ?_
  refine pl_put (D := (dC, dI)) (ty := .int) (v := .int (-1)) (C := RX2) (T := TX2) (N := 6) hx hb hts iq_X2_begin_X2 tyX2 tyX2_ok nmX2 hown hK hP hD hS ha0 (sg_F_o ka0 (by decide)) rfl 4 (by decide) (hts (.fieldLink RX2 24 "ClayAccounts$Line" "least" "I") (by decide +kernel)) (fun _ h9 => h9) rfl (by decide +kernel) rfl rfl (by rw [sg_fs_len]; decide) dX2_begin_22 (fun H locs hP hS => ?_)
  rw [sg_upI ka0 (by decide) (by decide) (Or.inl rfl)] at hP
  obtain ⟨q_5, eq_5⟩ : ∃ z, z = sg_pI q_4 a0 4 (-1) := ⟨_, rfl⟩
  rw [← eq_5] at hP
  have hV : sx_V h L q_5 := by rw [eq_5]; exact hV.pI (by rw [ka0]; exact trivial)
  have hF : sx_fr L (fun a => h.1 a = 2) q q_5 := hF.tr (by rw [eq_5]; exact sx_fr.pI (by first | exact ka0 | exact Or.inl ka0 | exact Or.inr ka0 | rfl | simp [ka0]))
  refine lv_aload_n hx hb dX2_begin_25 rfl (lv_at hl 0 rfl) ?_
  refine lv_iconst (v := (-1)) hx hb dX2_begin_26 (by decide) ?_
  refine pl_put (D := (dC, dI)) (ty := .int) (v := .int (-1)) (C := RX2) (T := TX2) (N := 6) hx hb hts iq_X2_begin_X2 tyX2 tyX2_ok nmX2 hown hK hP hD hS ha0 (sg_F_o ka0 (by decide)) rfl 5 (by decide) (hts (.fieldLink RX2 27 "ClayAccounts$Line" "greatest" "I") (by decide +kernel)) (fun _ h9 => h9) rfl (by decide +kernel) rfl rfl (by rw [sg_fs_len]; decide) dX2_begin_27 (fun H locs hP hS => ?_)
  rw [sg_upI ka0 (by decide) (by decide) (Or.inl rfl)] at hP
  obtain ⟨q_6, eq_6⟩ : ∃ z, z = sg_pI q_5 a0 5 (-1) := ⟨_, rfl⟩
  rw [← eq_6] at hP
  have hV : sx_V h L q_6 := by rw [eq_6]; exact hV.pI (by rw [ka0]; exact trivial)
  have hF : sx_fr L (fun a => h.1 a = 2) q q_6 := hF.tr (by rw [eq_6]; exact sx_fr.pI (by first | exact ka0 | exact Or.inl ka0 | exact Or.inr ka0 | rfl | simp [ka0]))
  exact W.vret hx hb hr (fun t ht hW => ⟨⟨q_6, rfl, ⟨hV, hF⟩, by unfold sx_at; rw [ht]; exact hP⟩, hS.F ht⟩) hS.2.2 dX2_begin_30
theorem iq_X1_noteDigit_X1 : ∀ w ∈ wsX10, w ∈ wsX1_noteDigit := fun _ h => List.mem_cons_of_mem _ (List.mem_append_right _ h)
set_option maxHeartbeats 4000000 in
set_option maxRecDepth 100000 in
theorem k_X1_noteDigit (l : Launch) (dC : Nat → ClassId) (dI : Nat → Nat → Nat) (h : Sh) (L : List Nat) (hN : sx_nd L) (q : Sg) (hV : sx_V h L q) {a0 : Nat} (ha0 : a0 ∈ L) (ka0 : h.1 a0 = 1) (n1 : Int32)  : CMv l dC dI h L yX1_noteDigit wsX1_noteDigit ({ frames := 0, cells := 0, slots := 0, locals := 0 } : Room) q [.ref a0, .int n1] (fun q' => sx_V h L q' ∧ sx_fr L (fun a => h.1 a = 1) q q') := by
  intro sz
  refine Met.ofW (cc := cX1_noteDigit) (maxL := 2) (ret := none) (by decide) rfl ?_
  intro p e s m args below meth c s₁ B hml hv
  obtain ⟨rfl, hsz, hP, hK⟩ := hv
  have hx := B.exec
  have hb := B.bytes
  have hr := B.returns
  have hts := atoms_spec (ws := wsX1_noteDigit) B.pre
  have hown : s.vm.findClass RX1 = some m.cls := findClass_of_methodNamed B.named
  have hlocks := B.notSynchronized
  subst hsz
  have hD : ∀ g, va_D (AL L s.heap.size) (va_pl L g) := AL_D hN s.heap.size
  have hS : va_S (AL L s.heap.size) s.heap s.heap [] := va_S.rf
  have hF : sx_fr L (fun a => h.1 a = 1) q q := sx_fr.rf
  have hl := lv_entry ([.ref a0, .int n1]) (n := 2) (Nat.le_of_ble_eq_true rfl)
  rw [lg_entry_eq]
  generalize (lg_sl ([.ref a0, .int n1]) ++ List.replicate (2 - (lg_sl ([.ref a0, .int n1])).length) Slot.unset).toArray = ls at hl ⊢
  have hl : lv_has ls 2 [(0, .ref a0), (1, .int n1)] := hl
  refine lv_aload_n hx hb dX1_noteDigit_0 rfl (lv_at hl 0 rfl) ?_
  refine pl_get (D := (dC, dI)) (v := .int (q.1 a0 6)) (C := RX1) (T := TX1) (N := 7) hx hb hts iq_X1_noteDigit_X1 hown hK hP ha0 (sg_F_o ka0 (by decide)) rfl 6 (by decide) (hts (.fieldLink RX1 22 "ClayAccounts$Hole" "sureDigit" "I") (by decide +kernel)) (fun _ h9 => h9) (sg_fs_at (by decide)) dX1_noteDigit_1 ?_
  refine lv_bipush (v := (-2)) hx hb dX1_noteDigit_4 (by decide) ?_
  refine lv_icmp_ne (tgt := 17) hx hb dX1_noteDigit_6 (by decide) (fun c_1 => ?_) (fun c_1 => ?_)
  · refine lv_aload_n hx hb dX1_noteDigit_17 rfl (lv_at hl 0 rfl) ?_
    refine pl_get (D := (dC, dI)) (v := .int (q.1 a0 6)) (C := RX1) (T := TX1) (N := 7) hx hb hts iq_X1_noteDigit_X1 hown hK hP ha0 (sg_F_o ka0 (by decide)) rfl 6 (by decide) (hts (.fieldLink RX1 22 "ClayAccounts$Hole" "sureDigit" "I") (by decide +kernel)) (fun _ h9 => h9) (sg_fs_at (by decide)) dX1_noteDigit_18 ?_
    refine lv_iload_n hx hb dX1_noteDigit_21 rfl (lv_at hl 1 rfl) ?_
    refine lv_icmp_eq (tgt := 30) hx hb dX1_noteDigit_22 (by decide) (fun c_2 => ?_) (fun c_2 => ?_)
    · exact W.vret hx hb hr (fun t ht hW => ⟨⟨q, rfl, ⟨hV, hF⟩, by unfold sx_at; rw [ht]; exact hP⟩, hS.F ht⟩) hS.2.2 dX1_noteDigit_30
    · refine lv_aload_n hx hb dX1_noteDigit_25 rfl (lv_at hl 0 rfl) ?_
      refine lv_iconst (v := (-1)) hx hb dX1_noteDigit_26 (by decide) ?_
      refine pl_put (D := (dC, dI)) (ty := .int) (v := .int (-1)) (C := RX1) (T := TX1) (N := 7) hx hb hts iq_X1_noteDigit_X1 tyX1 tyX1_ok nmX1 hown hK hP hD hS ha0 (sg_F_o ka0 (by decide)) rfl 6 (by decide) (hts (.fieldLink RX1 22 "ClayAccounts$Hole" "sureDigit" "I") (by decide +kernel)) (fun _ h9 => h9) rfl (by decide +kernel) rfl rfl (by rw [sg_fs_len]; decide) dX1_noteDigit_27 (fun H locs hP hS => ?_)
      rw [sg_upI ka0 (by decide) (by decide) (Or.inl rfl)] at hP
      obtain ⟨q_3, eq_3⟩ : ∃ z, z = sg_pI q a0 6 (-1) := ⟨_, rfl⟩
      rw [← eq_3] at hP
      have hV : sx_V h L q_3 := by rw [eq_3]; exact hV.pI (by rw [ka0]; exact trivial)
      have hF : sx_fr L (fun a => h.1 a = 1) q q_3 := hF.tr (by rw [eq_3]; exact sx_fr.pI (by first | exact ka0 | exact Or.inl ka0 | exact Or.inr ka0 | rfl | simp [ka0]))
      exact W.vret hx hb hr (fun t ht hW => ⟨⟨q_3, rfl, ⟨hV, hF⟩, by unfold sx_at; rw [ht]; exact hP⟩, hS.F ht⟩) hS.2.2 dX1_noteDigit_30
  · refine lv_aload_n hx hb dX1_noteDigit_9 rfl (lv_at hl 0 rfl) ?_
    refine lv_iload_n hx hb dX1_noteDigit_10 rfl (lv_at hl 1 rfl) ?_
    refine pl_put (D := (dC, dI)) (ty := .int) (v := .int n1) (C := RX1) (T := TX1) (N := 7) hx hb hts iq_X1_noteDigit_X1 tyX1 tyX1_ok nmX1 hown hK hP hD hS ha0 (sg_F_o ka0 (by decide)) rfl 6 (by decide) (hts (.fieldLink RX1 22 "ClayAccounts$Hole" "sureDigit" "I") (by decide +kernel)) (fun _ h9 => h9) rfl (by decide +kernel) rfl rfl (by rw [sg_fs_len]; decide) dX1_noteDigit_11 (fun H locs hP hS => ?_)
    rw [sg_upI ka0 (by decide) (by decide) (Or.inl rfl)] at hP
    obtain ⟨q_4, eq_4⟩ : ∃ z, z = sg_pI q a0 6 n1 := ⟨_, rfl⟩
    rw [← eq_4] at hP
    have hV : sx_V h L q_4 := by rw [eq_4]; exact hV.pI (by rw [ka0]; exact trivial)
    have hF : sx_fr L (fun a => h.1 a = 1) q q_4 := hF.tr (by rw [eq_4]; exact sx_fr.pI (by first | exact ka0 | exact Or.inl ka0 | exact Or.inr ka0 | rfl | simp [ka0]))
    refine lv_goto (tgt := 30) hx hb dX1_noteDigit_14 (by decide) ?_
    exact W.vret hx hb hr (fun t ht hW => ⟨⟨q_4, rfl, ⟨hV, hF⟩, by unfold sx_at; rw [ht]; exact hP⟩, hS.F ht⟩) hS.2.2 dX1_noteDigit_30
theorem iq_X5_isFull_X5 : ∀ w ∈ wsX50, w ∈ wsX5_isFull := fun _ h => List.mem_cons_of_mem _ (List.mem_append_right _ h)
set_option maxHeartbeats 4000000 in
set_option maxRecDepth 100000 in
theorem k_X5_isFull (l : Launch) (dC : Nat → ClassId) (dI : Nat → Nat → Nat) (h : Sh) (L : List Nat) (hN : sx_nd L) (q : Sg) (hV : sx_V h L q) {a0 : Nat} (ha0 : a0 ∈ L) (ka0 : h.1 a0 = 5)  : CMi l dC dI h L yX5_isFull wsX5_isFull ({ frames := 0, cells := 0, slots := 0, locals := 0 } : Room) q [.ref a0] (fun r q' => sx_V h L q' ∧ sx_fr L (fun a => False) q q' ∧ sx_in r 0 1) := by
  intro sz
  refine Met.ofW (cc := cX5_isFull) (maxL := 1) (ret := (some .boolean)) (by decide) rfl ?_
  intro p e s m args below meth c s₁ B hml hv
  obtain ⟨rfl, hsz, hP, hK⟩ := hv
  have hx := B.exec
  have hb := B.bytes
  have hr := B.returns
  have hts := atoms_spec (ws := wsX5_isFull) B.pre
  have hown : s.vm.findClass RX5 = some m.cls := findClass_of_methodNamed B.named
  have hlocks := B.notSynchronized
  subst hsz
  have hD : ∀ g, va_D (AL L s.heap.size) (va_pl L g) := AL_D hN s.heap.size
  have hS : va_S (AL L s.heap.size) s.heap s.heap [] := va_S.rf
  have hF : sx_fr L (fun a => False) q q := sx_fr.rf
  have hl := lv_entry ([.ref a0]) (n := 1) (Nat.le_of_ble_eq_true rfl)
  rw [lg_entry_eq]
  generalize (lg_sl ([.ref a0]) ++ List.replicate (1 - (lg_sl ([.ref a0])).length) Slot.unset).toArray = ls at hl ⊢
  have hl : lv_has ls 1 [(0, .ref a0)] := hl
  refine lv_aload_n hx hb dX5_isFull_0 rfl (lv_at hl 0 rfl) ?_
  refine pl_get (D := (dC, dI)) (v := .int (q.1 a0 2)) (C := RX5) (T := TX5) (N := 7) hx hb hts iq_X5_isFull_X5 hown hK hP ha0 (sg_F_o ka0 (by decide)) rfl 2 (by decide) (hts (.fieldLink RX5 25 "ClayAccounts$Tablet" "lineCount" "I") (by decide +kernel)) (fun _ h9 => h9) (sg_fs_at (by decide)) dX5_isFull_1 ?_
  refine lv_bipush (v := 12) hx hb dX5_isFull_4 (by decide) ?_
  refine lv_icmp_lt (tgt := 13) hx hb dX5_isFull_6 (by decide) (fun c_1 => ?_) (fun c_1 => ?_)
  · refine lv_iconst (v := 0) hx hb dX5_isFull_13 (by decide) ?_
    exact W.zret (v := 0) hx hb hr rfl (fun t ht hW => ⟨⟨0, q, rfl, ⟨hV, hF, by unfold sx_in; decide⟩, by unfold sx_at; rw [ht]; exact hP⟩, hS.F ht⟩) hS.2.2 dX5_isFull_14
  · refine lv_iconst (v := 1) hx hb dX5_isFull_9 (by decide) ?_
    refine lv_goto (tgt := 14) hx hb dX5_isFull_10 (by decide) ?_
    exact W.zret (v := 1) hx hb hr rfl (fun t ht hW => ⟨⟨1, q, rfl, ⟨hV, hF, by unfold sx_in; decide⟩, by unfold sx_at; rw [ht]; exact hP⟩, hS.F ht⟩) hS.2.2 dX5_isFull_14
theorem iq_X5_clear_X5 : ∀ w ∈ wsX50, w ∈ wsX5_clear := fun _ h => List.mem_cons_of_mem _ (List.mem_append_right _ h)
set_option maxHeartbeats 4000000 in
set_option maxRecDepth 100000 in
theorem k_X5_clear (l : Launch) (dC : Nat → ClassId) (dI : Nat → Nat → Nat) (h : Sh) (L : List Nat) (hN : sx_nd L) (q : Sg) (hV : sx_V h L q) {a0 : Nat} (ha0 : a0 ∈ L) (ka0 : h.1 a0 = 5)  : CMv l dC dI h L yX5_clear wsX5_clear ({ frames := 0, cells := 0, slots := 0, locals := 0 } : Room) q [.ref a0] (fun q' => sx_V h L q' ∧ sx_fr L (fun a => h.1 a = 5) q q') := by
  intro sz
  refine Met.ofW (cc := cX5_clear) (maxL := 1) (ret := none) (by decide) rfl ?_
  intro p e s m args below meth c s₁ B hml hv
  obtain ⟨rfl, hsz, hP, hK⟩ := hv
  have hx := B.exec
  have hb := B.bytes
  have hr := B.returns
  have hts := atoms_spec (ws := wsX5_clear) B.pre
  have hown : s.vm.findClass RX5 = some m.cls := findClass_of_methodNamed B.named
  have hlocks := B.notSynchronized
  subst hsz
  have hD : ∀ g, va_D (AL L s.heap.size) (va_pl L g) := AL_D hN s.heap.size
  have hS : va_S (AL L s.heap.size) s.heap s.heap [] := va_S.rf
  have hF : sx_fr L (fun a => h.1 a = 5) q q := sx_fr.rf
  have hl := lv_entry ([.ref a0]) (n := 1) (Nat.le_of_ble_eq_true rfl)
  rw [lg_entry_eq]
  generalize (lg_sl ([.ref a0]) ++ List.replicate (1 - (lg_sl ([.ref a0])).length) Slot.unset).toArray = ls at hl ⊢
  have hl : lv_has ls 1 [(0, .ref a0)] := hl
  refine lv_aload_n hx hb dX5_clear_0 rfl (lv_at hl 0 rfl) ?_
  refine lv_iconst (v := 0) hx hb dX5_clear_1 (by decide) ?_
  refine pl_put (D := (dC, dI)) (ty := .int) (v := .int 0) (C := RX5) (T := TX5) (N := 7) hx hb hts iq_X5_clear_X5 tyX5 tyX5_ok nmX5 hown hK hP hD hS ha0 (sg_F_o ka0 (by decide)) rfl 2 (by decide) (hts (.fieldLink RX5 25 "ClayAccounts$Tablet" "lineCount" "I") (by decide +kernel)) (fun _ h9 => h9) rfl (by decide +kernel) rfl rfl (by rw [sg_fs_len]; decide) dX5_clear_2 (fun H locs hP hS => ?_)
  rw [sg_upI ka0 (by decide) (by decide) (Or.inl rfl)] at hP
  obtain ⟨q_1, eq_1⟩ : ∃ z, z = sg_pI q a0 2 0 := ⟨_, rfl⟩
  rw [← eq_1] at hP
  have hV : sx_V h L q_1 := by rw [eq_1]; exact hV.pI (by rw [ka0]; exact (by show sx_in 0 0 12; unfold sx_in; decide))
  have hF : sx_fr L (fun a => h.1 a = 5) q q_1 := hF.tr (by rw [eq_1]; exact sx_fr.pI (by first | exact ka0 | exact Or.inl ka0 | exact Or.inr ka0 | rfl | simp [ka0]))
  refine lv_aload_n hx hb dX5_clear_5 rfl (lv_at hl 0 rfl) ?_
  refine lv_iconst (v := 0) hx hb dX5_clear_6 (by decide) ?_
  refine pl_put (D := (dC, dI)) (ty := .int) (v := .int 0) (C := RX5) (T := TX5) (N := 7) hx hb hts iq_X5_clear_X5 tyX5 tyX5_ok nmX5 hown hK hP hD hS ha0 (sg_F_o ka0 (by decide)) rfl 3 (by decide) (hts (.fieldLink RX5 29 "ClayAccounts$Tablet" "holeCount" "I") (by decide +kernel)) (fun _ h9 => h9) rfl (by decide +kernel) rfl rfl (by rw [sg_fs_len]; decide) dX5_clear_7 (fun H locs hP hS => ?_)
  rw [sg_upI ka0 (by decide) (by decide) (Or.inl rfl)] at hP
  obtain ⟨q_2, eq_2⟩ : ∃ z, z = sg_pI q_1 a0 3 0 := ⟨_, rfl⟩
  rw [← eq_2] at hP
  have hV : sx_V h L q_2 := by rw [eq_2]; exact hV.pI (by rw [ka0]; exact (by show sx_in 0 0 4; unfold sx_in; decide))
  have hF : sx_fr L (fun a => h.1 a = 5) q q_2 := hF.tr (by rw [eq_2]; exact sx_fr.pI (by first | exact ka0 | exact Or.inl ka0 | exact Or.inr ka0 | rfl | simp [ka0]))
  refine lv_aload_n hx hb dX5_clear_10 rfl (lv_at hl 0 rfl) ?_
  refine lv_iconst (v := 0) hx hb dX5_clear_11 (by decide) ?_
  refine pl_put (D := (dC, dI)) (ty := .boolean) (v := .int 0) (C := RX5) (T := TX5) (N := 7) hx hb hts iq_X5_clear_X5 tyX5 tyX5_ok nmX5 hown hK hP hD hS ha0 (sg_F_o ka0 (by decide)) rfl 4 (by decide) (hts (.fieldLink RX5 32 "ClayAccounts$Tablet" "isSolved" "Z") (by decide +kernel)) (fun _ h9 => h9) rfl (by decide +kernel) rfl rfl (by rw [sg_fs_len]; decide) dX5_clear_12 (fun H locs hP hS => ?_)
  rw [sg_upI ka0 (by decide) (by decide) (Or.inr rfl)] at hP
  obtain ⟨q_3, eq_3⟩ : ∃ z, z = sg_pI q_2 a0 4 0 := ⟨_, rfl⟩
  rw [← eq_3] at hP
  have hV : sx_V h L q_3 := by rw [eq_3]; exact hV.pI (by rw [ka0]; exact trivial)
  have hF : sx_fr L (fun a => h.1 a = 5) q q_3 := hF.tr (by rw [eq_3]; exact sx_fr.pI (by first | exact ka0 | exact Or.inl ka0 | exact Or.inr ka0 | rfl | simp [ka0]))
  refine lv_aload_n hx hb dX5_clear_15 rfl (lv_at hl 0 rfl) ?_
  refine lv_iconst (v := 0) hx hb dX5_clear_16 (by decide) ?_
  refine pl_put (D := (dC, dI)) (ty := .int) (v := .int 0) (C := RX5) (T := TX5) (N := 7) hx hb hts iq_X5_clear_X5 tyX5 tyX5_ok nmX5 hown hK hP hD hS ha0 (sg_F_o ka0 (by decide)) rfl 5 (by decide) (hts (.fieldLink RX5 36 "ClayAccounts$Tablet" "readingCount" "I") (by decide +kernel)) (fun _ h9 => h9) rfl (by decide +kernel) rfl rfl (by rw [sg_fs_len]; decide) dX5_clear_17 (fun H locs hP hS => ?_)
  rw [sg_upI ka0 (by decide) (by decide) (Or.inl rfl)] at hP
  obtain ⟨q_4, eq_4⟩ : ∃ z, z = sg_pI q_3 a0 5 0 := ⟨_, rfl⟩
  rw [← eq_4] at hP
  have hV : sx_V h L q_4 := by rw [eq_4]; exact hV.pI (by rw [ka0]; exact trivial)
  have hF : sx_fr L (fun a => h.1 a = 5) q q_4 := hF.tr (by rw [eq_4]; exact sx_fr.pI (by first | exact ka0 | exact Or.inl ka0 | exact Or.inr ka0 | rfl | simp [ka0]))
  refine lv_aload_n hx hb dX5_clear_20 rfl (lv_at hl 0 rfl) ?_
  refine lv_bipush (v := 13) hx hb dX5_clear_21 (by decide) ?_
  refine pl_put (D := (dC, dI)) (ty := .int) (v := .int 13) (C := RX5) (T := TX5) (N := 7) hx hb hts iq_X5_clear_X5 tyX5 tyX5_ok nmX5 hown hK hP hD hS ha0 (sg_F_o ka0 (by decide)) rfl 6 (by decide) (hts (.fieldLink RX5 39 "ClayAccounts$Tablet" "fewestWrong" "I") (by decide +kernel)) (fun _ h9 => h9) rfl (by decide +kernel) rfl rfl (by rw [sg_fs_len]; decide) dX5_clear_23 (fun H locs hP hS => ?_)
  rw [sg_upI ka0 (by decide) (by decide) (Or.inl rfl)] at hP
  obtain ⟨q_5, eq_5⟩ : ∃ z, z = sg_pI q_4 a0 6 13 := ⟨_, rfl⟩
  rw [← eq_5] at hP
  have hV : sx_V h L q_5 := by rw [eq_5]; exact hV.pI (by rw [ka0]; exact trivial)
  have hF : sx_fr L (fun a => h.1 a = 5) q q_5 := hF.tr (by rw [eq_5]; exact sx_fr.pI (by first | exact ka0 | exact Or.inl ka0 | exact Or.inr ka0 | rfl | simp [ka0]))
  exact W.vret hx hb hr (fun t ht hW => ⟨⟨q_5, rfl, ⟨hV, hF⟩, by unfold sx_at; rw [ht]; exact hP⟩, hS.F ht⟩) hS.2.2 dX5_clear_26
set_option maxHeartbeats 4000000 in
set_option maxRecDepth 100000 in
theorem k_X9_slot (l : Launch) (dC : Nat → ClassId) (dI : Nat → Nat → Nat) (h : Sh) (L : List Nat) (hN : sx_nd L) (q : Sg) (hV : sx_V h L q) (n1 : Int32) (n2 : Int32)  : CMi l dC dI h L yX9_slot wsX9_slot ({ frames := 0, cells := 0, slots := 0, locals := 0 } : Room) q [.int n1, .int n2] (fun r q' => sx_V h L q' ∧ sx_fr L (fun a => False) q q') := by
  intro sz
  refine Met.ofW (cc := cX9_slot) (maxL := 2) (ret := (some .int)) (by decide) rfl ?_
  intro p e s m args below meth c s₁ B hml hv
  obtain ⟨rfl, hsz, hP, hK⟩ := hv
  have hx := B.exec
  have hb := B.bytes
  have hr := B.returns
  have hts := atoms_spec (ws := wsX9_slot) B.pre
  have hown : s.vm.findClass RX9 = some m.cls := findClass_of_methodNamed B.named
  have hlocks := B.notSynchronized
  subst hsz
  have hD : ∀ g, va_D (AL L s.heap.size) (va_pl L g) := AL_D hN s.heap.size
  have hS : va_S (AL L s.heap.size) s.heap s.heap [] := va_S.rf
  have hF : sx_fr L (fun a => False) q q := sx_fr.rf
  have hl := lv_entry ([.int n1, .int n2]) (n := 2) (Nat.le_of_ble_eq_true rfl)
  rw [lg_entry_eq]
  generalize (lg_sl ([.int n1, .int n2]) ++ List.replicate (2 - (lg_sl ([.int n1, .int n2])).length) Slot.unset).toArray = ls at hl ⊢
  have hl : lv_has ls 2 [(0, .int n1), (1, .int n2)] := hl
  refine lv_iload_n hx hb dX9_slot_0 rfl (lv_at hl 0 rfl) ?_
  refine lv_iconst (v := 5) hx hb dX9_slot_1 (by decide) ?_
  refine lv_imul hx hb dX9_slot_2 ?_
  refine lv_topi (fun v_1 ev_1 => ?_)
  refine lv_iload_n hx hb dX9_slot_3 rfl (lv_at hl 1 rfl) ?_
  refine lv_iadd hx hb dX9_slot_4 ?_
  refine lv_topi (fun v_2 ev_2 => ?_)
  exact W.iret (v := v_2) hx hb hr (fun t ht hW => ⟨⟨v_2, q, rfl, ⟨hV, hF⟩, by unfold sx_at; rw [ht]; exact hP⟩, hS.F ht⟩) hS.2.2 dX9_slot_5
set_option maxHeartbeats 4000000 in
set_option maxRecDepth 100000 in
theorem k_X9_systemOf (l : Launch) (dC : Nat → ClassId) (dI : Nat → Nat → Nat) (h : Sh) (L : List Nat) (hN : sx_nd L) (q : Sg) (hV : sx_V h L q) (n1 : Int32)  : CMi l dC dI h L yX9_systemOf wsX9_systemOf ({ frames := 0, cells := 0, slots := 0, locals := 0 } : Room) q [.int n1] (fun r q' => sx_V h L q' ∧ sx_fr L (fun a => False) q q') := by
  intro sz
  refine Met.ofW (cc := cX9_systemOf) (maxL := 1) (ret := (some .int)) (by decide) rfl ?_
  intro p e s m args below meth c s₁ B hml hv
  obtain ⟨rfl, hsz, hP, hK⟩ := hv
  have hx := B.exec
  have hb := B.bytes
  have hr := B.returns
  have hts := atoms_spec (ws := wsX9_systemOf) B.pre
  have hown : s.vm.findClass RX9 = some m.cls := findClass_of_methodNamed B.named
  have hlocks := B.notSynchronized
  subst hsz
  have hD : ∀ g, va_D (AL L s.heap.size) (va_pl L g) := AL_D hN s.heap.size
  have hS : va_S (AL L s.heap.size) s.heap s.heap [] := va_S.rf
  have hF : sx_fr L (fun a => False) q q := sx_fr.rf
  have hl := lv_entry ([.int n1]) (n := 1) (Nat.le_of_ble_eq_true rfl)
  rw [lg_entry_eq]
  generalize (lg_sl ([.int n1]) ++ List.replicate (1 - (lg_sl ([.int n1])).length) Slot.unset).toArray = ls at hl ⊢
  have hl : lv_has ls 1 [(0, .int n1)] := hl
  refine lv_iload_n hx hb dX9_systemOf_0 rfl (lv_at hl 0 rfl) ?_
  refine lv_iconst (v := 5) hx hb dX9_systemOf_1 (by decide) ?_
  refine lv_idiv hx hb dX9_systemOf_2 (by decide) ?_
  refine lv_topi (fun v_1 ev_1 => ?_)
  exact W.iret (v := v_1) hx hb hr (fun t ht hW => ⟨⟨v_1, q, rfl, ⟨hV, hF⟩, by unfold sx_at; rw [ht]; exact hP⟩, hS.F ht⟩) hS.2.2 dX9_systemOf_3
