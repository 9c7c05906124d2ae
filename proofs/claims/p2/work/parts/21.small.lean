set_option maxHeartbeats 4000000 in
set_option maxRecDepth 100000 in
theorem k_X8_isBlank (l : Launch) (dC : Nat → ClassId) (dI : Nat → Nat → Nat) (h : Sh) (L : List Nat) (hN : sx_nd L) (q : Sg) (hV : sx_V h L q) (n1 : Int32)  : CMi l dC dI h L yX8_isBlank wsX8_isBlank ({ frames := 0, cells := 0, slots := 0, locals := 0 } : Room) q [.int n1] (fun r q' => sx_V h L q' ∧ sx_fr L (fun a => False) q q' ∧ (r = 0 ∨ r = 1)) := by
  intro sz
  refine Met.ofW (cc := cX8_isBlank) (maxL := 1) (ret := (some .boolean)) (by decide) rfl ?_
  intro p e s m args below meth c s₁ B hml hv
  obtain ⟨rfl, hsz, hP, hK⟩ := hv
  have hx := B.exec
  have hb := B.bytes
  have hr := B.returns
  have hts := atoms_spec (ws := wsX8_isBlank) B.pre
  have hown : s.vm.findClass RX8 = some m.cls := findClass_of_methodNamed B.named
  have hlocks := B.notSynchronized
  subst hsz
  have hD : ∀ g, va_D (AL L s.heap.size) (va_pl L g) := AL_D hN s.heap.size
  have hS : va_S (AL L s.heap.size) s.heap s.heap [] := va_S.rf
  have hF : sx_fr L (fun a => False) q q := sx_fr.rf
  have hl := lv_entry ([.int n1]) (n := 1) (Nat.le_of_ble_eq_true rfl)
  rw [lg_entry_eq]
  generalize (lg_sl ([.int n1]) ++ List.replicate (1 - (lg_sl ([.int n1])).length) Slot.unset).toArray = ls at hl ⊢
  have hl : lv_has ls 1 [(0, .int n1)] := hl
  refine lv_iload_n hx hb dX8_isBlank_0 rfl (lv_at hl 0 rfl) ?_
  refine lv_bipush (v := 32) hx hb dX8_isBlank_1 (by decide) ?_
  refine lv_icmp_eq (tgt := 12) hx hb dX8_isBlank_3 (by decide) (fun c_1 => ?_) (fun c_1 => ?_)
  · have tc_1 : n1.toInt = 32 := congrArg Int32.toInt c_1
    refine lv_iconst (v := 1) hx hb dX8_isBlank_12 (by decide) ?_
    refine lv_goto (tgt := 17) hx hb dX8_isBlank_13 (by decide) ?_
    exact W.zret (v := 1) hx hb hr rfl (fun t ht hW => ⟨⟨1, q, rfl, ⟨hV, hF, by first | exact Or.inl rfl | exact Or.inr rfl | assumption⟩, by unfold sx_at; rw [ht]; exact hP⟩, hS.F ht⟩) hS.2.2 dX8_isBlank_17
  · have tc_1 : ¬ n1.toInt = 32 := fun z => c_1 (Int32.toInt_inj.mp z)
    refine lv_iload_n hx hb dX8_isBlank_6 rfl (lv_at hl 0 rfl) ?_
    refine lv_bipush (v := 10) hx hb dX8_isBlank_7 (by decide) ?_
    refine lv_icmp_ne (tgt := 16) hx hb dX8_isBlank_9 (by decide) (fun c_2 => ?_) (fun c_2 => ?_)
    · have tc_2 : ¬ n1.toInt = 10 := fun z => c_2 (Int32.toInt_inj.mp z)
      refine lv_iconst (v := 0) hx hb dX8_isBlank_16 (by decide) ?_
      exact W.zret (v := 0) hx hb hr rfl (fun t ht hW => ⟨⟨0, q, rfl, ⟨hV, hF, by first | exact Or.inl rfl | exact Or.inr rfl | assumption⟩, by unfold sx_at; rw [ht]; exact hP⟩, hS.F ht⟩) hS.2.2 dX8_isBlank_17
    · have tc_2 : n1.toInt = 10 := congrArg Int32.toInt c_2
      refine lv_iconst (v := 1) hx hb dX8_isBlank_12 (by decide) ?_
      refine lv_goto (tgt := 17) hx hb dX8_isBlank_13 (by decide) ?_
      exact W.zret (v := 1) hx hb hr rfl (fun t ht hW => ⟨⟨1, q, rfl, ⟨hV, hF, by first | exact Or.inl rfl | exact Or.inr rfl | assumption⟩, by unfold sx_at; rw [ht]; exact hP⟩, hS.F ht⟩) hS.2.2 dX8_isBlank_17
set_option maxHeartbeats 4000000 in
set_option maxRecDepth 100000 in
theorem k_X8_isSmallLetter (l : Launch) (dC : Nat → ClassId) (dI : Nat → Nat → Nat) (h : Sh) (L : List Nat) (hN : sx_nd L) (q : Sg) (hV : sx_V h L q) (n1 : Int32)  : CMi l dC dI h L yX8_isSmallLetter wsX8_isSmallLetter ({ frames := 0, cells := 0, slots := 0, locals := 0 } : Room) q [.int n1] (fun r q' => sx_V h L q' ∧ sx_fr L (fun a => False) q q' ∧ (r = 0 ∨ r = 1)) := by
  intro sz
  refine Met.ofW (cc := cX8_isSmallLetter) (maxL := 1) (ret := (some .boolean)) (by decide) rfl ?_
  intro p e s m args below meth c s₁ B hml hv
  obtain ⟨rfl, hsz, hP, hK⟩ := hv
  have hx := B.exec
  have hb := B.bytes
  have hr := B.returns
  have hts := atoms_spec (ws := wsX8_isSmallLetter) B.pre
  have hown : s.vm.findClass RX8 = some m.cls := findClass_of_methodNamed B.named
  have hlocks := B.notSynchronized
  subst hsz
  have hD : ∀ g, va_D (AL L s.heap.size) (va_pl L g) := AL_D hN s.heap.size
  have hS : va_S (AL L s.heap.size) s.heap s.heap [] := va_S.rf
  have hF : sx_fr L (fun a => False) q q := sx_fr.rf
  have hl := lv_entry ([.int n1]) (n := 1) (Nat.le_of_ble_eq_true rfl)
  rw [lg_entry_eq]
  generalize (lg_sl ([.int n1]) ++ List.replicate (1 - (lg_sl ([.int n1])).length) Slot.unset).toArray = ls at hl ⊢
  have hl : lv_has ls 1 [(0, .int n1)] := hl
  refine lv_iload_n hx hb dX8_isSmallLetter_0 rfl (lv_at hl 0 rfl) ?_
  refine lv_bipush (v := 97) hx hb dX8_isSmallLetter_1 (by decide) ?_
  refine lv_icmp_lt (tgt := 16) hx hb dX8_isSmallLetter_3 (by decide) (fun c_1 => ?_) (fun c_1 => ?_)
  · have tc_1 : n1.toInt < 97 := zx_lt.mp c_1
    refine lv_iconst (v := 0) hx hb dX8_isSmallLetter_16 (by decide) ?_
    exact W.zret (v := 0) hx hb hr rfl (fun t ht hW => ⟨⟨0, q, rfl, ⟨hV, hF, by first | exact Or.inl rfl | exact Or.inr rfl | assumption⟩, by unfold sx_at; rw [ht]; exact hP⟩, hS.F ht⟩) hS.2.2 dX8_isSmallLetter_17
  · have tc_1 : ¬ n1.toInt < 97 := fun z => c_1 (zx_lt.mpr z)
    refine lv_iload_n hx hb dX8_isSmallLetter_6 rfl (lv_at hl 0 rfl) ?_
    refine lv_bipush (v := 122) hx hb dX8_isSmallLetter_7 (by decide) ?_
    refine lv_icmp_gt (tgt := 16) hx hb dX8_isSmallLetter_9 (by decide) (fun c_2 => ?_) (fun c_2 => ?_)
    · have tc_2 : 122 < n1.toInt := zx_lt.mp c_2
      refine lv_iconst (v := 0) hx hb dX8_isSmallLetter_16 (by decide) ?_
      exact W.zret (v := 0) hx hb hr rfl (fun t ht hW => ⟨⟨0, q, rfl, ⟨hV, hF, by first | exact Or.inl rfl | exact Or.inr rfl | assumption⟩, by unfold sx_at; rw [ht]; exact hP⟩, hS.F ht⟩) hS.2.2 dX8_isSmallLetter_17
    · have tc_2 : ¬ 122 < n1.toInt := fun z => c_2 (zx_lt.mpr z)
      refine lv_iconst (v := 1) hx hb dX8_isSmallLetter_12 (by decide) ?_
      refine lv_goto (tgt := 17) hx hb dX8_isSmallLetter_13 (by decide) ?_
      exact W.zret (v := 1) hx hb hr rfl (fun t ht hW => ⟨⟨1, q, rfl, ⟨hV, hF, by first | exact Or.inl rfl | exact Or.inr rfl | assumption⟩, by unfold sx_at; rw [ht]; exact hP⟩, hS.F ht⟩) hS.2.2 dX8_isSmallLetter_17
theorem iq_X8_isDigit_X8 : ∀ w ∈ wsX80, w ∈ wsX8_isDigit := fun _ h => List.mem_cons_of_mem _ (List.mem_append_right _ h)
set_option maxHeartbeats 4000000 in
set_option maxRecDepth 100000 in
theorem k_X8_isDigit (l : Launch) (dC : Nat → ClassId) (dI : Nat → Nat → Nat) (h : Sh) (L : List Nat) (hN : sx_nd L) (q : Sg) (hV : sx_V h L q) {a0 : Nat} (ha0 : a0 ∈ L) (ka0 : h.1 a0 = 8) (n1 : Int32)  : CMi l dC dI h L yX8_isDigit wsX8_isDigit ({ frames := 0, cells := 0, slots := 0, locals := 0 } : Room) q [.ref a0, .int n1] (fun r q' => sx_V h L q' ∧ sx_fr L (fun a => False) q q' ∧ (r = 0 ∨ r = 1)) := by
  intro sz
  refine Met.ofW (cc := cX8_isDigit) (maxL := 2) (ret := (some .boolean)) (by decide) rfl ?_
  intro p e s m args below meth c s₁ B hml hv
  obtain ⟨rfl, hsz, hP, hK⟩ := hv
  have hx := B.exec
  have hb := B.bytes
  have hr := B.returns
  have hts := atoms_spec (ws := wsX8_isDigit) B.pre
  have hown : s.vm.findClass RX8 = some m.cls := findClass_of_methodNamed B.named
  have hlocks := B.notSynchronized
  subst hsz
  have hD : ∀ g, va_D (AL L s.heap.size) (va_pl L g) := AL_D hN s.heap.size
  have hS : va_S (AL L s.heap.size) s.heap s.heap [] := va_S.rf
  have hF : sx_fr L (fun a => False) q q := sx_fr.rf
  have hl := lv_entry ([.ref a0, .int n1]) (n := 2) (Nat.le_of_ble_eq_true rfl)
  rw [lg_entry_eq]
  generalize (lg_sl ([.ref a0, .int n1]) ++ List.replicate (2 - (lg_sl ([.ref a0, .int n1])).length) Slot.unset).toArray = ls at hl ⊢
  have hl : lv_has ls 2 [(0, .ref a0), (1, .int n1)] := hl
  refine lv_iload_n hx hb dX8_isDigit_0 rfl (lv_at hl 1 rfl) ?_
  refine lv_bipush (v := 48) hx hb dX8_isDigit_1 (by decide) ?_
  refine lv_icmp_lt (tgt := 12) hx hb dX8_isDigit_3 (by decide) (fun c_1 => ?_) (fun c_1 => ?_)
  · have tc_1 : n1.toInt < 48 := zx_lt.mp c_1
    refine lv_aload_n hx hb dX8_isDigit_12 rfl (lv_at hl 0 rfl) ?_
    refine pl_get (D := (dC, dI)) (v := .int (q.1 a0 9)) (C := RX8) (T := TX8) (N := 11) hx hb hts iq_X8_isDigit_X8 hown hK hP ha0 (sg_F_o ka0 (by decide)) rfl 9 (by decide) (hts (.fieldLink RX8 24 "ClayAccounts$Tokens" "withBroken" "Z") (by decide +kernel)) (fun _ h9 => h9) (sg_fs_at (by decide)) dX8_isDigit_13 ?_
    refine lv_if_eq (tgt := 29) hx hb dX8_isDigit_16 (by decide) (fun c_2 => ?_) (fun c_2 => ?_)
    · have tc_2 : (q.1 a0 9).toInt = 0 := congrArg Int32.toInt c_2
      refine lv_iconst (v := 0) hx hb dX8_isDigit_29 (by decide) ?_
      exact W.zret (v := 0) hx hb hr rfl (fun t ht hW => ⟨⟨0, q, rfl, ⟨hV, hF, by first | exact Or.inl rfl | exact Or.inr rfl | assumption⟩, by unfold sx_at; rw [ht]; exact hP⟩, hS.F ht⟩) hS.2.2 dX8_isDigit_30
    · have tc_2 : ¬ (q.1 a0 9).toInt = 0 := fun z => c_2 (Int32.toInt_inj.mp z)
      refine lv_iload_n hx hb dX8_isDigit_19 rfl (lv_at hl 1 rfl) ?_
      refine lv_bipush (v := 63) hx hb dX8_isDigit_20 (by decide) ?_
      refine lv_icmp_ne (tgt := 29) hx hb dX8_isDigit_22 (by decide) (fun c_3 => ?_) (fun c_3 => ?_)
      · have tc_3 : ¬ n1.toInt = 63 := fun z => c_3 (Int32.toInt_inj.mp z)
        refine lv_iconst (v := 0) hx hb dX8_isDigit_29 (by decide) ?_
        exact W.zret (v := 0) hx hb hr rfl (fun t ht hW => ⟨⟨0, q, rfl, ⟨hV, hF, by first | exact Or.inl rfl | exact Or.inr rfl | assumption⟩, by unfold sx_at; rw [ht]; exact hP⟩, hS.F ht⟩) hS.2.2 dX8_isDigit_30
      · have tc_3 : n1.toInt = 63 := congrArg Int32.toInt c_3
        refine lv_iconst (v := 1) hx hb dX8_isDigit_25 (by decide) ?_
        refine lv_goto (tgt := 30) hx hb dX8_isDigit_26 (by decide) ?_
        exact W.zret (v := 1) hx hb hr rfl (fun t ht hW => ⟨⟨1, q, rfl, ⟨hV, hF, by first | exact Or.inl rfl | exact Or.inr rfl | assumption⟩, by unfold sx_at; rw [ht]; exact hP⟩, hS.F ht⟩) hS.2.2 dX8_isDigit_30
  · have tc_1 : ¬ n1.toInt < 48 := fun z => c_1 (zx_lt.mpr z)
    refine lv_iload_n hx hb dX8_isDigit_6 rfl (lv_at hl 1 rfl) ?_
    refine lv_bipush (v := 57) hx hb dX8_isDigit_7 (by decide) ?_
    refine lv_icmp_le (tgt := 25) hx hb dX8_isDigit_9 (by decide) (fun c_4 => ?_) (fun c_4 => ?_)
    · have tc_4 : n1.toInt ≤ 57 := zx_le.mp c_4
      refine lv_iconst (v := 1) hx hb dX8_isDigit_25 (by decide) ?_
      refine lv_goto (tgt := 30) hx hb dX8_isDigit_26 (by decide) ?_
      exact W.zret (v := 1) hx hb hr rfl (fun t ht hW => ⟨⟨1, q, rfl, ⟨hV, hF, by first | exact Or.inl rfl | exact Or.inr rfl | assumption⟩, by unfold sx_at; rw [ht]; exact hP⟩, hS.F ht⟩) hS.2.2 dX8_isDigit_30
    · have tc_4 : ¬ n1.toInt ≤ 57 := fun z => c_4 (zx_le.mpr z)
      refine lv_aload_n hx hb dX8_isDigit_12 rfl (lv_at hl 0 rfl) ?_
      refine pl_get (D := (dC, dI)) (v := .int (q.1 a0 9)) (C := RX8) (T := TX8) (N := 11) hx hb hts iq_X8_isDigit_X8 hown hK hP ha0 (sg_F_o ka0 (by decide)) rfl 9 (by decide) (hts (.fieldLink RX8 24 "ClayAccounts$Tokens" "withBroken" "Z") (by decide +kernel)) (fun _ h9 => h9) (sg_fs_at (by decide)) dX8_isDigit_13 ?_
      refine lv_if_eq (tgt := 29) hx hb dX8_isDigit_16 (by decide) (fun c_5 => ?_) (fun c_5 => ?_)
      · have tc_5 : (q.1 a0 9).toInt = 0 := congrArg Int32.toInt c_5
        refine lv_iconst (v := 0) hx hb dX8_isDigit_29 (by decide) ?_
        exact W.zret (v := 0) hx hb hr rfl (fun t ht hW => ⟨⟨0, q, rfl, ⟨hV, hF, by first | exact Or.inl rfl | exact Or.inr rfl | assumption⟩, by unfold sx_at; rw [ht]; exact hP⟩, hS.F ht⟩) hS.2.2 dX8_isDigit_30
      · have tc_5 : ¬ (q.1 a0 9).toInt = 0 := fun z => c_5 (Int32.toInt_inj.mp z)
        refine lv_iload_n hx hb dX8_isDigit_19 rfl (lv_at hl 1 rfl) ?_
        refine lv_bipush (v := 63) hx hb dX8_isDigit_20 (by decide) ?_
        refine lv_icmp_ne (tgt := 29) hx hb dX8_isDigit_22 (by decide) (fun c_6 => ?_) (fun c_6 => ?_)
        · have tc_6 : ¬ n1.toInt = 63 := fun z => c_6 (Int32.toInt_inj.mp z)
          refine lv_iconst (v := 0) hx hb dX8_isDigit_29 (by decide) ?_
          exact W.zret (v := 0) hx hb hr rfl (fun t ht hW => ⟨⟨0, q, rfl, ⟨hV, hF, by first | exact Or.inl rfl | exact Or.inr rfl | assumption⟩, by unfold sx_at; rw [ht]; exact hP⟩, hS.F ht⟩) hS.2.2 dX8_isDigit_30
        · have tc_6 : n1.toInt = 63 := congrArg Int32.toInt c_6
          refine lv_iconst (v := 1) hx hb dX8_isDigit_25 (by decide) ?_
          refine lv_goto (tgt := 30) hx hb dX8_isDigit_26 (by decide) ?_
          exact W.zret (v := 1) hx hb hr rfl (fun t ht hW => ⟨⟨1, q, rfl, ⟨hV, hF, by first | exact Or.inl rfl | exact Or.inr rfl | assumption⟩, by unfold sx_at; rw [ht]; exact hP⟩, hS.F ht⟩) hS.2.2 dX8_isDigit_30
theorem iq_X8_refuse_X8 : ∀ w ∈ wsX80, w ∈ wsX8_refuse := fun _ h => List.mem_cons_of_mem _ (List.mem_append_right _ h)
set_option maxHeartbeats 4000000 in
set_option maxRecDepth 100000 in
theorem k_X8_refuse (l : Launch) (dC : Nat → ClassId) (dI : Nat → Nat → Nat) (h : Sh) (L : List Nat) (hN : sx_nd L) (q : Sg) (hV : sx_V h L q) {a0 : Nat} (ha0 : a0 ∈ L) (ka0 : h.1 a0 = 8) (n1 : Int32) (n2 : Int32)  : CMi l dC dI h L yX8_refuse wsX8_refuse ({ frames := 0, cells := 0, slots := 0, locals := 0 } : Room) q [.ref a0, .int n1, .int n2] (fun r q' => sx_V h L q' ∧ sx_fr L (fun a => h.1 a = 8) q q' ∧ r = 0) := by
  intro sz
  refine Met.ofW (cc := cX8_refuse) (maxL := 3) (ret := (some .boolean)) (by decide) rfl ?_
  intro p e s m args below meth c s₁ B hml hv
  obtain ⟨rfl, hsz, hP, hK⟩ := hv
  have hx := B.exec
  have hb := B.bytes
  have hr := B.returns
  have hts := atoms_spec (ws := wsX8_refuse) B.pre
  have hown : s.vm.findClass RX8 = some m.cls := findClass_of_methodNamed B.named
  have hlocks := B.notSynchronized
  subst hsz
  have hD : ∀ g, va_D (AL L s.heap.size) (va_pl L g) := AL_D hN s.heap.size
  have hS : va_S (AL L s.heap.size) s.heap s.heap [] := va_S.rf
  have hF : sx_fr L (fun a => h.1 a = 8) q q := sx_fr.rf
  have hl := lv_entry ([.ref a0, .int n1, .int n2]) (n := 3) (Nat.le_of_ble_eq_true rfl)
  rw [lg_entry_eq]
  generalize (lg_sl ([.ref a0, .int n1, .int n2]) ++ List.replicate (3 - (lg_sl ([.ref a0, .int n1, .int n2])).length) Slot.unset).toArray = ls at hl ⊢
  have hl : lv_has ls 3 [(0, .ref a0), (1, .int n1), (2, .int n2)] := hl
  refine lv_aload_n hx hb dX8_refuse_0 rfl (lv_at hl 0 rfl) ?_
  refine lv_iload_n hx hb dX8_refuse_1 rfl (lv_at hl 1 rfl) ?_
  refine pl_put (D := (dC, dI)) (ty := .int) (v := .int n1) (C := RX8) (T := TX8) (N := 11) hx hb hts iq_X8_refuse_X8 tyX8 tyX8_ok nmX8 hown hK hP hD hS ha0 (sg_F_o ka0 (by decide)) rfl 5 (by decide) (hts (.fieldLink RX8 31 "ClayAccounts$Tokens" "fault" "I") (by decide +kernel)) (fun _ h9 => h9) rfl (by decide +kernel) rfl rfl (by rw [sg_fs_len]; decide) dX8_refuse_2 (fun H locs hP hS => ?_)
  rw [sg_upI ka0 (by decide) (by decide) (Or.inl rfl)] at hP
  obtain ⟨q_1, eq_1⟩ : ∃ z, z = sg_pI q a0 5 n1 := ⟨_, rfl⟩
  rw [← eq_1] at hP
  have hV : sx_V h L q_1 := by rw [eq_1]; exact hV.pI (by rw [ka0]; exact trivial)
  have hF : sx_fr L (fun a => h.1 a = 8) q q_1 := hF.tr (by rw [eq_1]; exact sx_fr.pI (by first | exact ka0 | exact Or.inl ka0 | exact Or.inr ka0 | rfl | simp [ka0]))
  refine lv_aload_n hx hb dX8_refuse_5 rfl (lv_at hl 0 rfl) ?_
  refine lv_iload_n hx hb dX8_refuse_6 rfl (lv_at hl 2 rfl) ?_
  refine pl_put (D := (dC, dI)) (ty := .int) (v := .int n2) (C := RX8) (T := TX8) (N := 11) hx hb hts iq_X8_refuse_X8 tyX8 tyX8_ok nmX8 hown hK hP hD hS ha0 (sg_F_o ka0 (by decide)) rfl 6 (by decide) (hts (.fieldLink RX8 34 "ClayAccounts$Tokens" "faultPlace" "I") (by decide +kernel)) (fun _ h9 => h9) rfl (by decide +kernel) rfl rfl (by rw [sg_fs_len]; decide) dX8_refuse_7 (fun H locs hP hS => ?_)
  rw [sg_upI ka0 (by decide) (by decide) (Or.inl rfl)] at hP
  obtain ⟨q_2, eq_2⟩ : ∃ z, z = sg_pI q_1 a0 6 n2 := ⟨_, rfl⟩
  rw [← eq_2] at hP
  have hV : sx_V h L q_2 := by rw [eq_2]; exact hV.pI (by rw [ka0]; exact trivial)
  have hF : sx_fr L (fun a => h.1 a = 8) q q_2 := hF.tr (by rw [eq_2]; exact sx_fr.pI (by first | exact ka0 | exact Or.inl ka0 | exact Or.inr ka0 | rfl | simp [ka0]))
  refine lv_iconst (v := 0) hx hb dX8_refuse_10 (by decide) ?_
  exact W.zret (v := 0) hx hb hr rfl (fun t ht hW => ⟨⟨0, q_2, rfl, ⟨hV, hF, rfl⟩, by unfold sx_at; rw [ht]; exact hP⟩, hS.F ht⟩) hS.2.2 dX8_refuse_11
theorem iq_X8_demand_X8 : ∀ w ∈ wsX80, w ∈ wsX8_demand := fun _ h => List.mem_cons_of_mem _ (List.mem_append_right _ h)
set_option maxHeartbeats 4000000 in
set_option maxRecDepth 100000 in
theorem k_X8_demand (l : Launch) (dC : Nat → ClassId) (dI : Nat → Nat → Nat) (h : Sh) (L : List Nat) (hN : sx_nd L) (q : Sg) (hV : sx_V h L q) {a0 : Nat} (ha0 : a0 ∈ L) (ka0 : h.1 a0 = 8) (n1 : Int32)  : CMi l dC dI h L yX8_demand wsX8_demand ({ frames := 0, cells := 0, slots := 0, locals := 0 } : Room) q [.ref a0, .int n1] (fun r q' => sx_V h L q' ∧ sx_fr L (fun a => h.1 a = 8) q q' ∧ (r = 0 ∨ r = 1)) := by
  intro sz
  refine Met.ofW (cc := cX8_demand) (maxL := 2) (ret := (some .boolean)) (by decide) rfl ?_
  intro p e s m args below meth c s₁ B hml hv
  obtain ⟨rfl, hsz, hP, hK⟩ := hv
  have hx := B.exec
  have hb := B.bytes
  have hr := B.returns
  have hts := atoms_spec (ws := wsX8_demand) B.pre
  have hown : s.vm.findClass RX8 = some m.cls := findClass_of_methodNamed B.named
  have hlocks := B.notSynchronized
  subst hsz
  have hD : ∀ g, va_D (AL L s.heap.size) (va_pl L g) := AL_D hN s.heap.size
  have hS : va_S (AL L s.heap.size) s.heap s.heap [] := va_S.rf
  have hF : sx_fr L (fun a => h.1 a = 8) q q := sx_fr.rf
  have hl := lv_entry ([.ref a0, .int n1]) (n := 2) (Nat.le_of_ble_eq_true rfl)
  rw [lg_entry_eq]
  generalize (lg_sl ([.ref a0, .int n1]) ++ List.replicate (2 - (lg_sl ([.ref a0, .int n1])).length) Slot.unset).toArray = ls at hl ⊢
  have hl : lv_has ls 2 [(0, .ref a0), (1, .int n1)] := hl
  refine lv_aload_n hx hb dX8_demand_0 rfl (lv_at hl 0 rfl) ?_
  refine pl_get (D := (dC, dI)) (v := .int (q.1 a0 0)) (C := RX8) (T := TX8) (N := 11) hx hb hts iq_X8_demand_X8 hown hK hP ha0 (sg_F_o ka0 (by decide)) rfl 0 (by decide) (hts (.fieldLink RX8 37 "ClayAccounts$Tokens" "kind" "I") (by decide +kernel)) (fun _ h9 => h9) (sg_fs_at (by decide)) dX8_demand_1 ?_
  refine lv_iload_n hx hb dX8_demand_4 rfl (lv_at hl 1 rfl) ?_
  refine lv_icmp_eq (tgt := 21) hx hb dX8_demand_5 (by decide) (fun c_1 => ?_) (fun c_1 => ?_)
  · have tc_1 : (q.1 a0 0).toInt = n1.toInt := congrArg Int32.toInt c_1
    refine lv_aload_n hx hb dX8_demand_21 rfl (lv_at hl 0 rfl) ?_
    refine pl_get (D := (dC, dI)) (v := .int (q.1 a0 0)) (C := RX8) (T := TX8) (N := 11) hx hb hts iq_X8_demand_X8 hown hK hP ha0 (sg_F_o ka0 (by decide)) rfl 0 (by decide) (hts (.fieldLink RX8 37 "ClayAccounts$Tokens" "kind" "I") (by decide +kernel)) (fun _ h9 => h9) (sg_fs_at (by decide)) dX8_demand_22 ?_
    refine lv_iload_n hx hb dX8_demand_25 rfl (lv_at hl 1 rfl) ?_
    refine lv_icmp_ne (tgt := 33) hx hb dX8_demand_26 (by decide) (fun c_2 => ?_) (fun c_2 => ?_)
    · have tc_2 : ¬ (q.1 a0 0).toInt = n1.toInt := fun z => c_2 (Int32.toInt_inj.mp z)
      refine lv_iconst (v := 0) hx hb dX8_demand_33 (by decide) ?_
      exact W.zret (v := 0) hx hb hr rfl (fun t ht hW => ⟨⟨0, q, rfl, ⟨hV, hF, by first | exact Or.inl rfl | exact Or.inr rfl | assumption⟩, by unfold sx_at; rw [ht]; exact hP⟩, hS.F ht⟩) hS.2.2 dX8_demand_34
    · have tc_2 : (q.1 a0 0).toInt = n1.toInt := congrArg Int32.toInt c_2
      refine lv_iconst (v := 1) hx hb dX8_demand_29 (by decide) ?_
      refine lv_goto (tgt := 34) hx hb dX8_demand_30 (by decide) ?_
      exact W.zret (v := 1) hx hb hr rfl (fun t ht hW => ⟨⟨1, q, rfl, ⟨hV, hF, by first | exact Or.inl rfl | exact Or.inr rfl | assumption⟩, by unfold sx_at; rw [ht]; exact hP⟩, hS.F ht⟩) hS.2.2 dX8_demand_34
  · have tc_1 : ¬ (q.1 a0 0).toInt = n1.toInt := fun z => c_1 (Int32.toInt_inj.mp z)
    refine lv_aload_n hx hb dX8_demand_8 rfl (lv_at hl 0 rfl) ?_
    refine lv_iconst (v := 1) hx hb dX8_demand_9 (by decide) ?_
    refine pl_put (D := (dC, dI)) (ty := .int) (v := .int 1) (C := RX8) (T := TX8) (N := 11) hx hb hts iq_X8_demand_X8 tyX8 tyX8_ok nmX8 hown hK hP hD hS ha0 (sg_F_o ka0 (by decide)) rfl 5 (by decide) (hts (.fieldLink RX8 31 "ClayAccounts$Tokens" "fault" "I") (by decide +kernel)) (fun _ h9 => h9) rfl (by decide +kernel) rfl rfl (by rw [sg_fs_len]; decide) dX8_demand_10 (fun H locs hP hS => ?_)
    rw [sg_upI ka0 (by decide) (by decide) (Or.inl rfl)] at hP
    obtain ⟨q_3, eq_3⟩ : ∃ z, z = sg_pI q a0 5 1 := ⟨_, rfl⟩
    rw [← eq_3] at hP
    have hV : sx_V h L q_3 := by rw [eq_3]; exact hV.pI (by rw [ka0]; exact trivial)
    have hF : sx_fr L (fun a => h.1 a = 8) q q_3 := hF.tr (by rw [eq_3]; exact sx_fr.pI (by first | exact ka0 | exact Or.inl ka0 | exact Or.inr ka0 | rfl | simp [ka0]))
    refine lv_aload_n hx hb dX8_demand_13 rfl (lv_at hl 0 rfl) ?_
    refine lv_aload_n hx hb dX8_demand_14 rfl (lv_at hl 0 rfl) ?_
    refine pl_get (D := (dC, dI)) (v := .int (q_3.1 a0 1)) (C := RX8) (T := TX8) (N := 11) hx hb hts iq_X8_demand_X8 hown hK hP ha0 (sg_F_o ka0 (by decide)) rfl 1 (by decide) (hts (.fieldLink RX8 40 "ClayAccounts$Tokens" "place" "I") (by decide +kernel)) (fun _ h9 => h9) (sg_fs_at (by decide)) dX8_demand_15 ?_
    refine pl_put (D := (dC, dI)) (ty := .int) (v := .int (q_3.1 a0 1)) (C := RX8) (T := TX8) (N := 11) hx hb hts iq_X8_demand_X8 tyX8 tyX8_ok nmX8 hown hK hP hD hS ha0 (sg_F_o ka0 (by decide)) rfl 6 (by decide) (hts (.fieldLink RX8 34 "ClayAccounts$Tokens" "faultPlace" "I") (by decide +kernel)) (fun _ h9 => h9) rfl (by decide +kernel) rfl rfl (by rw [sg_fs_len]; decide) dX8_demand_18 (fun H locs hP hS => ?_)
    rw [sg_upI ka0 (by decide) (by decide) (Or.inl rfl)] at hP
    obtain ⟨q_4, eq_4⟩ : ∃ z, z = sg_pI q_3 a0 6 (q_3.1 a0 1) := ⟨_, rfl⟩
    rw [← eq_4] at hP
    have hV : sx_V h L q_4 := by rw [eq_4]; exact hV.pI (by rw [ka0]; exact trivial)
    have hF : sx_fr L (fun a => h.1 a = 8) q q_4 := hF.tr (by rw [eq_4]; exact sx_fr.pI (by first | exact ka0 | exact Or.inl ka0 | exact Or.inr ka0 | rfl | simp [ka0]))
    refine lv_aload_n hx hb dX8_demand_21 rfl (lv_at hl 0 rfl) ?_
    refine pl_get (D := (dC, dI)) (v := .int (q_4.1 a0 0)) (C := RX8) (T := TX8) (N := 11) hx hb hts iq_X8_demand_X8 hown hK hP ha0 (sg_F_o ka0 (by decide)) rfl 0 (by decide) (hts (.fieldLink RX8 37 "ClayAccounts$Tokens" "kind" "I") (by decide +kernel)) (fun _ h9 => h9) (sg_fs_at (by decide)) dX8_demand_22 ?_
    refine lv_iload_n hx hb dX8_demand_25 rfl (lv_at hl 1 rfl) ?_
    refine lv_icmp_ne (tgt := 33) hx hb dX8_demand_26 (by decide) (fun c_5 => ?_) (fun c_5 => ?_)
    · have tc_5 : ¬ (q_4.1 a0 0).toInt = n1.toInt := fun z => c_5 (Int32.toInt_inj.mp z)
      refine lv_iconst (v := 0) hx hb dX8_demand_33 (by decide) ?_
      exact W.zret (v := 0) hx hb hr rfl (fun t ht hW => ⟨⟨0, q_4, rfl, ⟨hV, hF, by first | exact Or.inl rfl | exact Or.inr rfl | assumption⟩, by unfold sx_at; rw [ht]; exact hP⟩, hS.F ht⟩) hS.2.2 dX8_demand_34
    · have tc_5 : (q_4.1 a0 0).toInt = n1.toInt := congrArg Int32.toInt c_5
      refine lv_iconst (v := 1) hx hb dX8_demand_29 (by decide) ?_
      refine lv_goto (tgt := 34) hx hb dX8_demand_30 (by decide) ?_
      exact W.zret (v := 1) hx hb hr rfl (fun t ht hW => ⟨⟨1, q_4, rfl, ⟨hV, hF, by first | exact Or.inl rfl | exact Or.inr rfl | assumption⟩, by unfold sx_at; rw [ht]; exact hP⟩, hS.F ht⟩) hS.2.2 dX8_demand_34
theorem iq_X2_begin_X2 : ∀ w ∈ wsX20, w ∈ wsX2_begin := fun _ h => List.mem_cons_of_mem _ (List.mem_append_right _ h)
set_option maxHeartbeats 4000000 in
set_option maxRecDepth 100000 in
theorem k_X2_begin (l : Launch) (dC : Nat → ClassId) (dI : Nat → Nat → Nat) (h : Sh) (L : List Nat) (hN : sx_nd L) (q : Sg) (hV : sx_V h L q) {a0 : Nat} (ha0 : a0 ∈ L) (ka0 : h.1 a0 = 2) (n1 : Int32)  : CMv l dC dI h L yX2_begin wsX2_begin ({ frames := 0, cells := 0, slots := 0, locals := 0 } : Room) q [.ref a0, .int n1] (fun q' => sx_V h L q' ∧ sx_fr L (fun a => h.1 a = 2) q q') := by
  intro sz
  refine Met.ofW (cc := cX2_begin) (maxL := 2) (ret := none) (by decide) rfl ?_
  intro p e s m args below meth c s₁ B hml hv
  obtain ⟨rfl, hsz, hP, hK⟩ := hv
  have hx := B.exec
  have hb := B.bytes
  have hr := B.returns
  have hts := atoms_spec (ws := wsX2_begin) B.pre
  have hown : s.vm.findClass RX2 = some m.cls := findClass_of_methodNamed B.named
  have hlocks := B.notSynchronized
  subst hsz
  have hD : ∀ g, va_D (AL L s.heap.size) (va_pl L g) := AL_D hN s.heap.size
  have hS : va_S (AL L s.heap.size) s.heap s.heap [] := va_S.rf
  have hF : sx_fr L (fun a => h.1 a = 2) q q := sx_fr.rf
  have hl := lv_entry ([.ref a0, .int n1]) (n := 2) (Nat.le_of_ble_eq_true rfl)
  rw [lg_entry_eq]
  generalize (lg_sl ([.ref a0, .int n1]) ++ List.replicate (2 - (lg_sl ([.ref a0, .int n1])).length) Slot.unset).toArray = ls at hl ⊢
  have hl : lv_has ls 2 [(0, .ref a0), (1, .int n1)] := hl
  refine lv_aload_n hx hb dX2_begin_0 rfl (lv_at hl 0 rfl) ?_
  refine lv_iload_n hx hb dX2_begin_1 rfl (lv_at hl 1 rfl) ?_
  refine pl_put (D := (dC, dI)) (ty := .int) (v := .int n1) (C := RX2) (T := TX2) (N := 6) hx hb hts iq_X2_begin_X2 tyX2 tyX2_ok nmX2 hown hK hP hD hS ha0 (sg_F_o ka0 (by decide)) rfl 0 (by decide) (hts (.fieldLink RX2 9 "ClayAccounts$Line" "kind" "I") (by decide +kernel)) (fun _ h9 => h9) rfl (by decide +kernel) rfl rfl (by rw [sg_fs_len]; decide) dX2_begin_2 (fun H locs hP hS => ?_)
  rw [sg_upI ka0 (by decide) (by decide) (Or.inl rfl)] at hP
  obtain ⟨q_1, eq_1⟩ : ∃ z, z = sg_pI q a0 0 n1 := ⟨_, rfl⟩
  rw [← eq_1] at hP
  have hV : sx_V h L q_1 := by rw [eq_1]; exact hV.pI (by rw [ka0]; exact trivial)
  have hF : sx_fr L (fun a => h.1 a = 2) q q_1 := hF.tr (by rw [eq_1]; exact sx_fr.pI (by first | exact ka0 | exact Or.inl ka0 | exact Or.inr ka0 | rfl | simp [ka0]))
  refine lv_aload_n hx hb dX2_begin_5 rfl (lv_at hl 0 rfl) ?_
  refine lv_iconst (v := (-1)) hx hb dX2_begin_6 (by decide) ?_
  refine pl_put (D := (dC, dI)) (ty := .int) (v := .int (-1)) (C := RX2) (T := TX2) (N := 6) hx hb hts iq_X2_begin_X2 tyX2 tyX2_ok nmX2 hown hK hP hD hS ha0 (sg_F_o ka0 (by decide)) rfl 1 (by decide) (hts (.fieldLink RX2 15 "ClayAccounts$Line" "system" "I") (by decide +kernel)) (fun _ h9 => h9) rfl (by decide +kernel) rfl rfl (by rw [sg_fs_len]; decide) dX2_begin_7 (fun H locs hP hS => ?_)
  rw [sg_upI ka0 (by decide) (by decide) (Or.inl rfl)] at hP
  obtain ⟨q_2, eq_2⟩ : ∃ z, z = sg_pI q_1 a0 1 (-1) := ⟨_, rfl⟩
  rw [← eq_2] at hP
  have hV : sx_V h L q_2 := by rw [eq_2]; exact hV.pI (by rw [ka0]; exact trivial)
  have hF : sx_fr L (fun a => h.1 a = 2) q q_2 := hF.tr (by rw [eq_2]; exact sx_fr.pI (by first | exact ka0 | exact Or.inl ka0 | exact Or.inr ka0 | rfl | simp [ka0]))
  refine lv_aload_n hx hb dX2_begin_10 rfl (lv_at hl 0 rfl) ?_
  refine lv_iconst (v := 0) hx hb dX2_begin_11 (by decide) ?_
  refine pl_put (D := (dC, dI)) (ty := .int) (v := .int 0) (C := RX2) (T := TX2) (N := 6) hx hb hts iq_X2_begin_X2 tyX2 tyX2_ok nmX2 hown hK hP hD hS ha0 (sg_F_o ka0 (by decide)) rfl 2 (by decide) (hts (.fieldLink RX2 18 "ClayAccounts$Line" "holeCount" "I") (by decide +kernel)) (fun _ h9 => h9) rfl (by decide +kernel) rfl rfl (by rw [sg_fs_len]; decide) dX2_begin_12 (fun H locs hP hS => ?_)
  rw [sg_upI ka0 (by decide) (by decide) (Or.inl rfl)] at hP
  obtain ⟨q_3, eq_3⟩ : ∃ z, z = sg_pI q_2 a0 2 0 := ⟨_, rfl⟩
  rw [← eq_3] at hP
  have hV : sx_V h L q_3 := by rw [eq_3]; exact hV.pI (by rw [ka0]; exact trivial)
  have hF : sx_fr L (fun a => h.1 a = 2) q q_3 := hF.tr (by rw [eq_3]; exact sx_fr.pI (by first | exact ka0 | exact Or.inl ka0 | exact Or.inr ka0 | rfl | simp [ka0]))
  refine lv_aload_n hx hb dX2_begin_15 rfl (lv_at hl 0 rfl) ?_
  refine lv_iconst (v := 0) hx hb dX2_begin_16 (by decide) ?_
  refine pl_put (D := (dC, dI)) (ty := .int) (v := .int 0) (C := RX2) (T := TX2) (N := 6) hx hb hts iq_X2_begin_X2 tyX2 tyX2_ok nmX2 hown hK hP hD hS ha0 (sg_F_o ka0 (by decide)) rfl 3 (by decide) (hts (.fieldLink RX2 21 "ClayAccounts$Line" "value" "I") (by decide +kernel)) (fun _ h9 => h9) rfl (by decide +kernel) rfl rfl (by rw [sg_fs_len]; decide) dX2_begin_17 (fun H locs hP hS => ?_)
  rw [sg_upI ka0 (by decide) (by decide) (Or.inl rfl)] at hP
  obtain ⟨q_4, eq_4⟩ : ∃ z, z = sg_pI q_3 a0 3 0 := ⟨_, rfl⟩
  rw [← eq_4] at hP
  have hV : sx_V h L q_4 := by rw [eq_4]; exact hV.pI (by rw [ka0]; exact trivial)
  have hF : sx_fr L (fun a => h.1 a = 2) q q_4 := hF.tr (by rw [eq_4]; exact sx_fr.pI (by first | exact ka0 | exact Or.inl ka0 | exact Or.inr ka0 | rfl | simp [ka0]))
  refine lv_aload_n hx hb dX2_begin_20 rfl (lv_at hl 0 rfl) ?_
  refine lv_iconst (v := (-1)) hx hb dX2_begin_21 (by decide) ?_
  refine pl_put (D := (dC, dI)) (ty := .int) (v := .int (-1)) (C := RX2) (T := TX2) (N := 6) hx hb hts iq_X2_begin_X2 tyX2 tyX2_ok nmX2 hown hK hP hD hS ha0 (sg_F_o ka0 (by decide)) rfl 4 (by decide) (hts (.fieldLink RX2 24 "ClayAccounts$Line" "least" "I") (by decide +kernel)) (fun _ h9 => h9) rfl (by decide +kernel) rfl rfl (by rw [sg_fs_len]; decide) dX2_begin_22 (fun H locs hP hS => ?_)
  rw [sg_upI ka0 (by decide) (by decide) (Or.inl rfl)] at hP
  obtain ⟨q_5, eq_5⟩ : ∃ z, z = sg_pI q_4 a0 4 (-1) := ⟨_, rfl⟩
  rw [← eq_5] at hP
  have hV : sx_V h L q_5 := by rw [eq_5]; exact hV.pI (by rw [ka0]; exact trivial)
  have hF : sx_fr L (fun a => h.1 a = 2) q q_5 := hF.tr (by rw [eq_5]; exact sx_fr.pI (by first | exact ka0 | exact Or.inl ka0 | exact Or.inr ka0 | rfl | simp [ka0]))
  refine lv_aload_n hx hb dX2_begin_25 rfl (lv_at hl 0 rfl) ?_
  refine lv_iconst (v := (-1)) hx hb dX2_begin_26 (by decide) ?_
  refine pl_put (D := (dC, dI)) (ty := .int) (v := .int (-1)) (C := RX2) (T := TX2) (N := 6) hx hb hts iq_X2_begin_X2 tyX2 tyX2_ok nmX2 hown hK hP hD hS ha0 (sg_F_o ka0 (by decide)) rfl 5 (by decide) (hts (.fieldLink RX2 27 "ClayAccounts$Line" "greatest" "I") (by decide +kernel)) (fun _ h9 => h9) rfl (by decide +kernel) rfl rfl (by rw [sg_fs_len]; decide) dX2_begin_27 (fun H locs hP hS => ?_)
  rw [sg_upI ka0 (by decide) (by decide) (Or.inl rfl)] at hP
  obtain ⟨q_6, eq_6⟩ : ∃ z, z = sg_pI q_5 a0 5 (-1) := ⟨_, rfl⟩
  rw [← eq_6] at hP
  have hV : sx_V h L q_6 := by rw [eq_6]; exact hV.pI (by rw [ka0]; exact trivial)
  have hF : sx_fr L (fun a => h.1 a = 2) q q_6 := hF.tr (by rw [eq_6]; exact sx_fr.pI (by first | exact ka0 | exact Or.inl ka0 | exact Or.inr ka0 | rfl | simp [ka0]))
  exact W.vret hx hb hr (fun t ht hW => ⟨⟨q_6, rfl, ⟨hV, hF⟩, by unfold sx_at; rw [ht]; exact hP⟩, hS.F ht⟩) hS.2.2 dX2_begin_30
theorem iq_X1_noteDigit_X1 : ∀ w ∈ wsX10, w ∈ wsX1_noteDigit := fun _ h => List.mem_cons_of_mem _ (List.mem_append_right _ h)
set_option maxHeartbeats 4000000 in
set_option maxRecDepth 100000 in
theorem k_X1_noteDigit (l : Launch) (dC : Nat → ClassId) (dI : Nat → Nat → Nat) (h : Sh) (L : List Nat) (hN : sx_nd L) (q : Sg) (hV : sx_V h L q) {a0 : Nat} (ha0 : a0 ∈ L) (ka0 : h.1 a0 = 1) (n1 : Int32)  : CMv l dC dI h L yX1_noteDigit wsX1_noteDigit ({ frames := 0, cells := 0, slots := 0, locals := 0 } : Room) q [.ref a0, .int n1] (fun q' => sx_V h L q' ∧ sx_fr L (fun a => h.1 a = 1) q q') := by
  intro sz
  refine Met.ofW (cc := cX1_noteDigit) (maxL := 2) (ret := none) (by decide) rfl ?_
  intro p e s m args below meth c s₁ B hml hv
  obtain ⟨rfl, hsz, hP, hK⟩ := hv
  have hx := B.exec
  have hb := B.bytes
  have hr := B.returns
  have hts := atoms_spec (ws := wsX1_noteDigit) B.pre
  have hown : s.vm.findClass RX1 = some m.cls := findClass_of_methodNamed B.named
  have hlocks := B.notSynchronized
  subst hsz
  have hD : ∀ g, va_D (AL L s.heap.size) (va_pl L g) := AL_D hN s.heap.size
  have hS : va_S (AL L s.heap.size) s.heap s.heap [] := va_S.rf
  have hF : sx_fr L (fun a => h.1 a = 1) q q := sx_fr.rf
  have hl := lv_entry ([.ref a0, .int n1]) (n := 2) (Nat.le_of_ble_eq_true rfl)
  rw [lg_entry_eq]
  generalize (lg_sl ([.ref a0, .int n1]) ++ List.replicate (2 - (lg_sl ([.ref a0, .int n1])).length) Slot.unset).toArray = ls at hl ⊢
  have hl : lv_has ls 2 [(0, .ref a0), (1, .int n1)] := hl
  refine lv_aload_n hx hb dX1_noteDigit_0 rfl (lv_at hl 0 rfl) ?_
  refine pl_get (D := (dC, dI)) (v := .int (q.1 a0 6)) (C := RX1) (T := TX1) (N := 7) hx hb hts iq_X1_noteDigit_X1 hown hK hP ha0 (sg_F_o ka0 (by decide)) rfl 6 (by decide) (hts (.fieldLink RX1 22 "ClayAccounts$Hole" "sureDigit" "I") (by decide +kernel)) (fun _ h9 => h9) (sg_fs_at (by decide)) dX1_noteDigit_1 ?_
  refine lv_bipush (v := (-2)) hx hb dX1_noteDigit_4 (by decide) ?_
  refine lv_icmp_ne (tgt := 17) hx hb dX1_noteDigit_6 (by decide) (fun c_1 => ?_) (fun c_1 => ?_)
  · have tc_1 : ¬ (q.1 a0 6).toInt = (-2) := fun z => c_1 (Int32.toInt_inj.mp z)
    refine lv_aload_n hx hb dX1_noteDigit_17 rfl (lv_at hl 0 rfl) ?_
    refine pl_get (D := (dC, dI)) (v := .int (q.1 a0 6)) (C := RX1) (T := TX1) (N := 7) hx hb hts iq_X1_noteDigit_X1 hown hK hP ha0 (sg_F_o ka0 (by decide)) rfl 6 (by decide) (hts (.fieldLink RX1 22 "ClayAccounts$Hole" "sureDigit" "I") (by decide +kernel)) (fun _ h9 => h9) (sg_fs_at (by decide)) dX1_noteDigit_18 ?_
    refine lv_iload_n hx hb dX1_noteDigit_21 rfl (lv_at hl 1 rfl) ?_
    refine lv_icmp_eq (tgt := 30) hx hb dX1_noteDigit_22 (by decide) (fun c_2 => ?_) (fun c_2 => ?_)
    · have tc_2 : (q.1 a0 6).toInt = n1.toInt := congrArg Int32.toInt c_2
      exact W.vret hx hb hr (fun t ht hW => ⟨⟨q, rfl, ⟨hV, hF⟩, by unfold sx_at; rw [ht]; exact hP⟩, hS.F ht⟩) hS.2.2 dX1_noteDigit_30
    · have tc_2 : ¬ (q.1 a0 6).toInt = n1.toInt := fun z => c_2 (Int32.toInt_inj.mp z)
      refine lv_aload_n hx hb dX1_noteDigit_25 rfl (lv_at hl 0 rfl) ?_
      refine lv_iconst (v := (-1)) hx hb dX1_noteDigit_26 (by decide) ?_
      refine pl_put (D := (dC, dI)) (ty := .int) (v := .int (-1)) (C := RX1) (T := TX1) (N := 7) hx hb hts iq_X1_noteDigit_X1 tyX1 tyX1_ok nmX1 hown hK hP hD hS ha0 (sg_F_o ka0 (by decide)) rfl 6 (by decide) (hts (.fieldLink RX1 22 "ClayAccounts$Hole" "sureDigit" "I") (by decide +kernel)) (fun _ h9 => h9) rfl (by decide +kernel) rfl rfl (by rw [sg_fs_len]; decide) dX1_noteDigit_27 (fun H locs hP hS => ?_)
      rw [sg_upI ka0 (by decide) (by decide) (Or.inl rfl)] at hP
      obtain ⟨q_3, eq_3⟩ : ∃ z, z = sg_pI q a0 6 (-1) := ⟨_, rfl⟩
      rw [← eq_3] at hP
      have hV : sx_V h L q_3 := by rw [eq_3]; exact hV.pI (by rw [ka0]; exact trivial)
      have hF : sx_fr L (fun a => h.1 a = 1) q q_3 := hF.tr (by rw [eq_3]; exact sx_fr.pI (by first | exact ka0 | exact Or.inl ka0 | exact Or.inr ka0 | rfl | simp [ka0]))
      exact W.vret hx hb hr (fun t ht hW => ⟨⟨q_3, rfl, ⟨hV, hF⟩, by unfold sx_at; rw [ht]; exact hP⟩, hS.F ht⟩) hS.2.2 dX1_noteDigit_30
  · have tc_1 : (q.1 a0 6).toInt = (-2) := congrArg Int32.toInt c_1
    refine lv_aload_n hx hb dX1_noteDigit_9 rfl (lv_at hl 0 rfl) ?_
    refine lv_iload_n hx hb dX1_noteDigit_10 rfl (lv_at hl 1 rfl) ?_
    refine pl_put (D := (dC, dI)) (ty := .int) (v := .int n1) (C := RX1) (T := TX1) (N := 7) hx hb hts iq_X1_noteDigit_X1 tyX1 tyX1_ok nmX1 hown hK hP hD hS ha0 (sg_F_o ka0 (by decide)) rfl 6 (by decide) (hts (.fieldLink RX1 22 "ClayAccounts$Hole" "sureDigit" "I") (by decide +kernel)) (fun _ h9 => h9) rfl (by decide +kernel) rfl rfl (by rw [sg_fs_len]; decide) dX1_noteDigit_11 (fun H locs hP hS => ?_)
    rw [sg_upI ka0 (by decide) (by decide) (Or.inl rfl)] at hP
    obtain ⟨q_4, eq_4⟩ : ∃ z, z = sg_pI q a0 6 n1 := ⟨_, rfl⟩
    rw [← eq_4] at hP
    have hV : sx_V h L q_4 := by rw [eq_4]; exact hV.pI (by rw [ka0]; exact trivial)
    have hF : sx_fr L (fun a => h.1 a = 1) q q_4 := hF.tr (by rw [eq_4]; exact sx_fr.pI (by first | exact ka0 | exact Or.inl ka0 | exact Or.inr ka0 | rfl | simp [ka0]))
    refine lv_goto (tgt := 30) hx hb dX1_noteDigit_14 (by decide) ?_
    exact W.vret hx hb hr (fun t ht hW => ⟨⟨q_4, rfl, ⟨hV, hF⟩, by unfold sx_at; rw [ht]; exact hP⟩, hS.F ht⟩) hS.2.2 dX1_noteDigit_30
theorem iq_X5_isFull_X5 : ∀ w ∈ wsX50, w ∈ wsX5_isFull := fun _ h => List.mem_cons_of_mem _ (List.mem_append_right _ h)
set_option maxHeartbeats 4000000 in
set_option maxRecDepth 100000 in
theorem k_X5_isFull (l : Launch) (dC : Nat → ClassId) (dI : Nat → Nat → Nat) (h : Sh) (L : List Nat) (hN : sx_nd L) (q : Sg) (hV : sx_V h L q) {a0 : Nat} (ha0 : a0 ∈ L) (ka0 : h.1 a0 = 5)  : CMi l dC dI h L yX5_isFull wsX5_isFull ({ frames := 0, cells := 0, slots := 0, locals := 0 } : Room) q [.ref a0] (fun r q' => sx_V h L q' ∧ sx_fr L (fun a => False) q q' ∧ (r = 0 ∨ r = 1) ∧ (r = 0 → (q.1 a0 2).toInt < 12) ∧ q' = q) := by
  intro sz
  refine Met.ofW (cc := cX5_isFull) (maxL := 1) (ret := (some .boolean)) (by decide) rfl ?_
  intro p e s m args below meth c s₁ B hml hv
  obtain ⟨rfl, hsz, hP, hK⟩ := hv
  have hx := B.exec
  have hb := B.bytes
  have hr := B.returns
  have hts := atoms_spec (ws := wsX5_isFull) B.pre
  have hown : s.vm.findClass RX5 = some m.cls := findClass_of_methodNamed B.named
  have hlocks := B.notSynchronized
  subst hsz
  have hD : ∀ g, va_D (AL L s.heap.size) (va_pl L g) := AL_D hN s.heap.size
  have hS : va_S (AL L s.heap.size) s.heap s.heap [] := va_S.rf
  have hF : sx_fr L (fun a => False) q q := sx_fr.rf
  have hl := lv_entry ([.ref a0]) (n := 1) (Nat.le_of_ble_eq_true rfl)
  rw [lg_entry_eq]
  generalize (lg_sl ([.ref a0]) ++ List.replicate (1 - (lg_sl ([.ref a0])).length) Slot.unset).toArray = ls at hl ⊢
  have hl : lv_has ls 1 [(0, .ref a0)] := hl
  refine lv_aload_n hx hb dX5_isFull_0 rfl (lv_at hl 0 rfl) ?_
  refine pl_get (D := (dC, dI)) (v := .int (q.1 a0 2)) (C := RX5) (T := TX5) (N := 7) hx hb hts iq_X5_isFull_X5 hown hK hP ha0 (sg_F_o ka0 (by decide)) rfl 2 (by decide) (hts (.fieldLink RX5 25 "ClayAccounts$Tablet" "lineCount" "I") (by decide +kernel)) (fun _ h9 => h9) (sg_fs_at (by decide)) dX5_isFull_1 ?_
  have g_1 := hV.int ha0 2
  rw [ka0] at g_1
  have g_1 : sx_in (q.1 a0 2) 0 12 := g_1
  unfold sx_in at g_1
  refine lv_bipush (v := 12) hx hb dX5_isFull_4 (by decide) ?_
  refine lv_icmp_lt (tgt := 13) hx hb dX5_isFull_6 (by decide) (fun c_2 => ?_) (fun c_2 => ?_)
  · have tc_2 : (q.1 a0 2).toInt < 12 := zx_lt.mp c_2
    refine lv_iconst (v := 0) hx hb dX5_isFull_13 (by decide) ?_
    exact W.zret (v := 0) hx hb hr rfl (fun t ht hW => ⟨⟨0, q, rfl, ⟨hV, hF, (by first | exact ⟨Or.inl rfl, fun _ => by constructor <;> omega, rfl⟩ | exact ⟨Or.inl rfl, fun _ => by omega, rfl⟩ | exact ⟨Or.inr rfl, fun z => absurd z (by decide), rfl⟩)⟩, by unfold sx_at; rw [ht]; exact hP⟩, hS.F ht⟩) hS.2.2 dX5_isFull_14
  · have tc_2 : ¬ (q.1 a0 2).toInt < 12 := fun z => c_2 (zx_lt.mpr z)
    refine lv_iconst (v := 1) hx hb dX5_isFull_9 (by decide) ?_
    refine lv_goto (tgt := 14) hx hb dX5_isFull_10 (by decide) ?_
    exact W.zret (v := 1) hx hb hr rfl (fun t ht hW => ⟨⟨1, q, rfl, ⟨hV, hF, (by first | exact ⟨Or.inl rfl, fun _ => by constructor <;> omega, rfl⟩ | exact ⟨Or.inl rfl, fun _ => by omega, rfl⟩ | exact ⟨Or.inr rfl, fun z => absurd z (by decide), rfl⟩)⟩, by unfold sx_at; rw [ht]; exact hP⟩, hS.F ht⟩) hS.2.2 dX5_isFull_14
theorem iq_X5_clear_X5 : ∀ w ∈ wsX50, w ∈ wsX5_clear := fun _ h => List.mem_cons_of_mem _ (List.mem_append_right _ h)
set_option maxHeartbeats 4000000 in
set_option maxRecDepth 100000 in
theorem k_X5_clear (l : Launch) (dC : Nat → ClassId) (dI : Nat → Nat → Nat) (h : Sh) (L : List Nat) (hN : sx_nd L) (q : Sg) (hV : sx_V h L q) {a0 : Nat} (ha0 : a0 ∈ L) (ka0 : h.1 a0 = 5)  : CMv l dC dI h L yX5_clear wsX5_clear ({ frames := 0, cells := 0, slots := 0, locals := 0 } : Room) q [.ref a0] (fun q' => sx_V h L q' ∧ sx_fr L (fun a => h.1 a = 5) q q') := by
  intro sz
  refine Met.ofW (cc := cX5_clear) (maxL := 1) (ret := none) (by decide) rfl ?_
  intro p e s m args below meth c s₁ B hml hv
  obtain ⟨rfl, hsz, hP, hK⟩ := hv
  have hx := B.exec
  have hb := B.bytes
  have hr := B.returns
  have hts := atoms_spec (ws := wsX5_clear) B.pre
  have hown : s.vm.findClass RX5 = some m.cls := findClass_of_methodNamed B.named
  have hlocks := B.notSynchronized
  subst hsz
  have hD : ∀ g, va_D (AL L s.heap.size) (va_pl L g) := AL_D hN s.heap.size
  have hS : va_S (AL L s.heap.size) s.heap s.heap [] := va_S.rf
  have hF : sx_fr L (fun a => h.1 a = 5) q q := sx_fr.rf
  have hl := lv_entry ([.ref a0]) (n := 1) (Nat.le_of_ble_eq_true rfl)
  rw [lg_entry_eq]
  generalize (lg_sl ([.ref a0]) ++ List.replicate (1 - (lg_sl ([.ref a0])).length) Slot.unset).toArray = ls at hl ⊢
  have hl : lv_has ls 1 [(0, .ref a0)] := hl
  refine lv_aload_n hx hb dX5_clear_0 rfl (lv_at hl 0 rfl) ?_
  refine lv_iconst (v := 0) hx hb dX5_clear_1 (by decide) ?_
  refine pl_put (D := (dC, dI)) (ty := .int) (v := .int 0) (C := RX5) (T := TX5) (N := 7) hx hb hts iq_X5_clear_X5 tyX5 tyX5_ok nmX5 hown hK hP hD hS ha0 (sg_F_o ka0 (by decide)) rfl 2 (by decide) (hts (.fieldLink RX5 25 "ClayAccounts$Tablet" "lineCount" "I") (by decide +kernel)) (fun _ h9 => h9) rfl (by decide +kernel) rfl rfl (by rw [sg_fs_len]; decide) dX5_clear_2 (fun H locs hP hS => ?_)
  rw [sg_upI ka0 (by decide) (by decide) (Or.inl rfl)] at hP
  obtain ⟨q_1, eq_1⟩ : ∃ z, z = sg_pI q a0 2 0 := ⟨_, rfl⟩
  rw [← eq_1] at hP
  have hV : sx_V h L q_1 := by rw [eq_1]; exact hV.pI (by rw [ka0]; exact (by first | assumption | (show sx_in 0 0 12; unfold sx_in; decide)))
  have hF : sx_fr L (fun a => h.1 a = 5) q q_1 := hF.tr (by rw [eq_1]; exact sx_fr.pI (by first | exact ka0 | exact Or.inl ka0 | exact Or.inr ka0 | rfl | simp [ka0]))
  refine lv_aload_n hx hb dX5_clear_5 rfl (lv_at hl 0 rfl) ?_
  refine lv_iconst (v := 0) hx hb dX5_clear_6 (by decide) ?_
  refine pl_put (D := (dC, dI)) (ty := .int) (v := .int 0) (C := RX5) (T := TX5) (N := 7) hx hb hts iq_X5_clear_X5 tyX5 tyX5_ok nmX5 hown hK hP hD hS ha0 (sg_F_o ka0 (by decide)) rfl 3 (by decide) (hts (.fieldLink RX5 29 "ClayAccounts$Tablet" "holeCount" "I") (by decide +kernel)) (fun _ h9 => h9) rfl (by decide +kernel) rfl rfl (by rw [sg_fs_len]; decide) dX5_clear_7 (fun H locs hP hS => ?_)
  rw [sg_upI ka0 (by decide) (by decide) (Or.inl rfl)] at hP
  obtain ⟨q_2, eq_2⟩ : ∃ z, z = sg_pI q_1 a0 3 0 := ⟨_, rfl⟩
  rw [← eq_2] at hP
  have hV : sx_V h L q_2 := by rw [eq_2]; exact hV.pI (by rw [ka0]; exact (by first | assumption | (show sx_in 0 0 4; unfold sx_in; decide)))
  have hF : sx_fr L (fun a => h.1 a = 5) q q_2 := hF.tr (by rw [eq_2]; exact sx_fr.pI (by first | exact ka0 | exact Or.inl ka0 | exact Or.inr ka0 | rfl | simp [ka0]))
  refine lv_aload_n hx hb dX5_clear_10 rfl (lv_at hl 0 rfl) ?_
  refine lv_iconst (v := 0) hx hb dX5_clear_11 (by decide) ?_
  refine pl_put (D := (dC, dI)) (ty := .boolean) (v := .int 0) (C := RX5) (T := TX5) (N := 7) hx hb hts iq_X5_clear_X5 tyX5 tyX5_ok nmX5 hown hK hP hD hS ha0 (sg_F_o ka0 (by decide)) rfl 4 (by decide) (hts (.fieldLink RX5 32 "ClayAccounts$Tablet" "isSolved" "Z") (by decide +kernel)) (fun _ h9 => h9) rfl (by decide +kernel) rfl rfl (by rw [sg_fs_len]; decide) dX5_clear_12 (fun H locs hP hS => ?_)
  rw [sg_upI ka0 (by decide) (by decide) (Or.inr rfl)] at hP
  obtain ⟨q_3, eq_3⟩ : ∃ z, z = sg_pI q_2 a0 4 0 := ⟨_, rfl⟩
  rw [← eq_3] at hP
  have hV : sx_V h L q_3 := by rw [eq_3]; exact hV.pI (by rw [ka0]; exact trivial)
  have hF : sx_fr L (fun a => h.1 a = 5) q q_3 := hF.tr (by rw [eq_3]; exact sx_fr.pI (by first | exact ka0 | exact Or.inl ka0 | exact Or.inr ka0 | rfl | simp [ka0]))
  refine lv_aload_n hx hb dX5_clear_15 rfl (lv_at hl 0 rfl) ?_
  refine lv_iconst (v := 0) hx hb dX5_clear_16 (by decide) ?_
  refine pl_put (D := (dC, dI)) (ty := .int) (v := .int 0) (C := RX5) (T := TX5) (N := 7) hx hb hts iq_X5_clear_X5 tyX5 tyX5_ok nmX5 hown hK hP hD hS ha0 (sg_F_o ka0 (by decide)) rfl 5 (by decide) (hts (.fieldLink RX5 36 "ClayAccounts$Tablet" "readingCount" "I") (by decide +kernel)) (fun _ h9 => h9) rfl (by decide +kernel) rfl rfl (by rw [sg_fs_len]; decide) dX5_clear_17 (fun H locs hP hS => ?_)
  rw [sg_upI ka0 (by decide) (by decide) (Or.inl rfl)] at hP
  obtain ⟨q_4, eq_4⟩ : ∃ z, z = sg_pI q_3 a0 5 0 := ⟨_, rfl⟩
  rw [← eq_4] at hP
  have hV : sx_V h L q_4 := by rw [eq_4]; exact hV.pI (by rw [ka0]; exact trivial)
  have hF : sx_fr L (fun a => h.1 a = 5) q q_4 := hF.tr (by rw [eq_4]; exact sx_fr.pI (by first | exact ka0 | exact Or.inl ka0 | exact Or.inr ka0 | rfl | simp [ka0]))
  refine lv_aload_n hx hb dX5_clear_20 rfl (lv_at hl 0 rfl) ?_
  refine lv_bipush (v := 13) hx hb dX5_clear_21 (by decide) ?_
  refine pl_put (D := (dC, dI)) (ty := .int) (v := .int 13) (C := RX5) (T := TX5) (N := 7) hx hb hts iq_X5_clear_X5 tyX5 tyX5_ok nmX5 hown hK hP hD hS ha0 (sg_F_o ka0 (by decide)) rfl 6 (by decide) (hts (.fieldLink RX5 39 "ClayAccounts$Tablet" "fewestWrong" "I") (by decide +kernel)) (fun _ h9 => h9) rfl (by decide +kernel) rfl rfl (by rw [sg_fs_len]; decide) dX5_clear_23 (fun H locs hP hS => ?_)
  rw [sg_upI ka0 (by decide) (by decide) (Or.inl rfl)] at hP
  obtain ⟨q_5, eq_5⟩ : ∃ z, z = sg_pI q_4 a0 6 13 := ⟨_, rfl⟩
  rw [← eq_5] at hP
  have hV : sx_V h L q_5 := by rw [eq_5]; exact hV.pI (by rw [ka0]; exact trivial)
  have hF : sx_fr L (fun a => h.1 a = 5) q q_5 := hF.tr (by rw [eq_5]; exact sx_fr.pI (by first | exact ka0 | exact Or.inl ka0 | exact Or.inr ka0 | rfl | simp [ka0]))
  exact W.vret hx hb hr (fun t ht hW => ⟨⟨q_5, rfl, ⟨hV, hF⟩, by unfold sx_at; rw [ht]; exact hP⟩, hS.F ht⟩) hS.2.2 dX5_clear_26
set_option maxHeartbeats 4000000 in
set_option maxRecDepth 100000 in
theorem k_X9_slot (l : Launch) (dC : Nat → ClassId) (dI : Nat → Nat → Nat) (h : Sh) (L : List Nat) (hN : sx_nd L) (q : Sg) (hV : sx_V h L q) (n1 : Int32) (n2 : Int32)  : CMi l dC dI h L yX9_slot wsX9_slot ({ frames := 0, cells := 0, slots := 0, locals := 0 } : Room) q [.int n1, .int n2] (fun r q' => sx_V h L q' ∧ sx_fr L (fun a => False) q q') := by
  intro sz
  refine Met.ofW (cc := cX9_slot) (maxL := 2) (ret := (some .int)) (by decide) rfl ?_
  intro p e s m args below meth c s₁ B hml hv
  obtain ⟨rfl, hsz, hP, hK⟩ := hv
  have hx := B.exec
  have hb := B.bytes
  have hr := B.returns
  have hts := atoms_spec (ws := wsX9_slot) B.pre
  have hown : s.vm.findClass RX9 = some m.cls := findClass_of_methodNamed B.named
  have hlocks := B.notSynchronized
  subst hsz
  have hD : ∀ g, va_D (AL L s.heap.size) (va_pl L g) := AL_D hN s.heap.size
  have hS : va_S (AL L s.heap.size) s.heap s.heap [] := va_S.rf
  have hF : sx_fr L (fun a => False) q q := sx_fr.rf
  have hl := lv_entry ([.int n1, .int n2]) (n := 2) (Nat.le_of_ble_eq_true rfl)
  rw [lg_entry_eq]
  generalize (lg_sl ([.int n1, .int n2]) ++ List.replicate (2 - (lg_sl ([.int n1, .int n2])).length) Slot.unset).toArray = ls at hl ⊢
  have hl : lv_has ls 2 [(0, .int n1), (1, .int n2)] := hl
  refine lv_iload_n hx hb dX9_slot_0 rfl (lv_at hl 0 rfl) ?_
  refine lv_iconst (v := 5) hx hb dX9_slot_1 (by decide) ?_
  refine lv_imul hx hb dX9_slot_2 ?_
  refine lv_topi (fun v_1 ev_1 => ?_)
  refine lv_iload_n hx hb dX9_slot_3 rfl (lv_at hl 1 rfl) ?_
  refine lv_iadd hx hb dX9_slot_4 ?_
  refine lv_topi (fun v_2 ev_2 => ?_)
  exact W.iret (v := v_2) hx hb hr (fun t ht hW => ⟨⟨v_2, q, rfl, ⟨hV, hF⟩, by unfold sx_at; rw [ht]; exact hP⟩, hS.F ht⟩) hS.2.2 dX9_slot_5
set_option maxHeartbeats 4000000 in
set_option maxRecDepth 100000 in
theorem k_X9_systemOf (l : Launch) (dC : Nat → ClassId) (dI : Nat → Nat → Nat) (h : Sh) (L : List Nat) (hN : sx_nd L) (q : Sg) (hV : sx_V h L q) (n1 : Int32)  : CMi l dC dI h L yX9_systemOf wsX9_systemOf ({ frames := 0, cells := 0, slots := 0, locals := 0 } : Room) q [.int n1] (fun r q' => sx_V h L q' ∧ sx_fr L (fun a => False) q q') := by
  intro sz
  refine Met.ofW (cc := cX9_systemOf) (maxL := 1) (ret := (some .int)) (by decide) rfl ?_
  intro p e s m args below meth c s₁ B hml hv
  obtain ⟨rfl, hsz, hP, hK⟩ := hv
  have hx := B.exec
  have hb := B.bytes
  have hr := B.returns
  have hts := atoms_spec (ws := wsX9_systemOf) B.pre
  have hown : s.vm.findClass RX9 = some m.cls := findClass_of_methodNamed B.named
  have hlocks := B.notSynchronized
  subst hsz
  have hD : ∀ g, va_D (AL L s.heap.size) (va_pl L g) := AL_D hN s.heap.size
  have hS : va_S (AL L s.heap.size) s.heap s.heap [] := va_S.rf
  have hF : sx_fr L (fun a => False) q q := sx_fr.rf
  have hl := lv_entry ([.int n1]) (n := 1) (Nat.le_of_ble_eq_true rfl)
  rw [lg_entry_eq]
  generalize (lg_sl ([.int n1]) ++ List.replicate (1 - (lg_sl ([.int n1])).length) Slot.unset).toArray = ls at hl ⊢
  have hl : lv_has ls 1 [(0, .int n1)] := hl
  refine lv_iload_n hx hb dX9_systemOf_0 rfl (lv_at hl 0 rfl) ?_
  refine lv_iconst (v := 5) hx hb dX9_systemOf_1 (by decide) ?_
  refine lv_idiv hx hb dX9_systemOf_2 (by decide) ?_
  refine lv_topi (fun v_1 ev_1 => ?_)
  exact W.iret (v := v_1) hx hb hr (fun t ht hW => ⟨⟨v_1, q, rfl, ⟨hV, hF⟩, by unfold sx_at; rw [ht]; exact hP⟩, hS.F ht⟩) hS.2.2 dX9_systemOf_3
theorem iq_X2_noteValue_X2 : ∀ w ∈ wsX20, w ∈ wsX2_noteValue := fun _ h => List.mem_cons_of_mem _ (List.mem_append_right _ h)
set_option maxHeartbeats 4000000 in
set_option maxRecDepth 100000 in
theorem k_X2_noteValue (l : Launch) (dC : Nat → ClassId) (dI : Nat → Nat → Nat) (h : Sh) (L : List Nat) (hN : sx_nd L) (q : Sg) (hV : sx_V h L q) {a0 : Nat} (ha0 : a0 ∈ L) (ka0 : h.1 a0 = 2) (n1 : Int32)  : CMv l dC dI h L yX2_noteValue wsX2_noteValue ({ frames := 1, cells := 0, slots := 0, locals := 16 } : Room) q [.ref a0, .int n1] (fun q' => sx_V h L q' ∧ sx_fr L (fun a => h.1 a = 2) q q') := by
  intro sz
  refine Met.ofW (cc := cX2_noteValue) (maxL := 2) (ret := none) (by decide) rfl ?_
  intro p e s m args below meth c s₁ B hml hv
  obtain ⟨rfl, hsz, hP, hK⟩ := hv
  have hx := B.exec
  have hb := B.bytes
  have hr := B.returns
  have hts := atoms_spec (ws := wsX2_noteValue) B.pre
  have hown : s.vm.findClass RX2 = some m.cls := findClass_of_methodNamed B.named
  have hlocks := B.notSynchronized
  subst hsz
  have hD : ∀ g, va_D (AL L s.heap.size) (va_pl L g) := AL_D hN s.heap.size
  have hS : va_S (AL L s.heap.size) s.heap s.heap [] := va_S.rf
  have hF : sx_fr L (fun a => h.1 a = 2) q q := sx_fr.rf
  have hl := lv_entry ([.ref a0, .int n1]) (n := 2) (Nat.le_of_ble_eq_true rfl)
  rw [lg_entry_eq]
  generalize (lg_sl ([.ref a0, .int n1]) ++ List.replicate (2 - (lg_sl ([.ref a0, .int n1])).length) Slot.unset).toArray = ls at hl ⊢
  have hl : lv_has ls 2 [(0, .ref a0), (1, .int n1)] := hl
  refine lv_aload_n hx hb dX2_noteValue_0 rfl (lv_at hl 0 rfl) ?_
  refine lv_aload_n hx hb dX2_noteValue_1 rfl (lv_at hl 0 rfl) ?_
  refine pl_get (D := (dC, dI)) (v := .int (q.1 a0 4)) (C := RX2) (T := TX2) (N := 6) hx hb hts iq_X2_noteValue_X2 hown hK hP ha0 (sg_F_o ka0 (by decide)) rfl 4 (by decide) (hts (.fieldLink RX2 24 "ClayAccounts$Line" "least" "I") (by decide +kernel)) (fun _ h9 => h9) (sg_fs_at (by decide)) dX2_noteValue_2 ?_
  refine lv_iconst (v := (-1)) hx hb dX2_noteValue_5 (by decide) ?_
  refine lv_icmp_ne (tgt := 13) hx hb dX2_noteValue_6 (by decide) (fun c_1 => ?_) (fun c_1 => ?_)
  · have tc_1 : ¬ (q.1 a0 4).toInt = (-1) := fun z => c_1 (Int32.toInt_inj.mp z)
    refine lv_aload_n hx hb dX2_noteValue_13 rfl (lv_at hl 0 rfl) ?_
    refine pl_get (D := (dC, dI)) (v := .int (q.1 a0 4)) (C := RX2) (T := TX2) (N := 6) hx hb hts iq_X2_noteValue_X2 hown hK hP ha0 (sg_F_o ka0 (by decide)) rfl 4 (by decide) (hts (.fieldLink RX2 24 "ClayAccounts$Line" "least" "I") (by decide +kernel)) (fun _ h9 => h9) (sg_fs_at (by decide)) dX2_noteValue_14 ?_
    refine lv_iload_n hx hb dX2_noteValue_17 rfl (lv_at hl 1 rfl) ?_
    refine va_mmin hx hb (by rw [hml]; exact hl.1.symm) hown (hts (.methodLink RX2 30 Lib.Math.min.name) (by decide +kernel)) (hts (.static Lib.Math.min.name) (by decide +kernel)) (hts (.initialized "java/lang/Math") (by decide +kernel)) (hts (.code Lib.Math.min.name Lib.Math.min.code 2 (some .int)) (by decide +kernel)) (Nat.le_of_ble_eq_true rfl) (Nat.le_of_ble_eq_true rfl) (Nat.zero_le _) (Nat.zero_le _) dX2_noteValue_18 ?_
    refine lv_topi (fun v_2 ev_2 => ?_)
    refine pl_put (D := (dC, dI)) (ty := .int) (v := .int v_2) (C := RX2) (T := TX2) (N := 6) hx hb hts iq_X2_noteValue_X2 tyX2 tyX2_ok nmX2 hown hK hP hD hS ha0 (sg_F_o ka0 (by decide)) rfl 4 (by decide) (hts (.fieldLink RX2 24 "ClayAccounts$Line" "least" "I") (by decide +kernel)) (fun _ h9 => h9) rfl (by decide +kernel) rfl rfl (by rw [sg_fs_len]; decide) dX2_noteValue_21 (fun H locs hP hS => ?_)
    rw [sg_upI ka0 (by decide) (by decide) (Or.inl rfl)] at hP
    obtain ⟨q_3, eq_3⟩ : ∃ z, z = sg_pI q a0 4 v_2 := ⟨_, rfl⟩
    rw [← eq_3] at hP
    have hV : sx_V h L q_3 := by rw [eq_3]; exact hV.pI (by rw [ka0]; exact trivial)
    have hF : sx_fr L (fun a => h.1 a = 2) q q_3 := hF.tr (by rw [eq_3]; exact sx_fr.pI (by first | exact ka0 | exact Or.inl ka0 | exact Or.inr ka0 | rfl | simp [ka0]))
    refine lv_aload_n hx hb dX2_noteValue_24 rfl (lv_at hl 0 rfl) ?_
    refine lv_aload_n hx hb dX2_noteValue_25 rfl (lv_at hl 0 rfl) ?_
    refine pl_get (D := (dC, dI)) (v := .int (q_3.1 a0 5)) (C := RX2) (T := TX2) (N := 6) hx hb hts iq_X2_noteValue_X2 hown hK hP ha0 (sg_F_o ka0 (by decide)) rfl 5 (by decide) (hts (.fieldLink RX2 27 "ClayAccounts$Line" "greatest" "I") (by decide +kernel)) (fun _ h9 => h9) (sg_fs_at (by decide)) dX2_noteValue_26 ?_
    refine lv_iload_n hx hb dX2_noteValue_29 rfl (lv_at hl 1 rfl) ?_
    refine va_mmax hx hb (by rw [hml]; exact hl.1.symm) hown (hts (.methodLink RX2 36 Lib.Math.max.name) (by decide +kernel)) (hts (.static Lib.Math.max.name) (by decide +kernel)) (hts (.initialized "java/lang/Math") (by decide +kernel)) (hts (.code Lib.Math.max.name Lib.Math.max.code 2 (some .int)) (by decide +kernel)) (Nat.le_of_ble_eq_true rfl) (Nat.le_of_ble_eq_true rfl) (Nat.zero_le _) (Nat.zero_le _) dX2_noteValue_30 ?_
    refine lv_topi (fun v_4 ev_4 => ?_)
    refine pl_put (D := (dC, dI)) (ty := .int) (v := .int v_4) (C := RX2) (T := TX2) (N := 6) hx hb hts iq_X2_noteValue_X2 tyX2 tyX2_ok nmX2 hown hK hP hD hS ha0 (sg_F_o ka0 (by decide)) rfl 5 (by decide) (hts (.fieldLink RX2 27 "ClayAccounts$Line" "greatest" "I") (by decide +kernel)) (fun _ h9 => h9) rfl (by decide +kernel) rfl rfl (by rw [sg_fs_len]; decide) dX2_noteValue_33 (fun H locs hP hS => ?_)
    rw [sg_upI ka0 (by decide) (by decide) (Or.inl rfl)] at hP
    obtain ⟨q_5, eq_5⟩ : ∃ z, z = sg_pI q_3 a0 5 v_4 := ⟨_, rfl⟩
    rw [← eq_5] at hP
    have hV : sx_V h L q_5 := by rw [eq_5]; exact hV.pI (by rw [ka0]; exact trivial)
    have hF : sx_fr L (fun a => h.1 a = 2) q q_5 := hF.tr (by rw [eq_5]; exact sx_fr.pI (by first | exact ka0 | exact Or.inl ka0 | exact Or.inr ka0 | rfl | simp [ka0]))
    exact W.vret hx hb hr (fun t ht hW => ⟨⟨q_5, rfl, ⟨hV, hF⟩, by unfold sx_at; rw [ht]; exact hP⟩, hS.F ht⟩) hS.2.2 dX2_noteValue_36
  · have tc_1 : (q.1 a0 4).toInt = (-1) := congrArg Int32.toInt c_1
    refine lv_iload_n hx hb dX2_noteValue_9 rfl (lv_at hl 1 rfl) ?_
    refine lv_goto (tgt := 21) hx hb dX2_noteValue_10 (by decide) ?_
    refine pl_put (D := (dC, dI)) (ty := .int) (v := .int n1) (C := RX2) (T := TX2) (N := 6) hx hb hts iq_X2_noteValue_X2 tyX2 tyX2_ok nmX2 hown hK hP hD hS ha0 (sg_F_o ka0 (by decide)) rfl 4 (by decide) (hts (.fieldLink RX2 24 "ClayAccounts$Line" "least" "I") (by decide +kernel)) (fun _ h9 => h9) rfl (by decide +kernel) rfl rfl (by rw [sg_fs_len]; decide) dX2_noteValue_21 (fun H locs hP hS => ?_)
    rw [sg_upI ka0 (by decide) (by decide) (Or.inl rfl)] at hP
    obtain ⟨q_6, eq_6⟩ : ∃ z, z = sg_pI q a0 4 n1 := ⟨_, rfl⟩
    rw [← eq_6] at hP
    have hV : sx_V h L q_6 := by rw [eq_6]; exact hV.pI (by rw [ka0]; exact trivial)
    have hF : sx_fr L (fun a => h.1 a = 2) q q_6 := hF.tr (by rw [eq_6]; exact sx_fr.pI (by first | exact ka0 | exact Or.inl ka0 | exact Or.inr ka0 | rfl | simp [ka0]))
    refine lv_aload_n hx hb dX2_noteValue_24 rfl (lv_at hl 0 rfl) ?_
    refine lv_aload_n hx hb dX2_noteValue_25 rfl (lv_at hl 0 rfl) ?_
    refine pl_get (D := (dC, dI)) (v := .int (q_6.1 a0 5)) (C := RX2) (T := TX2) (N := 6) hx hb hts iq_X2_noteValue_X2 hown hK hP ha0 (sg_F_o ka0 (by decide)) rfl 5 (by decide) (hts (.fieldLink RX2 27 "ClayAccounts$Line" "greatest" "I") (by decide +kernel)) (fun _ h9 => h9) (sg_fs_at (by decide)) dX2_noteValue_26 ?_
    refine lv_iload_n hx hb dX2_noteValue_29 rfl (lv_at hl 1 rfl) ?_
    refine va_mmax hx hb (by rw [hml]; exact hl.1.symm) hown (hts (.methodLink RX2 36 Lib.Math.max.name) (by decide +kernel)) (hts (.static Lib.Math.max.name) (by decide +kernel)) (hts (.initialized "java/lang/Math") (by decide +kernel)) (hts (.code Lib.Math.max.name Lib.Math.max.code 2 (some .int)) (by decide +kernel)) (Nat.le_of_ble_eq_true rfl) (Nat.le_of_ble_eq_true rfl) (Nat.zero_le _) (Nat.zero_le _) dX2_noteValue_30 ?_
    refine lv_topi (fun v_7 ev_7 => ?_)
    refine pl_put (D := (dC, dI)) (ty := .int) (v := .int v_7) (C := RX2) (T := TX2) (N := 6) hx hb hts iq_X2_noteValue_X2 tyX2 tyX2_ok nmX2 hown hK hP hD hS ha0 (sg_F_o ka0 (by decide)) rfl 5 (by decide) (hts (.fieldLink RX2 27 "ClayAccounts$Line" "greatest" "I") (by decide +kernel)) (fun _ h9 => h9) rfl (by decide +kernel) rfl rfl (by rw [sg_fs_len]; decide) dX2_noteValue_33 (fun H locs hP hS => ?_)
    rw [sg_upI ka0 (by decide) (by decide) (Or.inl rfl)] at hP
    obtain ⟨q_8, eq_8⟩ : ∃ z, z = sg_pI q_6 a0 5 v_7 := ⟨_, rfl⟩
    rw [← eq_8] at hP
    have hV : sx_V h L q_8 := by rw [eq_8]; exact hV.pI (by rw [ka0]; exact trivial)
    have hF : sx_fr L (fun a => h.1 a = 2) q q_8 := hF.tr (by rw [eq_8]; exact sx_fr.pI (by first | exact ka0 | exact Or.inl ka0 | exact Or.inr ka0 | rfl | simp [ka0]))
    exact W.vret hx hb hr (fun t ht hW => ⟨⟨q_8, rfl, ⟨hV, hF⟩, by unfold sx_at; rw [ht]; exact hP⟩, hS.F ht⟩) hS.2.2 dX2_noteValue_36
theorem iq_X2_valueBound_X2 : ∀ w ∈ wsX20, w ∈ wsX2_valueBound := fun _ h => List.mem_cons_of_mem _ (List.mem_append_right _ h)
set_option maxHeartbeats 4000000 in
set_option maxRecDepth 100000 in
theorem k_X2_valueBound (l : Launch) (dC : Nat → ClassId) (dI : Nat → Nat → Nat) (h : Sh) (L : List Nat) (hN : sx_nd L) (q : Sg) (hV : sx_V h L q) {a0 : Nat} (ha0 : a0 ∈ L) (ka0 : h.1 a0 = 2) (n1 : Int32)  : CMi l dC dI h L yX2_valueBound wsX2_valueBound ({ frames := 0, cells := 0, slots := 0, locals := 0 } : Room) q [.ref a0, .int n1] (fun r q' => sx_V h L q' ∧ sx_fr L (fun a => False) q q') := by
  intro sz
  refine Met.ofW (cc := cX2_valueBound) (maxL := 2) (ret := (some .int)) (by decide) rfl ?_
  intro p e s m args below meth c s₁ B hml hv
  obtain ⟨rfl, hsz, hP, hK⟩ := hv
  have hx := B.exec
  have hb := B.bytes
  have hr := B.returns
  have hts := atoms_spec (ws := wsX2_valueBound) B.pre
  have hown : s.vm.findClass RX2 = some m.cls := findClass_of_methodNamed B.named
  have hlocks := B.notSynchronized
  subst hsz
  have hD : ∀ g, va_D (AL L s.heap.size) (va_pl L g) := AL_D hN s.heap.size
  have hS : va_S (AL L s.heap.size) s.heap s.heap [] := va_S.rf
  have hF : sx_fr L (fun a => False) q q := sx_fr.rf
  have hl := lv_entry ([.ref a0, .int n1]) (n := 2) (Nat.le_of_ble_eq_true rfl)
  rw [lg_entry_eq]
  generalize (lg_sl ([.ref a0, .int n1]) ++ List.replicate (2 - (lg_sl ([.ref a0, .int n1])).length) Slot.unset).toArray = ls at hl ⊢
  have hl : lv_has ls 2 [(0, .ref a0), (1, .int n1)] := hl
  refine lv_aload_n hx hb dX2_valueBound_0 rfl (lv_at hl 0 rfl) ?_
  refine pl_get (D := (dC, dI)) (v := .int (q.1 a0 2)) (C := RX2) (T := TX2) (N := 6) hx hb hts iq_X2_valueBound_X2 hown hK hP ha0 (sg_F_o ka0 (by decide)) rfl 2 (by decide) (hts (.fieldLink RX2 18 "ClayAccounts$Line" "holeCount" "I") (by decide +kernel)) (fun _ h9 => h9) (sg_fs_at (by decide)) dX2_valueBound_1 ?_
  refine lv_if_ne (tgt := 12) hx hb dX2_valueBound_4 (by decide) (fun c_1 => ?_) (fun c_1 => ?_)
  · have tc_1 : ¬ (q.1 a0 2).toInt = 0 := fun z => c_1 (Int32.toInt_inj.mp z)
    refine lv_iload_n hx hb dX2_valueBound_12 rfl (lv_at hl 1 rfl) ?_
    refine lv_if_eq (tgt := 23) hx hb dX2_valueBound_13 (by decide) (fun c_2 => ?_) (fun c_2 => ?_)
    · have tc_2 : n1.toInt = 0 := congrArg Int32.toInt c_2
      refine lv_aload_n hx hb dX2_valueBound_23 rfl (lv_at hl 0 rfl) ?_
      refine pl_get (D := (dC, dI)) (v := .int (q.1 a0 4)) (C := RX2) (T := TX2) (N := 6) hx hb hts iq_X2_valueBound_X2 hown hK hP ha0 (sg_F_o ka0 (by decide)) rfl 4 (by decide) (hts (.fieldLink RX2 24 "ClayAccounts$Line" "least" "I") (by decide +kernel)) (fun _ h9 => h9) (sg_fs_at (by decide)) dX2_valueBound_24 ?_
      exact W.iret (v := (q.1 a0 4)) hx hb hr (fun t ht hW => ⟨⟨(q.1 a0 4), q, rfl, ⟨hV, hF⟩, by unfold sx_at; rw [ht]; exact hP⟩, hS.F ht⟩) hS.2.2 dX2_valueBound_27
    · have tc_2 : ¬ n1.toInt = 0 := fun z => c_2 (Int32.toInt_inj.mp z)
      refine lv_aload_n hx hb dX2_valueBound_16 rfl (lv_at hl 0 rfl) ?_
      refine pl_get (D := (dC, dI)) (v := .int (q.1 a0 5)) (C := RX2) (T := TX2) (N := 6) hx hb hts iq_X2_valueBound_X2 hown hK hP ha0 (sg_F_o ka0 (by decide)) rfl 5 (by decide) (hts (.fieldLink RX2 27 "ClayAccounts$Line" "greatest" "I") (by decide +kernel)) (fun _ h9 => h9) (sg_fs_at (by decide)) dX2_valueBound_17 ?_
      refine lv_goto (tgt := 27) hx hb dX2_valueBound_20 (by decide) ?_
      exact W.iret (v := (q.1 a0 5)) hx hb hr (fun t ht hW => ⟨⟨(q.1 a0 5), q, rfl, ⟨hV, hF⟩, by unfold sx_at; rw [ht]; exact hP⟩, hS.F ht⟩) hS.2.2 dX2_valueBound_27
  · have tc_1 : (q.1 a0 2).toInt = 0 := congrArg Int32.toInt c_1
    refine lv_aload_n hx hb dX2_valueBound_7 rfl (lv_at hl 0 rfl) ?_
    refine pl_get (D := (dC, dI)) (v := .int (q.1 a0 3)) (C := RX2) (T := TX2) (N := 6) hx hb hts iq_X2_valueBound_X2 hown hK hP ha0 (sg_F_o ka0 (by decide)) rfl 3 (by decide) (hts (.fieldLink RX2 21 "ClayAccounts$Line" "value" "I") (by decide +kernel)) (fun _ h9 => h9) (sg_fs_at (by decide)) dX2_valueBound_8 ?_
    exact W.iret (v := (q.1 a0 3)) hx hb hr (fun t ht hW => ⟨⟨(q.1 a0 3), q, rfl, ⟨hV, hF⟩, by unfold sx_at; rw [ht]; exact hP⟩, hS.F ht⟩) hS.2.2 dX2_valueBound_11
theorem iq_X1_limit_X1 : ∀ w ∈ wsX10, w ∈ wsX1_limit := fun _ h => List.mem_cons_of_mem _ (List.mem_append_right _ h)
set_option maxHeartbeats 4000000 in
set_option maxRecDepth 100000 in
theorem k_X1_limit (l : Launch) (dC : Nat → ClassId) (dI : Nat → Nat → Nat) (h : Sh) (L : List Nat) (hN : sx_nd L) (q : Sg) (hV : sx_V h L q) {a0 : Nat} (ha0 : a0 ∈ L) (ka0 : h.1 a0 = 1) (n1 : Int32) (n2 : Int32) (n3 : Int32) (hn1 : sx_in n1 0 1) (hn3 : n3 = 0 ∨ n3 = 1) : CMv l dC dI h L yX1_limit wsX1_limit ({ frames := 0, cells := 0, slots := 0, locals := 0 } : Room) q [.ref a0, .int n1, .int n2, .int n3] (fun q' => sx_V h L q' ∧ sx_fr L (fun a => h.1 a = 1) q q') := by
  intro sz
  refine Met.ofW (cc := cX1_limit) (maxL := 4) (ret := none) (by decide) rfl ?_
  intro p e s m args below meth c s₁ B hml hv
  obtain ⟨rfl, hsz, hP, hK⟩ := hv
  have hx := B.exec
  have hb := B.bytes
  have hr := B.returns
  have hts := atoms_spec (ws := wsX1_limit) B.pre
  have hown : s.vm.findClass RX1 = some m.cls := findClass_of_methodNamed B.named
  have hlocks := B.notSynchronized
  subst hsz
  have hD : ∀ g, va_D (AL L s.heap.size) (va_pl L g) := AL_D hN s.heap.size
  have hS : va_S (AL L s.heap.size) s.heap s.heap [] := va_S.rf
  have hF : sx_fr L (fun a => h.1 a = 1) q q := sx_fr.rf
  have hl := lv_entry ([.ref a0, .int n1, .int n2, .int n3]) (n := 4) (Nat.le_of_ble_eq_true rfl)
  rw [lg_entry_eq]
  generalize (lg_sl ([.ref a0, .int n1, .int n2, .int n3]) ++ List.replicate (4 - (lg_sl ([.ref a0, .int n1, .int n2, .int n3])).length) Slot.unset).toArray = ls at hl ⊢
  have hl : lv_has ls 4 [(0, .ref a0), (1, .int n1), (2, .int n2), (3, .int n3)] := hl
  refine lv_aload_n hx hb dX1_limit_0 rfl (lv_at hl 0 rfl) ?_
  refine lv_iload_n hx hb dX1_limit_1 rfl (lv_at hl 1 rfl) ?_
  refine pl_put (D := (dC, dI)) (ty := .int) (v := .int n1) (C := RX1) (T := TX1) (N := 7) hx hb hts iq_X1_limit_X1 tyX1 tyX1_ok nmX1 hown hK hP hD hS ha0 (sg_F_o ka0 (by decide)) rfl 3 (by decide) (hts (.fieldLink RX1 9 "ClayAccounts$Hole" "leastDigit" "I") (by decide +kernel)) (fun _ h9 => h9) rfl (by decide +kernel) rfl rfl (by rw [sg_fs_len]; decide) dX1_limit_2 (fun H locs hP hS => ?_)
  rw [sg_upI ka0 (by decide) (by decide) (Or.inl rfl)] at hP
  obtain ⟨q_1, eq_1⟩ : ∃ z, z = sg_pI q a0 3 n1 := ⟨_, rfl⟩
  rw [← eq_1] at hP
  have hV : sx_V h L q_1 := by rw [eq_1]; exact hV.pI (by rw [ka0]; exact (by first | assumption | (show sx_in n1 0 1; unfold sx_in; omega)))
  have hF : sx_fr L (fun a => h.1 a = 1) q q_1 := hF.tr (by rw [eq_1]; exact sx_fr.pI (by first | exact ka0 | exact Or.inl ka0 | exact Or.inr ka0 | rfl | simp [ka0]))
  refine lv_aload_n hx hb dX1_limit_5 rfl (lv_at hl 0 rfl) ?_
  refine lv_iload_n hx hb dX1_limit_6 rfl (lv_at hl 2 rfl) ?_
  refine pl_put (D := (dC, dI)) (ty := .int) (v := .int n2) (C := RX1) (T := TX1) (N := 7) hx hb hts iq_X1_limit_X1 tyX1 tyX1_ok nmX1 hown hK hP hD hS ha0 (sg_F_o ka0 (by decide)) rfl 4 (by decide) (hts (.fieldLink RX1 15 "ClayAccounts$Hole" "room" "I") (by decide +kernel)) (fun _ h9 => h9) rfl (by decide +kernel) rfl rfl (by rw [sg_fs_len]; decide) dX1_limit_7 (fun H locs hP hS => ?_)
  rw [sg_upI ka0 (by decide) (by decide) (Or.inl rfl)] at hP
  obtain ⟨q_2, eq_2⟩ : ∃ z, z = sg_pI q_1 a0 4 n2 := ⟨_, rfl⟩
  rw [← eq_2] at hP
  have hV : sx_V h L q_2 := by rw [eq_2]; exact hV.pI (by rw [ka0]; exact trivial)
  have hF : sx_fr L (fun a => h.1 a = 1) q q_2 := hF.tr (by rw [eq_2]; exact sx_fr.pI (by first | exact ka0 | exact Or.inl ka0 | exact Or.inr ka0 | rfl | simp [ka0]))
  refine lv_aload_n hx hb dX1_limit_10 rfl (lv_at hl 0 rfl) ?_
  refine lv_iload_n hx hb dX1_limit_11 rfl (lv_at hl 3 rfl) ?_
  refine pl_put (D := (dC, dI)) (ty := .boolean) (v := .int n3) (C := RX1) (T := TX1) (N := 7) hx hb hts iq_X1_limit_X1 tyX1 tyX1_ok nmX1 hown hK hP hD hS ha0 (sg_F_o ka0 (by decide)) rfl 5 (by decide) (hts (.fieldLink RX1 18 "ClayAccounts$Hole" "isBehindHole" "Z") (by decide +kernel)) (fun _ h9 => h9) rfl (by decide +kernel) (by first | (rcases hn3 with z | z <;> rw [z] <;> rfl) | rfl) (by first | (rcases hn3 with z | z <;> rw [z] <;> rfl) | rfl) (by rw [sg_fs_len]; decide) dX1_limit_12 (fun H locs hP hS => ?_)
  rw [sg_upI ka0 (by decide) (by decide) (Or.inr rfl)] at hP
  obtain ⟨q_3, eq_3⟩ : ∃ z, z = sg_pI q_2 a0 5 n3 := ⟨_, rfl⟩
  rw [← eq_3] at hP
  have hV : sx_V h L q_3 := by rw [eq_3]; exact hV.pI (by rw [ka0]; exact trivial)
  have hF : sx_fr L (fun a => h.1 a = 1) q q_3 := hF.tr (by rw [eq_3]; exact sx_fr.pI (by first | exact ka0 | exact Or.inl ka0 | exact Or.inr ka0 | rfl | simp [ka0]))
  exact W.vret hx hb hr (fun t ht hW => ⟨⟨q_3, rfl, ⟨hV, hF⟩, by unfold sx_at; rw [ht]; exact hP⟩, hS.F ht⟩) hS.2.2 dX1_limit_15
theorem iq_X8_kindOfName_X8 : ∀ w ∈ wsX80, w ∈ wsX8_kindOfName := fun _ h => List.mem_cons_of_mem _ (List.mem_append_right _ h)
set_option maxHeartbeats 4000000 in
set_option maxRecDepth 100000 in
theorem k_X8_kindOfName (l : Launch) (dC : Nat → ClassId) (dI : Nat → Nat → Nat) (h : Sh) (L : List Nat) (hN : sx_nd L) (q : Sg) (hV : sx_V h L q) {a0 : Nat} (ha0 : a0 ∈ L) (ka0 : h.1 a0 = 8)  : CMi l dC dI h L yX8_kindOfName wsX8_kindOfName ({ frames := 0, cells := 0, slots := 0, locals := 0 } : Room) q [.ref a0] (fun r q' => sx_V h L q' ∧ sx_fr L (fun a => False) q q') := by
  intro sz
  refine Met.ofW (cc := cX8_kindOfName) (maxL := 1) (ret := (some .int)) (by decide) rfl ?_
  intro p e s m args below meth c s₁ B hml hv
  obtain ⟨rfl, hsz, hP, hK⟩ := hv
  have hx := B.exec
  have hb := B.bytes
  have hr := B.returns
  have hts := atoms_spec (ws := wsX8_kindOfName) B.pre
  have hown : s.vm.findClass RX8 = some m.cls := findClass_of_methodNamed B.named
  have hlocks := B.notSynchronized
  subst hsz
  have hD : ∀ g, va_D (AL L s.heap.size) (va_pl L g) := AL_D hN s.heap.size
  have hS : va_S (AL L s.heap.size) s.heap s.heap [] := va_S.rf
  have hF : sx_fr L (fun a => False) q q := sx_fr.rf
  have hl := lv_entry ([.ref a0]) (n := 1) (Nat.le_of_ble_eq_true rfl)
  rw [lg_entry_eq]
  generalize (lg_sl ([.ref a0]) ++ List.replicate (1 - (lg_sl ([.ref a0])).length) Slot.unset).toArray = ls at hl ⊢
  have hl : lv_has ls 1 [(0, .ref a0)] := hl
  refine lv_aload_n hx hb dX8_kindOfName_0 rfl (lv_at hl 0 rfl) ?_
  refine pl_get (D := (dC, dI)) (v := .long (q.2.1 a0 2)) (C := RX8) (T := TX8) (N := 11) hx hb hts iq_X8_kindOfName_X8 hown hK hP ha0 (sg_F_o ka0 (by decide)) rfl 2 (by decide) (hts (.fieldLink RX8 85 "ClayAccounts$Tokens" "name" "J") (by decide +kernel)) (fun _ h9 => h9) (sg_fs_at (by decide)) dX8_kindOfName_1 ?_
  refine lv_ldc2 (v := 126965465245037) hx hb hown (hts (.constantLong RX8 93 (126965465245037)) (by decide +kernel)) dX8_kindOfName_4 ?_
  refine W.lcmp hx hb dX8_kindOfName_7 ?_
  refine lv_topi (fun v_1 ev_1 => ?_)
  refine lv_if_ne (tgt := 14) hx hb dX8_kindOfName_8 (by decide) (fun c_2 => ?_) (fun c_2 => ?_)
  · have tc_2 : ¬ v_1.toInt = 0 := fun z => c_2 (Int32.toInt_inj.mp z)
    refine lv_aload_n hx hb dX8_kindOfName_14 rfl (lv_at hl 0 rfl) ?_
    refine pl_get (D := (dC, dI)) (v := .long (q.2.1 a0 2)) (C := RX8) (T := TX8) (N := 11) hx hb hts iq_X8_kindOfName_X8 hown hK hP ha0 (sg_F_o ka0 (by decide)) rfl 2 (by decide) (hts (.fieldLink RX8 85 "ClayAccounts$Tokens" "name" "J") (by decide +kernel)) (fun _ h9 => h9) (sg_fs_at (by decide)) dX8_kindOfName_15 ?_
    refine lv_ldc2 (v := 500086104428) hx hb hown (hts (.constantLong RX8 95 (500086104428)) (by decide +kernel)) dX8_kindOfName_18 ?_
    refine W.lcmp hx hb dX8_kindOfName_21 ?_
    refine lv_topi (fun v_3 ev_3 => ?_)
    refine lv_if_ne (tgt := 28) hx hb dX8_kindOfName_22 (by decide) (fun c_4 => ?_) (fun c_4 => ?_)
    · have tc_4 : ¬ v_3.toInt = 0 := fun z => c_4 (Int32.toInt_inj.mp z)
      refine lv_aload_n hx hb dX8_kindOfName_28 rfl (lv_at hl 0 rfl) ?_
      refine pl_get (D := (dC, dI)) (v := .long (q.2.1 a0 2)) (C := RX8) (T := TX8) (N := 11) hx hb hts iq_X8_kindOfName_X8 hown hK hP ha0 (sg_F_o ka0 (by decide)) rfl 2 (by decide) (hts (.fieldLink RX8 85 "ClayAccounts$Tokens" "name" "J") (by decide +kernel)) (fun _ h9 => h9) (sg_fs_at (by decide)) dX8_kindOfName_29 ?_
      refine lv_ldc2 (v := 444300619364) hx hb hown (hts (.constantLong RX8 97 (444300619364)) (by decide +kernel)) dX8_kindOfName_32 ?_
      refine W.lcmp hx hb dX8_kindOfName_35 ?_
      refine lv_topi (fun v_5 ev_5 => ?_)
      refine lv_if_ne (tgt := 44) hx hb dX8_kindOfName_36 (by decide) (fun c_6 => ?_) (fun c_6 => ?_)
      · have tc_6 : ¬ v_5.toInt = 0 := fun z => c_6 (Int32.toInt_inj.mp z)
        refine lv_iconst (v := 2) hx hb dX8_kindOfName_44 (by decide) ?_
        exact W.iret (v := 2) hx hb hr (fun t ht hW => ⟨⟨2, q, rfl, ⟨hV, hF⟩, by unfold sx_at; rw [ht]; exact hP⟩, hS.F ht⟩) hS.2.2 dX8_kindOfName_45
      · have tc_6 : v_5.toInt = 0 := congrArg Int32.toInt c_6
        refine lv_bipush (v := 8) hx hb dX8_kindOfName_39 (by decide) ?_
        refine lv_goto (tgt := 45) hx hb dX8_kindOfName_41 (by decide) ?_
        exact W.iret (v := 8) hx hb hr (fun t ht hW => ⟨⟨8, q, rfl, ⟨hV, hF⟩, by unfold sx_at; rw [ht]; exact hP⟩, hS.F ht⟩) hS.2.2 dX8_kindOfName_45
    · have tc_4 : v_3.toInt = 0 := congrArg Int32.toInt c_4
      refine lv_bipush (v := 7) hx hb dX8_kindOfName_25 (by decide) ?_
      exact W.iret (v := 7) hx hb hr (fun t ht hW => ⟨⟨7, q, rfl, ⟨hV, hF⟩, by unfold sx_at; rw [ht]; exact hP⟩, hS.F ht⟩) hS.2.2 dX8_kindOfName_27
  · have tc_2 : v_1.toInt = 0 := congrArg Int32.toInt c_2
    refine lv_bipush (v := 6) hx hb dX8_kindOfName_11 (by decide) ?_
    exact W.iret (v := 6) hx hb hr (fun t ht hW => ⟨⟨6, q, rfl, ⟨hV, hF⟩, by unfold sx_at; rw [ht]; exact hP⟩, hS.F ht⟩) hS.2.2 dX8_kindOfName_13
theorem iq_X8_number_X8 : ∀ w ∈ wsX80, w ∈ wsX8_number := fun _ h => List.mem_cons_of_mem _ (List.mem_append_right _ h)
set_option maxHeartbeats 4000000 in
set_option maxRecDepth 100000 in
theorem k_X8_number (l : Launch) (dC : Nat → ClassId) (dI : Nat → Nat → Nat) (h : Sh) (L : List Nat) (hN : sx_nd L) (q : Sg) (hV : sx_V h L q) {a0 : Nat} (ha0 : a0 ∈ L) (ka0 : h.1 a0 = 8)  : CMi l dC dI h L yX8_number wsX8_number ({ frames := 0, cells := 0, slots := 0, locals := 0 } : Room) q [.ref a0] (fun r q' => sx_V h L q' ∧ sx_fr L (fun a => False) q q') := by
  intro sz
  refine Met.ofW (cc := cX8_number) (maxL := 1) (ret := (some .int)) (by decide) rfl ?_
  intro p e s m args below meth c s₁ B hml hv
  obtain ⟨rfl, hsz, hP, hK⟩ := hv
  have hx := B.exec
  have hb := B.bytes
  have hr := B.returns
  have hts := atoms_spec (ws := wsX8_number) B.pre
  have hown : s.vm.findClass RX8 = some m.cls := findClass_of_methodNamed B.named
  have hlocks := B.notSynchronized
  subst hsz
  have hD : ∀ g, va_D (AL L s.heap.size) (va_pl L g) := AL_D hN s.heap.size
  have hS : va_S (AL L s.heap.size) s.heap s.heap [] := va_S.rf
  have hF : sx_fr L (fun a => False) q q := sx_fr.rf
  have hl := lv_entry ([.ref a0]) (n := 1) (Nat.le_of_ble_eq_true rfl)
  rw [lg_entry_eq]
  generalize (lg_sl ([.ref a0]) ++ List.replicate (1 - (lg_sl ([.ref a0])).length) Slot.unset).toArray = ls at hl ⊢
  have hl : lv_has ls 1 [(0, .ref a0)] := hl
  refine lv_aload_n hx hb dX8_number_0 rfl (lv_at hl 0 rfl) ?_
  refine pl_get (D := (dC, dI)) (v := .int (q.1 a0 3)) (C := RX8) (T := TX8) (N := 11) hx hb hts iq_X8_number_X8 hown hK hP ha0 (sg_F_o ka0 (by decide)) rfl 3 (by decide) (hts (.fieldLink RX8 79 "ClayAccounts$Tokens" "tens" "I") (by decide +kernel)) (fun _ h9 => h9) (sg_fs_at (by decide)) dX8_number_1 ?_
  refine lv_iconst (v := (-1)) hx hb dX8_number_4 (by decide) ?_
  refine lv_icmp_ne (tgt := 15) hx hb dX8_number_5 (by decide) (fun c_1 => ?_) (fun c_1 => ?_)
  · have tc_1 : ¬ (q.1 a0 3).toInt = (-1) := fun z => c_1 (Int32.toInt_inj.mp z)
    refine lv_bipush (v := 10) hx hb dX8_number_15 (by decide) ?_
    refine lv_aload_n hx hb dX8_number_17 rfl (lv_at hl 0 rfl) ?_
    refine pl_get (D := (dC, dI)) (v := .int (q.1 a0 3)) (C := RX8) (T := TX8) (N := 11) hx hb hts iq_X8_number_X8 hown hK hP ha0 (sg_F_o ka0 (by decide)) rfl 3 (by decide) (hts (.fieldLink RX8 79 "ClayAccounts$Tokens" "tens" "I") (by decide +kernel)) (fun _ h9 => h9) (sg_fs_at (by decide)) dX8_number_18 ?_
    refine lv_imul hx hb dX8_number_21 ?_
    refine lv_topi (fun v_2 ev_2 => ?_)
    refine lv_aload_n hx hb dX8_number_22 rfl (lv_at hl 0 rfl) ?_
    refine pl_get (D := (dC, dI)) (v := .int (q.1 a0 4)) (C := RX8) (T := TX8) (N := 11) hx hb hts iq_X8_number_X8 hown hK hP ha0 (sg_F_o ka0 (by decide)) rfl 4 (by decide) (hts (.fieldLink RX8 82 "ClayAccounts$Tokens" "ones" "I") (by decide +kernel)) (fun _ h9 => h9) (sg_fs_at (by decide)) dX8_number_23 ?_
    refine lv_iadd hx hb dX8_number_26 ?_
    refine lv_topi (fun v_3 ev_3 => ?_)
    exact W.iret (v := v_3) hx hb hr (fun t ht hW => ⟨⟨v_3, q, rfl, ⟨hV, hF⟩, by unfold sx_at; rw [ht]; exact hP⟩, hS.F ht⟩) hS.2.2 dX8_number_27
  · have tc_1 : (q.1 a0 3).toInt = (-1) := congrArg Int32.toInt c_1
    refine lv_aload_n hx hb dX8_number_8 rfl (lv_at hl 0 rfl) ?_
    refine pl_get (D := (dC, dI)) (v := .int (q.1 a0 4)) (C := RX8) (T := TX8) (N := 11) hx hb hts iq_X8_number_X8 hown hK hP ha0 (sg_F_o ka0 (by decide)) rfl 4 (by decide) (hts (.fieldLink RX8 82 "ClayAccounts$Tokens" "ones" "I") (by decide +kernel)) (fun _ h9 => h9) (sg_fs_at (by decide)) dX8_number_9 ?_
    refine lv_goto (tgt := 27) hx hb dX8_number_12 (by decide) ?_
    exact W.iret (v := (q.1 a0 4)) hx hb hr (fun t ht hW => ⟨⟨(q.1 a0 4), q, rfl, ⟨hV, hF⟩, by unfold sx_at; rw [ht]; exact hP⟩, hS.F ht⟩) hS.2.2 dX8_number_27
theorem iq_X6_endLine_X6 : ∀ w ∈ wsX60, w ∈ wsX6_endLine := fun _ h => List.mem_cons_of_mem _ (List.mem_append_left _ (List.mem_append_right _ h))
set_option maxHeartbeats 4000000 in
set_option maxRecDepth 100000 in
theorem k_X6_endLine (l : Launch) (dC : Nat → ClassId) (dI : Nat → Nat → Nat) (h : Sh) (L : List Nat) (hN : sx_nd L) (q : Sg) (hV : sx_V h L q) {a0 : Nat} (ha0 : a0 ∈ L) (ka0 : h.1 a0 = 6)  : CMi l dC dI h L yX6_endLine wsX6_endLine ({ frames := 1, cells := 0, slots := 0, locals := 21 } : Room) q [.ref a0] (fun r q' => sx_V h L q' ∧ sx_fr L (fun a => h.1 a = 6 ∨ h.1 a = 8) q q' ∧ (r = 0 ∨ r = 1)) := by
  intro sz
  refine Met.ofW (cc := cX6_endLine) (maxL := 1) (ret := (some .boolean)) (by decide) rfl ?_
  intro p e s m args below meth c s₁ B hml hv
  obtain ⟨rfl, hsz, hP, hK⟩ := hv
  have hx := B.exec
  have hb := B.bytes
  have hr := B.returns
  have hts := atoms_spec (ws := wsX6_endLine) B.pre
  have hown : s.vm.findClass RX6 = some m.cls := findClass_of_methodNamed B.named
  have hlocks := B.notSynchronized
  subst hsz
  have hD : ∀ g, va_D (AL L s.heap.size) (va_pl L g) := AL_D hN s.heap.size
  have hS : va_S (AL L s.heap.size) s.heap s.heap [] := va_S.rf
  have hF : sx_fr L (fun a => h.1 a = 6 ∨ h.1 a = 8) q q := sx_fr.rf
  have hl := lv_entry ([.ref a0]) (n := 1) (Nat.le_of_ble_eq_true rfl)
  rw [lg_entry_eq]
  generalize (lg_sl ([.ref a0]) ++ List.replicate (1 - (lg_sl ([.ref a0])).length) Slot.unset).toArray = ls at hl ⊢
  have hl : lv_has ls 1 [(0, .ref a0)] := hl
  refine lv_aload_n hx hb dX6_endLine_0 rfl (lv_at hl 0 rfl) ?_
  refine lv_iconst (v := 0) hx hb dX6_endLine_1 (by decide) ?_
  refine pl_put (D := (dC, dI)) (ty := .int) (v := .int 0) (C := RX6) (T := TX6) (N := 8) hx hb hts iq_X6_endLine_X6 tyX6 tyX6_ok nmX6 hown hK hP hD hS ha0 (sg_F_o ka0 (by decide)) rfl 1 (by decide) (hts (.fieldLink RX6 27 "ClayAccounts$TabletReader" "state" "I") (by decide +kernel)) (fun _ h9 => h9) rfl (by decide +kernel) rfl rfl (by rw [sg_fs_len]; decide) dX6_endLine_2 (fun H locs hP hS => ?_)
  rw [sg_upI ka0 (by decide) (by decide) (Or.inl rfl)] at hP
  obtain ⟨q_1, eq_1⟩ : ∃ z, z = sg_pI q a0 1 0 := ⟨_, rfl⟩
  rw [← eq_1] at hP
  have hV : sx_V h L q_1 := by rw [eq_1]; exact hV.pI (by rw [ka0]; exact trivial)
  have hF : sx_fr L (fun a => h.1 a = 6 ∨ h.1 a = 8) q q_1 := hF.tr (by rw [eq_1]; exact sx_fr.pI (by first | exact ka0 | exact Or.inl ka0 | exact Or.inr ka0 | rfl | simp [ka0]))
  refine lv_aload_n hx hb dX6_endLine_5 rfl (lv_at hl 0 rfl) ?_
  refine pl_get (D := (dC, dI)) (v := .ref (q_1.2.2.1 a0 0)) (C := RX6) (T := TX6) (N := 8) hx hb hts iq_X6_endLine_X6 hown hK hP ha0 (sg_F_o ka0 (by decide)) rfl 0 (by decide) (hts (.fieldLink RX6 12 "ClayAccounts$TabletReader" "tokens" "LClayAccounts$Tokens;") (by decide +kernel)) (fun _ h9 => h9) (sg_fs_at (by decide)) dX6_endLine_6 ?_
  obtain ⟨ha_2, ka_2, na_2⟩ := hV.ref (k := 0) ha0 (by rw [ka0]; decide)
  rw [ka0] at ka_2 na_2
  have ka_2 : h.1 (q_1.2.2.1 a0 0) = 8 := ka_2
  refine lv_iconst (v := 5) hx hb dX6_endLine_9 (by decide) ?_
  refine pl_callVi (x := (RX8, TX8, 11)) (As := [.int 5]) (rest := []) ⟨hx, hb, hml, hown, hts⟩ (k_X8_demand l dC dI h L hN q_1 hV (a0 := (q_1.2.2.1 a0 0)) ha_2 ka_2 5 ) (cwV 1 hts gX6_endLine_X8_demand rfl rfl rfl (by decide +kernel) ⟨Nat.le_of_ble_eq_true rfl, Nat.le_of_ble_eq_true rfl⟩) hK hP hS ha_2 ka_2 (by decide) rfl rfl hl.1 rfl (Nat.le_of_ble_eq_true rfl) dX6_endLine_10 ⟨Nat.zero_le _, Nat.zero_le _⟩ (fun r_4 q_3 H locs hw hP hS => ?_)
  obtain ⟨hV, hF2, w_5⟩ := hw
  have hF : sx_fr L (fun a => h.1 a = 6 ∨ h.1 a = 8) q q_3 := hF.tr (hF2.mono (fun a z => by first | exact z | exact z.elim | exact Or.inl z | exact Or.inr z | (simp_all; done)))
  have y_6 : q_3.1 a0 = q_1.1 a0 := (hF2 a0 ha0 (by show ¬ (h.1 a0 = 8); rw [ka0]; decide)).1
  have hr_4 : r_4 = 0 ∨ r_4 = 1 := w_5
  exact W.zret (v := r_4) hx hb hr (by rcases hr_4 with z | z <;> rw [z] <;> rfl) (fun t ht hW => ⟨⟨r_4, q_3, rfl, ⟨hV, hF, by first | exact Or.inl rfl | exact Or.inr rfl | assumption⟩, by unfold sx_at; rw [ht]; exact hP⟩, hS.F ht⟩) hS.2.2 dX6_endLine_13
theorem iq_X6_brokenDigits_X6 : ∀ w ∈ wsX60, w ∈ wsX6_brokenDigits := fun _ h => List.mem_cons_of_mem _ (List.mem_append_right _ h)
set_option maxHeartbeats 4000000 in
set_option maxRecDepth 100000 in
theorem k_X6_brokenDigits (l : Launch) (dC : Nat → ClassId) (dI : Nat → Nat → Nat) (h : Sh) (L : List Nat) (hN : sx_nd L) (q : Sg) (hV : sx_V h L q) {a0 : Nat} (ha0 : a0 ∈ L) (ka0 : h.1 a0 = 6)  : CMi l dC dI h L yX6_brokenDigits wsX6_brokenDigits ({ frames := 0, cells := 0, slots := 0, locals := 0 } : Room) q [.ref a0] (fun r q' => sx_V h L q' ∧ sx_fr L (fun a => False) q q') := by
  intro sz
  refine Met.ofW (cc := cX6_brokenDigits) (maxL := 1) (ret := (some .int)) (by decide) rfl ?_
  intro p e s m args below meth c s₁ B hml hv
  obtain ⟨rfl, hsz, hP, hK⟩ := hv
  have hx := B.exec
  have hb := B.bytes
  have hr := B.returns
  have hts := atoms_spec (ws := wsX6_brokenDigits) B.pre
  have hown : s.vm.findClass RX6 = some m.cls := findClass_of_methodNamed B.named
  have hlocks := B.notSynchronized
  subst hsz
  have hD : ∀ g, va_D (AL L s.heap.size) (va_pl L g) := AL_D hN s.heap.size
  have hS : va_S (AL L s.heap.size) s.heap s.heap [] := va_S.rf
  have hF : sx_fr L (fun a => False) q q := sx_fr.rf
  have hl := lv_entry ([.ref a0]) (n := 1) (Nat.le_of_ble_eq_true rfl)
  rw [lg_entry_eq]
  generalize (lg_sl ([.ref a0]) ++ List.replicate (1 - (lg_sl ([.ref a0])).length) Slot.unset).toArray = ls at hl ⊢
  have hl : lv_has ls 1 [(0, .ref a0)] := hl
  refine lv_aload_n hx hb dX6_brokenDigits_0 rfl (lv_at hl 0 rfl) ?_
  refine pl_get (D := (dC, dI)) (v := .int (q.1 a0 6)) (C := RX6) (T := TX6) (N := 8) hx hb hts iq_X6_brokenDigits_X6 hown hK hP ha0 (sg_F_o ka0 (by decide)) rfl 6 (by decide) (hts (.fieldLink RX6 96 "ClayAccounts$TabletReader" "tens" "I") (by decide +kernel)) (fun _ h9 => h9) (sg_fs_at (by decide)) dX6_brokenDigits_1 ?_
  refine lv_bipush (v := 10) hx hb dX6_brokenDigits_4 (by decide) ?_
  refine lv_icmp_ne (tgt := 13) hx hb dX6_brokenDigits_6 (by decide) (fun c_1 => ?_) (fun c_1 => ?_)
  · have tc_1 : ¬ (q.1 a0 6).toInt = 10 := fun z => c_1 (Int32.toInt_inj.mp z)
    refine lv_iconst (v := 0) hx hb dX6_brokenDigits_13 (by decide) ?_
    refine lv_aload_n hx hb dX6_brokenDigits_14 rfl (lv_at hl 0 rfl) ?_
    refine pl_get (D := (dC, dI)) (v := .int (q.1 a0 7)) (C := RX6) (T := TX6) (N := 8) hx hb hts iq_X6_brokenDigits_X6 hown hK hP ha0 (sg_F_o ka0 (by decide)) rfl 7 (by decide) (hts (.fieldLink RX6 100 "ClayAccounts$TabletReader" "ones" "I") (by decide +kernel)) (fun _ h9 => h9) (sg_fs_at (by decide)) dX6_brokenDigits_15 ?_
    refine lv_bipush (v := 10) hx hb dX6_brokenDigits_18 (by decide) ?_
    refine lv_icmp_ne (tgt := 27) hx hb dX6_brokenDigits_20 (by decide) (fun c_2 => ?_) (fun c_2 => ?_)
    · have tc_2 : ¬ (q.1 a0 7).toInt = 10 := fun z => c_2 (Int32.toInt_inj.mp z)
      refine lv_iconst (v := 0) hx hb dX6_brokenDigits_27 (by decide) ?_
      refine lv_iadd hx hb dX6_brokenDigits_28 ?_
      refine lv_topi (fun v_3 ev_3 => ?_)
      exact W.iret (v := v_3) hx hb hr (fun t ht hW => ⟨⟨v_3, q, rfl, ⟨hV, hF⟩, by unfold sx_at; rw [ht]; exact hP⟩, hS.F ht⟩) hS.2.2 dX6_brokenDigits_29
    · have tc_2 : (q.1 a0 7).toInt = 10 := congrArg Int32.toInt c_2
      refine lv_iconst (v := 1) hx hb dX6_brokenDigits_23 (by decide) ?_
      refine lv_goto (tgt := 28) hx hb dX6_brokenDigits_24 (by decide) ?_
      refine lv_iadd hx hb dX6_brokenDigits_28 ?_
      refine lv_topi (fun v_4 ev_4 => ?_)
      exact W.iret (v := v_4) hx hb hr (fun t ht hW => ⟨⟨v_4, q, rfl, ⟨hV, hF⟩, by unfold sx_at; rw [ht]; exact hP⟩, hS.F ht⟩) hS.2.2 dX6_brokenDigits_29
  · have tc_1 : (q.1 a0 6).toInt = 10 := congrArg Int32.toInt c_1
    refine lv_iconst (v := 1) hx hb dX6_brokenDigits_9 (by decide) ?_
    refine lv_goto (tgt := 14) hx hb dX6_brokenDigits_10 (by decide) ?_
    refine lv_aload_n hx hb dX6_brokenDigits_14 rfl (lv_at hl 0 rfl) ?_
    refine pl_get (D := (dC, dI)) (v := .int (q.1 a0 7)) (C := RX6) (T := TX6) (N := 8) hx hb hts iq_X6_brokenDigits_X6 hown hK hP ha0 (sg_F_o ka0 (by decide)) rfl 7 (by decide) (hts (.fieldLink RX6 100 "ClayAccounts$TabletReader" "ones" "I") (by decide +kernel)) (fun _ h9 => h9) (sg_fs_at (by decide)) dX6_brokenDigits_15 ?_
    refine lv_bipush (v := 10) hx hb dX6_brokenDigits_18 (by decide) ?_
    refine lv_icmp_ne (tgt := 27) hx hb dX6_brokenDigits_20 (by decide) (fun c_5 => ?_) (fun c_5 => ?_)
    · have tc_5 : ¬ (q.1 a0 7).toInt = 10 := fun z => c_5 (Int32.toInt_inj.mp z)
      refine lv_iconst (v := 0) hx hb dX6_brokenDigits_27 (by decide) ?_
      refine lv_iadd hx hb dX6_brokenDigits_28 ?_
      refine lv_topi (fun v_6 ev_6 => ?_)
      exact W.iret (v := v_6) hx hb hr (fun t ht hW => ⟨⟨v_6, q, rfl, ⟨hV, hF⟩, by unfold sx_at; rw [ht]; exact hP⟩, hS.F ht⟩) hS.2.2 dX6_brokenDigits_29
    · have tc_5 : (q.1 a0 7).toInt = 10 := congrArg Int32.toInt c_5
      refine lv_iconst (v := 1) hx hb dX6_brokenDigits_23 (by decide) ?_
      refine lv_goto (tgt := 28) hx hb dX6_brokenDigits_24 (by decide) ?_
      refine lv_iadd hx hb dX6_brokenDigits_28 ?_
      refine lv_topi (fun v_7 ev_7 => ?_)
      exact W.iret (v := v_7) hx hb hr (fun t ht hW => ⟨⟨v_7, q, rfl, ⟨hV, hF⟩, by unfold sx_at; rw [ht]; exact hP⟩, hS.F ht⟩) hS.2.2 dX6_brokenDigits_29
set_option maxHeartbeats 4000000 in
set_option maxRecDepth 100000 in
theorem k_X6_isLesser (l : Launch) (dC : Nat → ClassId) (dI : Nat → Nat → Nat) (h : Sh) (L : List Nat) (hN : sx_nd L) (q : Sg) (hV : sx_V h L q) (n1 : Int32) (n2 : Int32)  : CMi l dC dI h L yX6_isLesser wsX6_isLesser ({ frames := 1, cells := 0, slots := 0, locals := 20 } : Room) q [.int n1, .int n2] (fun r q' => sx_V h L q' ∧ sx_fr L (fun a => False) q q' ∧ (r = 0 ∨ r = 1)) := by
  intro sz
  refine Met.ofW (cc := cX6_isLesser) (maxL := 2) (ret := (some .boolean)) (by decide) rfl ?_
  intro p e s m args below meth c s₁ B hml hv
  obtain ⟨rfl, hsz, hP, hK⟩ := hv
  have hx := B.exec
  have hb := B.bytes
  have hr := B.returns
  have hts := atoms_spec (ws := wsX6_isLesser) B.pre
  have hown : s.vm.findClass RX6 = some m.cls := findClass_of_methodNamed B.named
  have hlocks := B.notSynchronized
  subst hsz
  have hD : ∀ g, va_D (AL L s.heap.size) (va_pl L g) := AL_D hN s.heap.size
  have hS : va_S (AL L s.heap.size) s.heap s.heap [] := va_S.rf
  have hF : sx_fr L (fun a => False) q q := sx_fr.rf
  have hl := lv_entry ([.int n1, .int n2]) (n := 2) (Nat.le_of_ble_eq_true rfl)
  rw [lg_entry_eq]
  generalize (lg_sl ([.int n1, .int n2]) ++ List.replicate (2 - (lg_sl ([.int n1, .int n2])).length) Slot.unset).toArray = ls at hl ⊢
  have hl : lv_has ls 2 [(0, .int n1), (1, .int n2)] := hl
  refine lv_iload_n hx hb dX6_isLesser_0 rfl (lv_at hl 0 rfl) ?_
  refine lv_iload_n hx hb dX6_isLesser_1 rfl (lv_at hl 1 rfl) ?_
  refine lv_icmp_ge (tgt := 20) hx hb dX6_isLesser_2 (by decide) (fun c_1 => ?_) (fun c_1 => ?_)
  · have tc_1 : n2.toInt ≤ n1.toInt := zx_le.mp c_1
    refine lv_iconst (v := 0) hx hb dX6_isLesser_20 (by decide) ?_
    exact W.zret (v := 0) hx hb hr rfl (fun t ht hW => ⟨⟨0, q, rfl, ⟨hV, hF, by first | exact Or.inl rfl | exact Or.inr rfl | assumption⟩, by unfold sx_at; rw [ht]; exact hP⟩, hS.F ht⟩) hS.2.2 dX6_isLesser_21
  · have tc_1 : ¬ n2.toInt ≤ n1.toInt := fun z => c_1 (zx_le.mpr z)
    refine lv_iload_n hx hb dX6_isLesser_5 rfl (lv_at hl 0 rfl) ?_
    refine pl_callSi (As := [.int n1]) (rest := []) ⟨hx, hb, hml, hown, hts⟩ (k_X9_systemOf l dC dI h L hN q hV n1 ) (va_cwS 1 hts gX6_isLesser_X9_systemOf rfl rfl rfl (by decide +kernel) ⟨Nat.le_of_ble_eq_true rfl, Nat.le_of_ble_eq_true rfl⟩) hK hP hS rfl hl.1 rfl (Nat.le_of_ble_eq_true rfl) dX6_isLesser_6 ⟨Nat.zero_le _, Nat.zero_le _⟩ (fun r_3 q_2 H locs hw hP hS => ?_)
    obtain ⟨hV, hF2⟩ := hw
    have hF : sx_fr L (fun a => False) q q_2 := hF.tr (hF2.mono (fun a z => by first | exact z | exact z.elim | exact Or.inl z | exact Or.inr z | (simp_all; done)))
    refine lv_iload_n hx hb dX6_isLesser_9 rfl (lv_at hl 1 rfl) ?_
    refine pl_callSi (As := [.int n2]) (rest := [.int r_3]) ⟨hx, hb, hml, hown, hts⟩ (k_X9_systemOf l dC dI h L hN q_2 hV n2 ) (va_cwS 1 hts gX6_isLesser_X9_systemOf rfl rfl rfl (by decide +kernel) ⟨Nat.le_of_ble_eq_true rfl, Nat.le_of_ble_eq_true rfl⟩) hK hP hS rfl hl.1 rfl (Nat.le_of_ble_eq_true rfl) dX6_isLesser_10 ⟨Nat.zero_le _, Nat.zero_le _⟩ (fun r_6 q_5 H locs hw hP hS => ?_)
    obtain ⟨hV, hF2⟩ := hw
    have hF : sx_fr L (fun a => False) q q_5 := hF.tr (hF2.mono (fun a z => by first | exact z | exact z.elim | exact Or.inl z | exact Or.inr z | (simp_all; done)))
    refine lv_icmp_ne (tgt := 20) hx hb dX6_isLesser_13 (by decide) (fun c_8 => ?_) (fun c_8 => ?_)
    · have tc_8 : ¬ r_3.toInt = r_6.toInt := fun z => c_8 (Int32.toInt_inj.mp z)
      refine lv_iconst (v := 0) hx hb dX6_isLesser_20 (by decide) ?_
      exact W.zret (v := 0) hx hb hr rfl (fun t ht hW => ⟨⟨0, q_5, rfl, ⟨hV, hF, by first | exact Or.inl rfl | exact Or.inr rfl | assumption⟩, by unfold sx_at; rw [ht]; exact hP⟩, hS.F ht⟩) hS.2.2 dX6_isLesser_21
    · have tc_8 : r_3.toInt = r_6.toInt := congrArg Int32.toInt c_8
      refine lv_iconst (v := 1) hx hb dX6_isLesser_16 (by decide) ?_
      refine lv_goto (tgt := 21) hx hb dX6_isLesser_17 (by decide) ?_
      exact W.zret (v := 1) hx hb hr rfl (fun t ht hW => ⟨⟨1, q_5, rfl, ⟨hV, hF, by first | exact Or.inl rfl | exact Or.inr rfl | assumption⟩, by unfold sx_at; rw [ht]; exact hP⟩, hS.F ht⟩) hS.2.2 dX6_isLesser_21
theorem iq_X11_isTablet_X11 : ∀ w ∈ wsX110, w ∈ wsX11_isTablet := fun _ h => List.mem_cons_of_mem _ (List.mem_append_right _ h)
set_option maxHeartbeats 4000000 in
set_option maxRecDepth 100000 in
theorem k_X11_isTablet (l : Launch) (dC : Nat → ClassId) (dI : Nat → Nat → Nat) (h : Sh) (L : List Nat) (hN : sx_nd L) (q : Sg) (hV : sx_V h L q) {a0 : Nat} (ha0 : a0 ∈ L) (ka0 : h.1 a0 = 11) (n1 : Int32)  : CMi l dC dI h L yX11_isTablet wsX11_isTablet ({ frames := 0, cells := 0, slots := 0, locals := 0 } : Room) q [.ref a0, .int n1] (fun r q' => sx_V h L q' ∧ sx_fr L (fun a => False) q q' ∧ (r = 0 ∨ r = 1)) := by
  intro sz
  refine Met.ofW (cc := cX11_isTablet) (maxL := 2) (ret := (some .boolean)) (by decide) rfl ?_
  intro p e s m args below meth c s₁ B hml hv
  obtain ⟨rfl, hsz, hP, hK⟩ := hv
  have hx := B.exec
  have hb := B.bytes
  have hr := B.returns
  have hts := atoms_spec (ws := wsX11_isTablet) B.pre
  have hown : s.vm.findClass RX11 = some m.cls := findClass_of_methodNamed B.named
  have hlocks := B.notSynchronized
  subst hsz
  have hD : ∀ g, va_D (AL L s.heap.size) (va_pl L g) := AL_D hN s.heap.size
  have hS : va_S (AL L s.heap.size) s.heap s.heap [] := va_S.rf
  have hF : sx_fr L (fun a => False) q q := sx_fr.rf
  have hl := lv_entry ([.ref a0, .int n1]) (n := 2) (Nat.le_of_ble_eq_true rfl)
  rw [lg_entry_eq]
  generalize (lg_sl ([.ref a0, .int n1]) ++ List.replicate (2 - (lg_sl ([.ref a0, .int n1])).length) Slot.unset).toArray = ls at hl ⊢
  have hl : lv_has ls 2 [(0, .ref a0), (1, .int n1)] := hl
  refine lv_iload_n hx hb dX11_isTablet_0 rfl (lv_at hl 1 rfl) ?_
  refine lv_if_lt (tgt := 16) hx hb dX11_isTablet_1 (by decide) (fun c_1 => ?_) (fun c_1 => ?_)
  · have tc_1 : n1.toInt < 0 := zx_lt.mp c_1
    refine lv_iconst (v := 0) hx hb dX11_isTablet_16 (by decide) ?_
    exact W.zret (v := 0) hx hb hr rfl (fun t ht hW => ⟨⟨0, q, rfl, ⟨hV, hF, by first | exact Or.inl rfl | exact Or.inr rfl | assumption⟩, by unfold sx_at; rw [ht]; exact hP⟩, hS.F ht⟩) hS.2.2 dX11_isTablet_17
  · have tc_1 : ¬ n1.toInt < 0 := fun z => c_1 (zx_lt.mpr z)
    refine lv_iload_n hx hb dX11_isTablet_4 rfl (lv_at hl 1 rfl) ?_
    refine lv_aload_n hx hb dX11_isTablet_5 rfl (lv_at hl 0 rfl) ?_
    refine pl_get (D := (dC, dI)) (v := .int (q.1 a0 13)) (C := RX11) (T := TX11) (N := 16) hx hb hts iq_X11_isTablet_X11 hown hK hP ha0 (sg_F_o ka0 (by decide)) rfl 13 (by decide) (hts (.fieldLink RX11 90 "ClayAccounts" "tabletCount" "I") (by decide +kernel)) (fun _ h9 => h9) (sg_fs_at (by decide)) dX11_isTablet_6 ?_
    have g_2 := hV.int ha0 13
    rw [ka0] at g_2
    have g_2 : sx_in (q.1 a0 13) 0 8 := g_2
    unfold sx_in at g_2
    refine lv_icmp_ge (tgt := 16) hx hb dX11_isTablet_9 (by decide) (fun c_3 => ?_) (fun c_3 => ?_)
    · have tc_3 : (q.1 a0 13).toInt ≤ n1.toInt := zx_le.mp c_3
      refine lv_iconst (v := 0) hx hb dX11_isTablet_16 (by decide) ?_
      exact W.zret (v := 0) hx hb hr rfl (fun t ht hW => ⟨⟨0, q, rfl, ⟨hV, hF, by first | exact Or.inl rfl | exact Or.inr rfl | assumption⟩, by unfold sx_at; rw [ht]; exact hP⟩, hS.F ht⟩) hS.2.2 dX11_isTablet_17
    · have tc_3 : ¬ (q.1 a0 13).toInt ≤ n1.toInt := fun z => c_3 (zx_le.mpr z)
      refine lv_iconst (v := 1) hx hb dX11_isTablet_12 (by decide) ?_
      refine lv_goto (tgt := 17) hx hb dX11_isTablet_13 (by decide) ?_
      exact W.zret (v := 1) hx hb hr rfl (fun t ht hW => ⟨⟨1, q, rfl, ⟨hV, hF, by first | exact Or.inl rfl | exact Or.inr rfl | assumption⟩, by unfold sx_at; rw [ht]; exact hP⟩, hS.F ht⟩) hS.2.2 dX11_isTablet_17
