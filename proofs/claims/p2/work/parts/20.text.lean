theorem in_X7_clear : ∀ w ∈ wsX70, w ∈ wsX7_clear := fun _ h => List.mem_cons_of_mem _ (List.mem_append_right _ h)
theorem in_X7_byteAt : ∀ w ∈ wsX70, w ∈ wsX7_byteAt := fun _ h => List.mem_cons_of_mem _ (List.mem_append_right _ h)
theorem in_X7_put : ∀ w ∈ wsX70, w ∈ wsX7_put := fun _ h => List.mem_cons_of_mem _ (List.mem_append_right _ h)
theorem zx_and (x : Int32) : sx_in (x &&& 255) (-1) 255 := by
  obtain ⟨j, hj, e⟩ := pk_andE x (m := 255) 8 (by decide)
  rw [e]
  unfold sx_in
  rw [nI_toInt (by omega)]
  omega
theorem zx_lt {a b : Int32} : a < b ↔ a.toInt < b.toInt := Int32.lt_iff_toInt_lt
theorem zx_le {a b : Int32} : a ≤ b ↔ a.toInt ≤ b.toInt := Int32.le_iff_toInt_le
theorem zx_len {n : Nat} (hn : n ≤ 5000) : (Int32.ofNat n).toInt = (n : Int) := nI_toInt (by omega)
theorem zx_inc {x : Int32} (h1 : 0 ≤ x.toInt) (h2 : x.toInt ≤ 5000) : (x + 1).toInt = x.toInt + 1 := by
  rw [Int32.toInt_add]
  show (x.toInt + 1).bmod (2 ^ 32) = x.toInt + 1
  rw [Int.bmod_eq_of_le (by omega) (by omega)]
set_option maxHeartbeats 4000000 in
set_option maxRecDepth 100000 in
theorem k_clear (l : Launch) (dC : Nat → ClassId) (dI : Nat → Nat → Nat) (h : Sh) (L : List Nat) (hN : sx_nd L) (q : Sg) (hV : sx_V h L q) {a0 : Nat} (ha0 : a0 ∈ L) (ka0 : h.1 a0 = 7) : CMv l dC dI h L yX7_clear wsX7_clear ({ frames := 0, cells := 0, slots := 0, locals := 0 } : Room) q [.ref a0] (fun q' => q' = sg_pI q a0 1 0) := by
  intro sz
  refine Met.ofW (cc := cX7_clear) (maxL := 1) (ret := none) (by decide) rfl ?_
  intro p e s m args below meth c s₁ B hml hv
  obtain ⟨rfl, hsz, hP, hK⟩ := hv
  have hx := B.exec
  have hb := B.bytes
  have hr := B.returns
  have hts := atoms_spec (ws := wsX7_clear) B.pre
  have hown : s.vm.findClass RX7 = some m.cls := findClass_of_methodNamed B.named
  have hlocks := B.notSynchronized
  subst hsz
  have hD : ∀ g, va_D (AL L s.heap.size) (va_pl L g) := AL_D hN s.heap.size
  have hS : va_S (AL L s.heap.size) s.heap s.heap [] := va_S.rf
  have hl := lv_entry ([.ref a0]) (n := 1) (Nat.le_of_ble_eq_true rfl)
  rw [lg_entry_eq]
  generalize (lg_sl ([.ref a0]) ++ List.replicate (1 - (lg_sl ([.ref a0])).length) Slot.unset).toArray = ls at hl ⊢
  have hl : lv_has ls 1 [(0, .ref a0)] := hl
  refine lv_aload_n hx hb dX7_clear_0 rfl (lv_at hl 0 rfl) ?_
  refine lv_iconst (v := 0) hx hb dX7_clear_1 (by decide) ?_
  refine pl_put (D := (dC, dI)) (ty := .int) (C := RX7) (T := TX7) (N := 2) hx hb hts in_X7_clear tyX7 tyX7_ok nmX7 hown hK hP hD hS ha0 (sg_F_o ka0 (by decide)) rfl 1 (by decide) (hts (.fieldLink RX7 21 "ClayAccounts$Text" "size" "I") (by decide +kernel)) (fun _ h9 => h9) rfl (by decide +kernel) rfl rfl (by rw [sg_fs_len]; decide) dX7_clear_2 (fun H locs hP hS => ?_)
  rw [sg_upI ka0 (by decide) (by decide) (Or.inl rfl)] at hP
  exact W.vret hx hb hr (fun t ht hW => ⟨⟨_, rfl, rfl, by unfold sx_at; rw [ht]; exact hP⟩, hS.F ht⟩) hS.2.2 dX7_clear_5
set_option maxHeartbeats 4000000 in
set_option maxRecDepth 100000 in
theorem k_byteAt (l : Launch) (dC : Nat → ClassId) (dI : Nat → Nat → Nat) (h : Sh) (L : List Nat) (hN : sx_nd L) (q : Sg) (hV : sx_V h L q) {a0 : Nat} (ha0 : a0 ∈ L) (ka0 : h.1 a0 = 7) (n1 : Int32) : CMi l dC dI h L yX7_byteAt wsX7_byteAt ({ frames := 0, cells := 0, slots := 0, locals := 0 } : Room) q [.ref a0, .int n1] (fun r q' => q' = q ∧ sx_in r (-1) 255) := by
  intro sz
  refine Met.ofW (cc := cX7_byteAt) (maxL := 2) (ret := (some .int)) (by decide) rfl ?_
  intro p e s m args below meth c s₁ B hml hv
  obtain ⟨rfl, hsz, hP, hK⟩ := hv
  have hx := B.exec
  have hb := B.bytes
  have hr := B.returns
  have hts := atoms_spec (ws := wsX7_byteAt) B.pre
  have hown : s.vm.findClass RX7 = some m.cls := findClass_of_methodNamed B.named
  have hlocks := B.notSynchronized
  subst hsz
  have hD : ∀ g, va_D (AL L s.heap.size) (va_pl L g) := AL_D hN s.heap.size
  have hS : va_S (AL L s.heap.size) s.heap s.heap [] := va_S.rf
  have hl := lv_entry ([.ref a0, .int n1]) (n := 2) (Nat.le_of_ble_eq_true rfl)
  rw [lg_entry_eq]
  generalize (lg_sl ([.ref a0, .int n1]) ++ List.replicate (2 - (lg_sl ([.ref a0, .int n1])).length) Slot.unset).toArray = ls at hl ⊢
  have hl : lv_has ls 2 [(0, .ref a0), (1, .int n1)] := hl
  refine lv_iload_n hx hb dX7_byteAt_0 rfl (lv_at hl 1 rfl) ?_
  refine lv_if_lt (tgt := 25) hx hb dX7_byteAt_1 (by decide) (fun c1 => ?_) (fun c1 => ?_)
  · refine lv_iconst (v := (-1)) hx hb dX7_byteAt_25 (by decide) ?_
    exact W.iret (v := (-1)) hx hb hr (fun t ht hW => ⟨⟨(-1), q, rfl, ⟨rfl, by unfold sx_in; decide⟩, by unfold sx_at; rw [ht]; exact hP⟩, hS.F ht⟩) hS.2.2 dX7_byteAt_26
  · refine lv_iload_n hx hb dX7_byteAt_4 rfl (lv_at hl 1 rfl) ?_
    refine lv_aload_n hx hb dX7_byteAt_5 rfl (lv_at hl 0 rfl) ?_
    refine pl_get (D := (dC, dI)) (v := .int (q.1 a0 1)) (C := RX7) (T := TX7) (N := 2) hx hb hts in_X7_byteAt hown hK hP ha0 (sg_F_o ka0 (by decide)) rfl 1 (by decide) (hts (.fieldLink RX7 21 "ClayAccounts$Text" "size" "I") (by decide +kernel)) (fun _ h9 => h9) (sg_fs_at (by decide)) dX7_byteAt_6 ?_
    refine lv_icmp_ge (tgt := 25) hx hb dX7_byteAt_9 (by decide) (fun c2 => ?_) (fun c2 => ?_)
    · refine lv_iconst (v := (-1)) hx hb dX7_byteAt_25 (by decide) ?_
      exact W.iret (v := (-1)) hx hb hr (fun t ht hW => ⟨⟨(-1), q, rfl, ⟨rfl, by unfold sx_in; decide⟩, by unfold sx_at; rw [ht]; exact hP⟩, hS.F ht⟩) hS.2.2 dX7_byteAt_26
    · refine lv_aload_n hx hb dX7_byteAt_12 rfl (lv_at hl 0 rfl) ?_
      refine pl_get (D := (dC, dI)) (v := .ref (q.2.2.1 a0 0)) (C := RX7) (T := TX7) (N := 2) hx hb hts in_X7_byteAt hown hK hP ha0 (sg_F_o ka0 (by decide)) rfl 0 (by decide) (hts (.fieldLink RX7 15 "ClayAccounts$Text" "bytes" "[B") (by decide +kernel)) (fun _ h9 => h9) (sg_fs_at (by decide)) dX7_byteAt_13 ?_
      refine lv_iload_n hx hb dX7_byteAt_16 rfl (lv_at hl 1 rfl) ?_
      obtain ⟨hr1, kr1, -⟩ := hV.ref (k := 0) ha0 (by rw [ka0]; decide)
      rw [ka0] at kr1
      have kr1 : h.1 (q.2.2.1 a0 0) = 300 := kr1
      have hi := hV.int ha0 1
      rw [ka0] at hi
      have hi : sx_in (q.1 a0 1) 0 (h.2.1 (q.2.2.1 a0 0) : Int) := hi
      have c1 : ¬ n1.toInt < 0 := fun z => c1 (zx_lt.mpr z)
      have c2 : ¬ (q.1 a0 1).toInt ≤ n1.toInt := fun z => c2 (zx_le.mpr z)
      unfold sx_in at hi
      refine pl_bald hx hb hK hP hr1 2 (sg_F_b kr1 (by decide) (by decide)) rfl (vp_in_iff.mpr ⟨by omega, by omega⟩) dX7_byteAt_17 ?_
      refine lv_sipush (v := 255) hx hb dX7_byteAt_18 (by decide) ?_
      refine lv_iand hx hb dX7_byteAt_21 ?_
      refine lv_goto (tgt := 26) hx hb dX7_byteAt_22 (by decide) ?_
      exact W.iret (v := _) hx hb hr (fun t ht hW => ⟨⟨_, q, rfl, ⟨rfl, zx_and _⟩, by unfold sx_at; rw [ht]; exact hP⟩, hS.F ht⟩) hS.2.2 dX7_byteAt_26
set_option maxHeartbeats 4000000 in
set_option maxRecDepth 100000 in
theorem k_put (l : Launch) (dC : Nat → ClassId) (dI : Nat → Nat → Nat) (h : Sh) (L : List Nat) (hN : sx_nd L) (q : Sg) (hV : sx_V h L q) {a0 : Nat} (ha0 : a0 ∈ L) (ka0 : h.1 a0 = 7) (n1 : Int32) : CMv l dC dI h L yX7_put wsX7_put ({ frames := 0, cells := 0, slots := 0, locals := 0 } : Room) q [.ref a0, .int n1] (fun q' => sx_V h L q' ∧ ∃ (g : Nat → Int32) (v : Int32), q' = q ∨ q' = sg_pI (sg_pG q (q.2.2.1 a0 0) g) a0 1 v ∧ v = q.1 a0 1 + 1) := by
  intro sz
  refine Met.ofW (cc := cX7_put) (maxL := 2) (ret := none) (by decide) rfl ?_
  intro p e s m args below meth c s₁ B hml hv
  obtain ⟨rfl, hsz, hP, hK⟩ := hv
  have hx := B.exec
  have hb := B.bytes
  have hr := B.returns
  have hts := atoms_spec (ws := wsX7_put) B.pre
  have hown : s.vm.findClass RX7 = some m.cls := findClass_of_methodNamed B.named
  have hlocks := B.notSynchronized
  subst hsz
  have hD : ∀ g, va_D (AL L s.heap.size) (va_pl L g) := AL_D hN s.heap.size
  have hS : va_S (AL L s.heap.size) s.heap s.heap [] := va_S.rf
  have hl := lv_entry ([.ref a0, .int n1]) (n := 2) (Nat.le_of_ble_eq_true rfl)
  rw [lg_entry_eq]
  generalize (lg_sl ([.ref a0, .int n1]) ++ List.replicate (2 - (lg_sl ([.ref a0, .int n1])).length) Slot.unset).toArray = ls at hl ⊢
  have hl : lv_has ls 2 [(0, .ref a0), (1, .int n1)] := hl
  refine lv_aload_n hx hb dX7_put_0 rfl (lv_at hl 0 rfl) ?_
  refine pl_get (D := (dC, dI)) (v := .int (q.1 a0 1)) (C := RX7) (T := TX7) (N := 2) hx hb hts in_X7_put hown hK hP ha0 (sg_F_o ka0 (by decide)) rfl 1 (by decide) (hts (.fieldLink RX7 21 "ClayAccounts$Text" "size" "I") (by decide +kernel)) (fun _ h9 => h9) (sg_fs_at (by decide)) dX7_put_1 ?_
  refine lv_aload_n hx hb dX7_put_4 rfl (lv_at hl 0 rfl) ?_
  refine pl_get (D := (dC, dI)) (v := .ref (q.2.2.1 a0 0)) (C := RX7) (T := TX7) (N := 2) hx hb hts in_X7_put hown hK hP ha0 (sg_F_o ka0 (by decide)) rfl 0 (by decide) (hts (.fieldLink RX7 15 "ClayAccounts$Text" "bytes" "[B") (by decide +kernel)) (fun _ h9 => h9) (sg_fs_at (by decide)) dX7_put_5 ?_
  obtain ⟨hr1, kr1, -⟩ := hV.ref (k := 0) ha0 (by rw [ka0]; decide)
  rw [ka0] at kr1
  have kr1 : h.1 (q.2.2.1 a0 0) = 300 := kr1
  have hi := hV.int ha0 1
  rw [ka0] at hi
  have hi : sx_in (q.1 a0 1) 0 (h.2.1 (q.2.2.1 a0 0) : Int) := hi
  unfold sx_in at hi
  have hn := hV.len hr1
  refine pl_alen hx hb hK hP hr1 2 (sg_F_b kr1 (by decide) (by decide)) rfl rfl dX7_put_8 ?_
  refine lv_icmp_ge (tgt := 33) hx hb dX7_put_9 (by decide) (fun c2 => ?_) (fun c2 => ?_)
  · exact W.vret hx hb hr (fun t ht hW => ⟨⟨q, rfl, ⟨hV, fun _ => 0, 0, Or.inl rfl⟩, by unfold sx_at; rw [ht]; exact hP⟩, hS.F ht⟩) hS.2.2 dX7_put_33
  · have c2 : ¬ (Int32.ofNat (h.2.1 (q.2.2.1 a0 0))).toInt ≤ (q.1 a0 1).toInt := fun z => c2 (zx_le.mpr z)
    rw [zx_len hn] at c2
    refine lv_aload_n hx hb dX7_put_12 rfl (lv_at hl 0 rfl) ?_
    refine pl_get (D := (dC, dI)) (v := .ref (q.2.2.1 a0 0)) (C := RX7) (T := TX7) (N := 2) hx hb hts in_X7_put hown hK hP ha0 (sg_F_o ka0 (by decide)) rfl 0 (by decide) (hts (.fieldLink RX7 15 "ClayAccounts$Text" "bytes" "[B") (by decide +kernel)) (fun _ h9 => h9) (sg_fs_at (by decide)) dX7_put_13 ?_
    refine lv_aload_n hx hb dX7_put_16 rfl (lv_at hl 0 rfl) ?_
    refine pl_get (D := (dC, dI)) (v := .int (q.1 a0 1)) (C := RX7) (T := TX7) (N := 2) hx hb hts in_X7_put hown hK hP ha0 (sg_F_o ka0 (by decide)) rfl 1 (by decide) (hts (.fieldLink RX7 21 "ClayAccounts$Text" "size" "I") (by decide +kernel)) (fun _ h9 => h9) (sg_fs_at (by decide)) dX7_put_17 ?_
    refine lv_iload_n hx hb dX7_put_20 rfl (lv_at hl 1 rfl) ?_
    refine lv_i2b hx hb dX7_put_21 rfl ?_
    refine pl_bast hx hb hK hP hD hS hr1 2 (sg_F_b kr1 (by decide) (by decide)) rfl (vp_in_iff.mpr ⟨by omega, by omega⟩) dX7_put_22 (fun H locs hP hS => ?_)
    rw [sg_upB kr1 (by decide) (by decide)] at hP
    generalize upd (q.2.2.2.1 (q.2.2.1 a0 0)) (q.1 a0 1).toNatClampNeg (vp_nar .byte n1.toInt8.toInt32) = g at hP
    have hV1 : sx_V h L (sg_pG q (q.2.2.1 a0 0) g) := hV.pG (fun z => absurd (kr1.symm.trans z) (by decide))
    refine lv_aload_n hx hb dX7_put_23 rfl (lv_at hl 0 rfl) ?_
    refine lv_dup hx hb dX7_put_24 rfl ?_
    refine pl_get (D := (dC, dI)) (v := .int (q.1 a0 1)) (C := RX7) (T := TX7) (N := 2) hx hb hts in_X7_put hown hK hP ha0 (sg_F_o ka0 (by decide)) rfl 1 (by decide) (hts (.fieldLink RX7 21 "ClayAccounts$Text" "size" "I") (by decide +kernel)) (fun _ h9 => h9) (sg_fs_at (by decide)) dX7_put_25 ?_
    refine lv_iconst (v := 1) hx hb dX7_put_28 (by decide) ?_
    refine lv_iadd hx hb dX7_put_29 ?_
    refine pl_put (D := (dC, dI)) (ty := .int) (C := RX7) (T := TX7) (N := 2) hx hb hts in_X7_put tyX7 tyX7_ok nmX7 hown hK hP hD hS ha0 (sg_F_o ka0 (by decide)) rfl 1 (by decide) (hts (.fieldLink RX7 21 "ClayAccounts$Text" "size" "I") (by decide +kernel)) (fun _ h9 => h9) rfl (by decide +kernel) rfl rfl (by rw [sg_fs_len]; decide) dX7_put_30 (fun H locs hP hS => ?_)
    rw [sg_upI ka0 (by decide) (by decide) (Or.inl rfl)] at hP
    have hV2 : sx_V h L (sg_pI (sg_pG q (q.2.2.1 a0 0) g) a0 1 (q.1 a0 1 + 1)) := hV1.pI (by
      rw [ka0]
      show sx_in (q.1 a0 1 + 1) 0 (h.2.1 (q.2.2.1 a0 0) : Int)
      unfold sx_in
      rw [zx_inc (by omega) (by omega)]
      omega)
    exact W.vret hx hb hr (fun t ht hW => ⟨⟨_, rfl, ⟨hV2, g, _, Or.inr ⟨rfl, rfl⟩⟩, by unfold sx_at; rw [ht]; exact hP⟩, hS.F ht⟩) hS.2.2 dX7_put_33
