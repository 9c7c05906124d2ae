theorem in_X7_put_X7 : ∀ w ∈ wsX70, w ∈ wsX7_put := fun _ h => List.mem_cons_of_mem _ (List.mem_append_right _ h)
set_option maxHeartbeats 4000000 in
set_option maxRecDepth 100000 in
theorem c_put_0 (l : Launch) (dC : Nat → ClassId) (dI : Nat → Nat → Nat) (h0 : Nat) (ab : Nat) (kb : ClassId) (fb : Nat → Int32) (o9 : Int32) (sz : Nat)  : Met l yX7_put wsX7_put ({ frames := 0, cells := 0, slots := 0, locals := 0 } : Room) (va_Pc [.ref h0, .int o9] (fun U => U.heap.size = sz ∧ zz_X U ∧ va_P (dC, dI) vwCl [(h0, .inr (7, [.ref ab, .int 0])), (ab, .inl (kb, 440, .inl fb))] U.heap ∧ va_K (dC, dI) vwCl [(kb, .byte)] U ∧ va_D (fun _ => True) [(h0, .inr (7, [.ref ab, .int 0])), (ab, .inl (kb, 440, .inl fb))])) (va_Qv (fun (_ : Unit) => True) (fun (_ : Unit) (t : State) => ∃ (fc : Nat → Int32), va_P (dC, dI) vwCl [(h0, .inr (7, [.ref ab, .int 1])), (ab, .inl (kb, 440, .inl fc))] t.heap ∧ va_K (dC, dI) vwCl [(kb, .byte)] t ∧ va_D (va_A [(h0, .inr (7, [.ref ab, .int 0])), (ab, .inl (kb, 440, .inl fb))] sz) [(h0, .inr (7, [.ref ab, .int 1])), (ab, .inl (kb, 440, .inl fc))]) (va_A [(h0, .inr (7, [.ref ab, .int 0])), (ab, .inl (kb, 440, .inl fb))] sz)) 0 0 (va_A [(h0, .inr (7, [.ref ab, .int 0])), (ab, .inl (kb, 440, .inl fb))] sz) := by
  refine Met.ofW (cc := cX7_put) (maxL := 2) (ret := none) (by decide) rfl ?_
  intro p e s m args below meth c s₁ B hml hv
  obtain ⟨rfl, hsz, hzX, hP, hK, hD0⟩ := hv
  have hx := B.exec
  have hb := B.bytes
  have hr := B.returns
  have hts := atoms_spec (ws := wsX7_put) B.pre
  have hown : s.vm.findClass RX7 = some m.cls := findClass_of_methodNamed B.named
  have hlocks := B.notSynchronized
  subst hsz
  have hD := hD0.self (sz := s.heap.size)
  generalize hAe : va_A [(h0, .inr (7, [.ref ab, .int 0])), (ab, .inl (kb, 440, .inl fb))] s.heap.size = A at  hD ⊢
  have hA : ∀ q : Nat, s.heap.size ≤ q → A q := fun q h => by rw [← hAe]; exact Or.inr h
  have hS : va_S A s.heap s.heap [] := va_S.rf
  have hP : va_P (dC, dI) vwCl [(h0, .inr (7, [.ref ab, .int 0])), (ab, .inl (kb, 440, .inl fb))] s.heap := hP
  have hl := lv_entry ([.ref h0, .int o9]) (n := 2) (Nat.le_of_ble_eq_true rfl)
  rw [lg_entry_eq]
  generalize (lg_sl ([.ref h0, .int o9]) ++ List.replicate (2 - (lg_sl ([.ref h0, .int o9])).length) Slot.unset).toArray = ls at hl ⊢
  have hl : lv_has ls 2 [(0, .ref h0), (1, .int o9)] := hl
  skip
  refine lv_aload_n hx hb dX7_put_0 rfl (lv_at hl 0 rfl) ?_
  refine va_get (D := (dC, dI)) (ci := 7) (v := .int 0) (C := RX7) (T := TX7) (N := 2) hx hb hts in_X7_put_X7 hown hK hP 0 rfl rfl 1 (by decide) (hts (.fieldLink RX7 21 "ClayAccounts$Text" "size" "I") (by decide +kernel)) (fun _ h9 => h9) rfl dX7_put_1 ?_
  refine lv_aload_n hx hb dX7_put_4 rfl (lv_at hl 0 rfl) ?_
  refine va_get (D := (dC, dI)) (ci := 7) (v := .ref ab) (C := RX7) (T := TX7) (N := 2) hx hb hts in_X7_put_X7 hown hK hP 0 rfl rfl 0 (by decide) (hts (.fieldLink RX7 15 "ClayAccounts$Text" "bytes" "[B") (by decide +kernel)) (fun _ h9 => h9) rfl dX7_put_5 ?_
  refine va_alen (v := 440) hx hb hK hP 1 0 rfl rfl rfl dX7_put_8 ?_
  refine lv_icmp_ge (tgt := 33) hx hb dX7_put_9 (by decide) (fun c9 => absurd c9 (by decide)) (fun c9 => ?_)
  refine lv_aload_n hx hb dX7_put_12 rfl (lv_at hl 0 rfl) ?_
  refine va_get (D := (dC, dI)) (ci := 7) (v := .ref ab) (C := RX7) (T := TX7) (N := 2) hx hb hts in_X7_put_X7 hown hK hP 0 rfl rfl 0 (by decide) (hts (.fieldLink RX7 15 "ClayAccounts$Text" "bytes" "[B") (by decide +kernel)) (fun _ h9 => h9) rfl dX7_put_13 ?_
  refine lv_aload_n hx hb dX7_put_16 rfl (lv_at hl 0 rfl) ?_
  refine va_get (D := (dC, dI)) (ci := 7) (v := .int 0) (C := RX7) (T := TX7) (N := 2) hx hb hts in_X7_put_X7 hown hK hP 0 rfl rfl 1 (by decide) (hts (.fieldLink RX7 21 "ClayAccounts$Text" "size" "I") (by decide +kernel)) (fun _ h9 => h9) rfl dX7_put_17 ?_
  refine lv_iload_n hx hb dX7_put_20 rfl (lv_at hl 1 rfl) ?_
  refine lv_i2b hx hb dX7_put_21 rfl ?_
  refine lv_topi (fun v_1 ev_1 => ?_)
  refine va_bast hx hb hK hP hD hS 1 0 rfl rfl (show ¬ ((0 : Int32) < 0 ∨ 440 ≤ (0 : Int32).toNatClampNeg) by decide) dX7_put_22 (fun H locs hP hD hS => ?_)
  have hP : va_P (dC, dI) vwCl [(h0, .inr (7, [.ref ab, .int 0])), (ab, .inl (kb, 440, .inl (upd fb (0 : Int32).toNatClampNeg (vp_nar .byte v_1))))] H := hP
  have hD : va_D A [(h0, .inr (7, [.ref ab, .int 0])), (ab, .inl (kb, 440, .inl (upd fb (0 : Int32).toNatClampNeg (vp_nar .byte v_1))))] := hD
  generalize upd fb (0 : Int32).toNatClampNeg (vp_nar .byte v_1) = f_2 at hP hD
  refine lv_aload_n hx hb dX7_put_23 rfl (lv_at hl 0 rfl) ?_
  refine lv_dup hx hb dX7_put_24 rfl ?_
  refine va_get (D := (dC, dI)) (ci := 7) (v := .int 0) (C := RX7) (T := TX7) (N := 2) hx hb hts in_X7_put_X7 hown hK hP 0 rfl rfl 1 (by decide) (hts (.fieldLink RX7 21 "ClayAccounts$Text" "size" "I") (by decide +kernel)) (fun _ h9 => h9) rfl dX7_put_25 ?_
  refine lv_iconst (v := 1) hx hb dX7_put_28 (by decide) ?_
  refine lv_iadd hx hb dX7_put_29 ?_
  refine zz_top (y := 1) (by decide) ?_
  refine va_put (D := (dC, dI)) (ci := 7) (v := .int 1) (ty := .int) (C := RX7) (T := TX7) (N := 2) hx hb hts in_X7_put_X7 tyX7 tyX7_ok nmX7 hown hK hP hD hS 0 rfl rfl 1 (by decide) (hts (.fieldLink RX7 21 "ClayAccounts$Text" "size" "I") (by decide +kernel)) (fun _ h9 => h9) rfl (by decide +kernel) rfl rfl (Nat.le_of_ble_eq_true rfl) dX7_put_30 (fun H locs hP hD hS => ?_)
  have hP : va_P (dC, dI) vwCl [(h0, .inr (7, [.ref ab, .int 1])), (ab, .inl (kb, 440, .inl f_2))] H := hP
  have hD : va_D A [(h0, .inr (7, [.ref ab, .int 1])), (ab, .inl (kb, 440, .inl f_2))] := hD
  have hP9 := hP.sub (ws' := [(h0, .inr (7, [.ref ab, .int 1])), (ab, .inl (kb, 440, .inl f_2))]) [0, 1] rfl
  have hD9 := hD.sub (ws' := [(h0, .inr (7, [.ref ab, .int 1])), (ab, .inl (kb, 440, .inl f_2))]) [0, 1] (by decide) rfl
  have hK9 := hK.sub (tys' := [(kb, .byte)]) [0] rfl
  refine W.widen (k := 0) (n := 0) (Nat.le_of_ble_eq_true rfl) (Nat.le_of_ble_eq_true rfl) ?_
  exact W.vret hx hb hr (fun t ht hW => ⟨⟨(), rfl, trivial, f_2, by rw [ht]; exact hP9, va_K.moved hW.alike hK9, hD9⟩, hS.F ht⟩) hS.2.2 dX7_put_33
set_option maxHeartbeats 4000000 in
set_option maxRecDepth 100000 in
theorem c_put_1 (l : Launch) (dC : Nat → ClassId) (dI : Nat → Nat → Nat) (h0 : Nat) (ab : Nat) (kb : ClassId) (fb : Nat → Int32) (o9 : Int32) (sz : Nat)  : Met l yX7_put wsX7_put ({ frames := 0, cells := 0, slots := 0, locals := 0 } : Room) (va_Pc [.ref h0, .int o9] (fun U => U.heap.size = sz ∧ zz_X U ∧ va_P (dC, dI) vwCl [(h0, .inr (7, [.ref ab, .int 1])), (ab, .inl (kb, 440, .inl fb))] U.heap ∧ va_K (dC, dI) vwCl [(kb, .byte)] U ∧ va_D (fun _ => True) [(h0, .inr (7, [.ref ab, .int 1])), (ab, .inl (kb, 440, .inl fb))])) (va_Qv (fun (_ : Unit) => True) (fun (_ : Unit) (t : State) => ∃ (fc : Nat → Int32), va_P (dC, dI) vwCl [(h0, .inr (7, [.ref ab, .int 2])), (ab, .inl (kb, 440, .inl fc))] t.heap ∧ va_K (dC, dI) vwCl [(kb, .byte)] t ∧ va_D (va_A [(h0, .inr (7, [.ref ab, .int 1])), (ab, .inl (kb, 440, .inl fb))] sz) [(h0, .inr (7, [.ref ab, .int 2])), (ab, .inl (kb, 440, .inl fc))]) (va_A [(h0, .inr (7, [.ref ab, .int 1])), (ab, .inl (kb, 440, .inl fb))] sz)) 0 0 (va_A [(h0, .inr (7, [.ref ab, .int 1])), (ab, .inl (kb, 440, .inl fb))] sz) := by
  refine Met.ofW (cc := cX7_put) (maxL := 2) (ret := none) (by decide) rfl ?_
  intro p e s m args below meth c s₁ B hml hv
  obtain ⟨rfl, hsz, hzX, hP, hK, hD0⟩ := hv
  have hx := B.exec
  have hb := B.bytes
  have hr := B.returns
  have hts := atoms_spec (ws := wsX7_put) B.pre
  have hown : s.vm.findClass RX7 = some m.cls := findClass_of_methodNamed B.named
  have hlocks := B.notSynchronized
  subst hsz
  have hD := hD0.self (sz := s.heap.size)
  generalize hAe : va_A [(h0, .inr (7, [.ref ab, .int 1])), (ab, .inl (kb, 440, .inl fb))] s.heap.size = A at  hD ⊢
  have hA : ∀ q : Nat, s.heap.size ≤ q → A q := fun q h => by rw [← hAe]; exact Or.inr h
  have hS : va_S A s.heap s.heap [] := va_S.rf
  have hP : va_P (dC, dI) vwCl [(h0, .inr (7, [.ref ab, .int 1])), (ab, .inl (kb, 440, .inl fb))] s.heap := hP
  have hl := lv_entry ([.ref h0, .int o9]) (n := 2) (Nat.le_of_ble_eq_true rfl)
  rw [lg_entry_eq]
  generalize (lg_sl ([.ref h0, .int o9]) ++ List.replicate (2 - (lg_sl ([.ref h0, .int o9])).length) Slot.unset).toArray = ls at hl ⊢
  have hl : lv_has ls 2 [(0, .ref h0), (1, .int o9)] := hl
  skip
  refine lv_aload_n hx hb dX7_put_0 rfl (lv_at hl 0 rfl) ?_
  refine va_get (D := (dC, dI)) (ci := 7) (v := .int 1) (C := RX7) (T := TX7) (N := 2) hx hb hts in_X7_put_X7 hown hK hP 0 rfl rfl 1 (by decide) (hts (.fieldLink RX7 21 "ClayAccounts$Text" "size" "I") (by decide +kernel)) (fun _ h9 => h9) rfl dX7_put_1 ?_
  refine lv_aload_n hx hb dX7_put_4 rfl (lv_at hl 0 rfl) ?_
  refine va_get (D := (dC, dI)) (ci := 7) (v := .ref ab) (C := RX7) (T := TX7) (N := 2) hx hb hts in_X7_put_X7 hown hK hP 0 rfl rfl 0 (by decide) (hts (.fieldLink RX7 15 "ClayAccounts$Text" "bytes" "[B") (by decide +kernel)) (fun _ h9 => h9) rfl dX7_put_5 ?_
  refine va_alen (v := 440) hx hb hK hP 1 0 rfl rfl rfl dX7_put_8 ?_
  refine lv_icmp_ge (tgt := 33) hx hb dX7_put_9 (by decide) (fun c9 => absurd c9 (by decide)) (fun c9 => ?_)
  refine lv_aload_n hx hb dX7_put_12 rfl (lv_at hl 0 rfl) ?_
  refine va_get (D := (dC, dI)) (ci := 7) (v := .ref ab) (C := RX7) (T := TX7) (N := 2) hx hb hts in_X7_put_X7 hown hK hP 0 rfl rfl 0 (by decide) (hts (.fieldLink RX7 15 "ClayAccounts$Text" "bytes" "[B") (by decide +kernel)) (fun _ h9 => h9) rfl dX7_put_13 ?_
  refine lv_aload_n hx hb dX7_put_16 rfl (lv_at hl 0 rfl) ?_
  refine va_get (D := (dC, dI)) (ci := 7) (v := .int 1) (C := RX7) (T := TX7) (N := 2) hx hb hts in_X7_put_X7 hown hK hP 0 rfl rfl 1 (by decide) (hts (.fieldLink RX7 21 "ClayAccounts$Text" "size" "I") (by decide +kernel)) (fun _ h9 => h9) rfl dX7_put_17 ?_
  refine lv_iload_n hx hb dX7_put_20 rfl (lv_at hl 1 rfl) ?_
  refine lv_i2b hx hb dX7_put_21 rfl ?_
  refine lv_topi (fun v_1 ev_1 => ?_)
  refine va_bast hx hb hK hP hD hS 1 0 rfl rfl (show ¬ ((1 : Int32) < 0 ∨ 440 ≤ (1 : Int32).toNatClampNeg) by decide) dX7_put_22 (fun H locs hP hD hS => ?_)
  have hP : va_P (dC, dI) vwCl [(h0, .inr (7, [.ref ab, .int 1])), (ab, .inl (kb, 440, .inl (upd fb (1 : Int32).toNatClampNeg (vp_nar .byte v_1))))] H := hP
  have hD : va_D A [(h0, .inr (7, [.ref ab, .int 1])), (ab, .inl (kb, 440, .inl (upd fb (1 : Int32).toNatClampNeg (vp_nar .byte v_1))))] := hD
  generalize upd fb (1 : Int32).toNatClampNeg (vp_nar .byte v_1) = f_2 at hP hD
  refine lv_aload_n hx hb dX7_put_23 rfl (lv_at hl 0 rfl) ?_
  refine lv_dup hx hb dX7_put_24 rfl ?_
  refine va_get (D := (dC, dI)) (ci := 7) (v := .int 1) (C := RX7) (T := TX7) (N := 2) hx hb hts in_X7_put_X7 hown hK hP 0 rfl rfl 1 (by decide) (hts (.fieldLink RX7 21 "ClayAccounts$Text" "size" "I") (by decide +kernel)) (fun _ h9 => h9) rfl dX7_put_25 ?_
  refine lv_iconst (v := 1) hx hb dX7_put_28 (by decide) ?_
  refine lv_iadd hx hb dX7_put_29 ?_
  refine zz_top (y := 2) (by decide) ?_
  refine va_put (D := (dC, dI)) (ci := 7) (v := .int 2) (ty := .int) (C := RX7) (T := TX7) (N := 2) hx hb hts in_X7_put_X7 tyX7 tyX7_ok nmX7 hown hK hP hD hS 0 rfl rfl 1 (by decide) (hts (.fieldLink RX7 21 "ClayAccounts$Text" "size" "I") (by decide +kernel)) (fun _ h9 => h9) rfl (by decide +kernel) rfl rfl (Nat.le_of_ble_eq_true rfl) dX7_put_30 (fun H locs hP hD hS => ?_)
  have hP : va_P (dC, dI) vwCl [(h0, .inr (7, [.ref ab, .int 2])), (ab, .inl (kb, 440, .inl f_2))] H := hP
  have hD : va_D A [(h0, .inr (7, [.ref ab, .int 2])), (ab, .inl (kb, 440, .inl f_2))] := hD
  have hP9 := hP.sub (ws' := [(h0, .inr (7, [.ref ab, .int 2])), (ab, .inl (kb, 440, .inl f_2))]) [0, 1] rfl
  have hD9 := hD.sub (ws' := [(h0, .inr (7, [.ref ab, .int 2])), (ab, .inl (kb, 440, .inl f_2))]) [0, 1] (by decide) rfl
  have hK9 := hK.sub (tys' := [(kb, .byte)]) [0] rfl
  refine W.widen (k := 0) (n := 0) (Nat.le_of_ble_eq_true rfl) (Nat.le_of_ble_eq_true rfl) ?_
  exact W.vret hx hb hr (fun t ht hW => ⟨⟨(), rfl, trivial, f_2, by rw [ht]; exact hP9, va_K.moved hW.alike hK9, hD9⟩, hS.F ht⟩) hS.2.2 dX7_put_33
set_option maxHeartbeats 4000000 in
set_option maxRecDepth 100000 in
theorem c_put_2 (l : Launch) (dC : Nat → ClassId) (dI : Nat → Nat → Nat) (h0 : Nat) (ab : Nat) (kb : ClassId) (fb : Nat → Int32) (o9 : Int32) (sz : Nat)  : Met l yX7_put wsX7_put ({ frames := 0, cells := 0, slots := 0, locals := 0 } : Room) (va_Pc [.ref h0, .int o9] (fun U => U.heap.size = sz ∧ zz_X U ∧ va_P (dC, dI) vwCl [(h0, .inr (7, [.ref ab, .int 2])), (ab, .inl (kb, 440, .inl fb))] U.heap ∧ va_K (dC, dI) vwCl [(kb, .byte)] U ∧ va_D (fun _ => True) [(h0, .inr (7, [.ref ab, .int 2])), (ab, .inl (kb, 440, .inl fb))])) (va_Qv (fun (_ : Unit) => True) (fun (_ : Unit) (t : State) => ∃ (fc : Nat → Int32), va_P (dC, dI) vwCl [(h0, .inr (7, [.ref ab, .int 3])), (ab, .inl (kb, 440, .inl fc))] t.heap ∧ va_K (dC, dI) vwCl [(kb, .byte)] t ∧ va_D (va_A [(h0, .inr (7, [.ref ab, .int 2])), (ab, .inl (kb, 440, .inl fb))] sz) [(h0, .inr (7, [.ref ab, .int 3])), (ab, .inl (kb, 440, .inl fc))]) (va_A [(h0, .inr (7, [.ref ab, .int 2])), (ab, .inl (kb, 440, .inl fb))] sz)) 0 0 (va_A [(h0, .inr (7, [.ref ab, .int 2])), (ab, .inl (kb, 440, .inl fb))] sz) := by
  refine Met.ofW (cc := cX7_put) (maxL := 2) (ret := none) (by decide) rfl ?_
  intro p e s m args below meth c s₁ B hml hv
  obtain ⟨rfl, hsz, hzX, hP, hK, hD0⟩ := hv
  have hx := B.exec
  have hb := B.bytes
  have hr := B.returns
  have hts := atoms_spec (ws := wsX7_put) B.pre
  have hown : s.vm.findClass RX7 = some m.cls := findClass_of_methodNamed B.named
  have hlocks := B.notSynchronized
  subst hsz
  have hD := hD0.self (sz := s.heap.size)
  generalize hAe : va_A [(h0, .inr (7, [.ref ab, .int 2])), (ab, .inl (kb, 440, .inl fb))] s.heap.size = A at  hD ⊢
  have hA : ∀ q : Nat, s.heap.size ≤ q → A q := fun q h => by rw [← hAe]; exact Or.inr h
  have hS : va_S A s.heap s.heap [] := va_S.rf
  have hP : va_P (dC, dI) vwCl [(h0, .inr (7, [.ref ab, .int 2])), (ab, .inl (kb, 440, .inl fb))] s.heap := hP
  have hl := lv_entry ([.ref h0, .int o9]) (n := 2) (Nat.le_of_ble_eq_true rfl)
  rw [lg_entry_eq]
  generalize (lg_sl ([.ref h0, .int o9]) ++ List.replicate (2 - (lg_sl ([.ref h0, .int o9])).length) Slot.unset).toArray = ls at hl ⊢
  have hl : lv_has ls 2 [(0, .ref h0), (1, .int o9)] := hl
  skip
  refine lv_aload_n hx hb dX7_put_0 rfl (lv_at hl 0 rfl) ?_
  refine va_get (D := (dC, dI)) (ci := 7) (v := .int 2) (C := RX7) (T := TX7) (N := 2) hx hb hts in_X7_put_X7 hown hK hP 0 rfl rfl 1 (by decide) (hts (.fieldLink RX7 21 "ClayAccounts$Text" "size" "I") (by decide +kernel)) (fun _ h9 => h9) rfl dX7_put_1 ?_
  refine lv_aload_n hx hb dX7_put_4 rfl (lv_at hl 0 rfl) ?_
  refine va_get (D := (dC, dI)) (ci := 7) (v := .ref ab) (C := RX7) (T := TX7) (N := 2) hx hb hts in_X7_put_X7 hown hK hP 0 rfl rfl 0 (by decide) (hts (.fieldLink RX7 15 "ClayAccounts$Text" "bytes" "[B") (by decide +kernel)) (fun _ h9 => h9) rfl dX7_put_5 ?_
  refine va_alen (v := 440) hx hb hK hP 1 0 rfl rfl rfl dX7_put_8 ?_
  refine lv_icmp_ge (tgt := 33) hx hb dX7_put_9 (by decide) (fun c9 => absurd c9 (by decide)) (fun c9 => ?_)
  refine lv_aload_n hx hb dX7_put_12 rfl (lv_at hl 0 rfl) ?_
  refine va_get (D := (dC, dI)) (ci := 7) (v := .ref ab) (C := RX7) (T := TX7) (N := 2) hx hb hts in_X7_put_X7 hown hK hP 0 rfl rfl 0 (by decide) (hts (.fieldLink RX7 15 "ClayAccounts$Text" "bytes" "[B") (by decide +kernel)) (fun _ h9 => h9) rfl dX7_put_13 ?_
  refine lv_aload_n hx hb dX7_put_16 rfl (lv_at hl 0 rfl) ?_
  refine va_get (D := (dC, dI)) (ci := 7) (v := .int 2) (C := RX7) (T := TX7) (N := 2) hx hb hts in_X7_put_X7 hown hK hP 0 rfl rfl 1 (by decide) (hts (.fieldLink RX7 21 "ClayAccounts$Text" "size" "I") (by decide +kernel)) (fun _ h9 => h9) rfl dX7_put_17 ?_
  refine lv_iload_n hx hb dX7_put_20 rfl (lv_at hl 1 rfl) ?_
  refine lv_i2b hx hb dX7_put_21 rfl ?_
  refine lv_topi (fun v_1 ev_1 => ?_)
  refine va_bast hx hb hK hP hD hS 1 0 rfl rfl (show ¬ ((2 : Int32) < 0 ∨ 440 ≤ (2 : Int32).toNatClampNeg) by decide) dX7_put_22 (fun H locs hP hD hS => ?_)
  have hP : va_P (dC, dI) vwCl [(h0, .inr (7, [.ref ab, .int 2])), (ab, .inl (kb, 440, .inl (upd fb (2 : Int32).toNatClampNeg (vp_nar .byte v_1))))] H := hP
  have hD : va_D A [(h0, .inr (7, [.ref ab, .int 2])), (ab, .inl (kb, 440, .inl (upd fb (2 : Int32).toNatClampNeg (vp_nar .byte v_1))))] := hD
  generalize upd fb (2 : Int32).toNatClampNeg (vp_nar .byte v_1) = f_2 at hP hD
  refine lv_aload_n hx hb dX7_put_23 rfl (lv_at hl 0 rfl) ?_
  refine lv_dup hx hb dX7_put_24 rfl ?_
  refine va_get (D := (dC, dI)) (ci := 7) (v := .int 2) (C := RX7) (T := TX7) (N := 2) hx hb hts in_X7_put_X7 hown hK hP 0 rfl rfl 1 (by decide) (hts (.fieldLink RX7 21 "ClayAccounts$Text" "size" "I") (by decide +kernel)) (fun _ h9 => h9) rfl dX7_put_25 ?_
  refine lv_iconst (v := 1) hx hb dX7_put_28 (by decide) ?_
  refine lv_iadd hx hb dX7_put_29 ?_
  refine zz_top (y := 3) (by decide) ?_
  refine va_put (D := (dC, dI)) (ci := 7) (v := .int 3) (ty := .int) (C := RX7) (T := TX7) (N := 2) hx hb hts in_X7_put_X7 tyX7 tyX7_ok nmX7 hown hK hP hD hS 0 rfl rfl 1 (by decide) (hts (.fieldLink RX7 21 "ClayAccounts$Text" "size" "I") (by decide +kernel)) (fun _ h9 => h9) rfl (by decide +kernel) rfl rfl (Nat.le_of_ble_eq_true rfl) dX7_put_30 (fun H locs hP hD hS => ?_)
  have hP : va_P (dC, dI) vwCl [(h0, .inr (7, [.ref ab, .int 3])), (ab, .inl (kb, 440, .inl f_2))] H := hP
  have hD : va_D A [(h0, .inr (7, [.ref ab, .int 3])), (ab, .inl (kb, 440, .inl f_2))] := hD
  have hP9 := hP.sub (ws' := [(h0, .inr (7, [.ref ab, .int 3])), (ab, .inl (kb, 440, .inl f_2))]) [0, 1] rfl
  have hD9 := hD.sub (ws' := [(h0, .inr (7, [.ref ab, .int 3])), (ab, .inl (kb, 440, .inl f_2))]) [0, 1] (by decide) rfl
  have hK9 := hK.sub (tys' := [(kb, .byte)]) [0] rfl
  refine W.widen (k := 0) (n := 0) (Nat.le_of_ble_eq_true rfl) (Nat.le_of_ble_eq_true rfl) ?_
  exact W.vret hx hb hr (fun t ht hW => ⟨⟨(), rfl, trivial, f_2, by rw [ht]; exact hP9, va_K.moved hW.alike hK9, hD9⟩, hS.F ht⟩) hS.2.2 dX7_put_33
set_option maxHeartbeats 4000000 in
set_option maxRecDepth 100000 in
theorem c_put_3 (l : Launch) (dC : Nat → ClassId) (dI : Nat → Nat → Nat) (h0 : Nat) (ab : Nat) (kb : ClassId) (fb : Nat → Int32) (o9 : Int32) (sz : Nat)  : Met l yX7_put wsX7_put ({ frames := 0, cells := 0, slots := 0, locals := 0 } : Room) (va_Pc [.ref h0, .int o9] (fun U => U.heap.size = sz ∧ zz_X U ∧ va_P (dC, dI) vwCl [(h0, .inr (7, [.ref ab, .int 3])), (ab, .inl (kb, 440, .inl fb))] U.heap ∧ va_K (dC, dI) vwCl [(kb, .byte)] U ∧ va_D (fun _ => True) [(h0, .inr (7, [.ref ab, .int 3])), (ab, .inl (kb, 440, .inl fb))])) (va_Qv (fun (_ : Unit) => True) (fun (_ : Unit) (t : State) => ∃ (fc : Nat → Int32), va_P (dC, dI) vwCl [(h0, .inr (7, [.ref ab, .int 4])), (ab, .inl (kb, 440, .inl fc))] t.heap ∧ va_K (dC, dI) vwCl [(kb, .byte)] t ∧ va_D (va_A [(h0, .inr (7, [.ref ab, .int 3])), (ab, .inl (kb, 440, .inl fb))] sz) [(h0, .inr (7, [.ref ab, .int 4])), (ab, .inl (kb, 440, .inl fc))]) (va_A [(h0, .inr (7, [.ref ab, .int 3])), (ab, .inl (kb, 440, .inl fb))] sz)) 0 0 (va_A [(h0, .inr (7, [.ref ab, .int 3])), (ab, .inl (kb, 440, .inl fb))] sz) := by
  refine Met.ofW (cc := cX7_put) (maxL := 2) (ret := none) (by decide) rfl ?_
  intro p e s m args below meth c s₁ B hml hv
  obtain ⟨rfl, hsz, hzX, hP, hK, hD0⟩ := hv
  have hx := B.exec
  have hb := B.bytes
  have hr := B.returns
  have hts := atoms_spec (ws := wsX7_put) B.pre
  have hown : s.vm.findClass RX7 = some m.cls := findClass_of_methodNamed B.named
  have hlocks := B.notSynchronized
  subst hsz
  have hD := hD0.self (sz := s.heap.size)
  generalize hAe : va_A [(h0, .inr (7, [.ref ab, .int 3])), (ab, .inl (kb, 440, .inl fb))] s.heap.size = A at  hD ⊢
  have hA : ∀ q : Nat, s.heap.size ≤ q → A q := fun q h => by rw [← hAe]; exact Or.inr h
  have hS : va_S A s.heap s.heap [] := va_S.rf
  have hP : va_P (dC, dI) vwCl [(h0, .inr (7, [.ref ab, .int 3])), (ab, .inl (kb, 440, .inl fb))] s.heap := hP
  have hl := lv_entry ([.ref h0, .int o9]) (n := 2) (Nat.le_of_ble_eq_true rfl)
  rw [lg_entry_eq]
  generalize (lg_sl ([.ref h0, .int o9]) ++ List.replicate (2 - (lg_sl ([.ref h0, .int o9])).length) Slot.unset).toArray = ls at hl ⊢
  have hl : lv_has ls 2 [(0, .ref h0), (1, .int o9)] := hl
  skip
  refine lv_aload_n hx hb dX7_put_0 rfl (lv_at hl 0 rfl) ?_
  refine va_get (D := (dC, dI)) (ci := 7) (v := .int 3) (C := RX7) (T := TX7) (N := 2) hx hb hts in_X7_put_X7 hown hK hP 0 rfl rfl 1 (by decide) (hts (.fieldLink RX7 21 "ClayAccounts$Text" "size" "I") (by decide +kernel)) (fun _ h9 => h9) rfl dX7_put_1 ?_
  refine lv_aload_n hx hb dX7_put_4 rfl (lv_at hl 0 rfl) ?_
  refine va_get (D := (dC, dI)) (ci := 7) (v := .ref ab) (C := RX7) (T := TX7) (N := 2) hx hb hts in_X7_put_X7 hown hK hP 0 rfl rfl 0 (by decide) (hts (.fieldLink RX7 15 "ClayAccounts$Text" "bytes" "[B") (by decide +kernel)) (fun _ h9 => h9) rfl dX7_put_5 ?_
  refine va_alen (v := 440) hx hb hK hP 1 0 rfl rfl rfl dX7_put_8 ?_
  refine lv_icmp_ge (tgt := 33) hx hb dX7_put_9 (by decide) (fun c9 => absurd c9 (by decide)) (fun c9 => ?_)
  refine lv_aload_n hx hb dX7_put_12 rfl (lv_at hl 0 rfl) ?_
  refine va_get (D := (dC, dI)) (ci := 7) (v := .ref ab) (C := RX7) (T := TX7) (N := 2) hx hb hts in_X7_put_X7 hown hK hP 0 rfl rfl 0 (by decide) (hts (.fieldLink RX7 15 "ClayAccounts$Text" "bytes" "[B") (by decide +kernel)) (fun _ h9 => h9) rfl dX7_put_13 ?_
  refine lv_aload_n hx hb dX7_put_16 rfl (lv_at hl 0 rfl) ?_
  refine va_get (D := (dC, dI)) (ci := 7) (v := .int 3) (C := RX7) (T := TX7) (N := 2) hx hb hts in_X7_put_X7 hown hK hP 0 rfl rfl 1 (by decide) (hts (.fieldLink RX7 21 "ClayAccounts$Text" "size" "I") (by decide +kernel)) (fun _ h9 => h9) rfl dX7_put_17 ?_
  refine lv_iload_n hx hb dX7_put_20 rfl (lv_at hl 1 rfl) ?_
  refine lv_i2b hx hb dX7_put_21 rfl ?_
  refine lv_topi (fun v_1 ev_1 => ?_)
  refine va_bast hx hb hK hP hD hS 1 0 rfl rfl (show ¬ ((3 : Int32) < 0 ∨ 440 ≤ (3 : Int32).toNatClampNeg) by decide) dX7_put_22 (fun H locs hP hD hS => ?_)
  have hP : va_P (dC, dI) vwCl [(h0, .inr (7, [.ref ab, .int 3])), (ab, .inl (kb, 440, .inl (upd fb (3 : Int32).toNatClampNeg (vp_nar .byte v_1))))] H := hP
  have hD : va_D A [(h0, .inr (7, [.ref ab, .int 3])), (ab, .inl (kb, 440, .inl (upd fb (3 : Int32).toNatClampNeg (vp_nar .byte v_1))))] := hD
  generalize upd fb (3 : Int32).toNatClampNeg (vp_nar .byte v_1) = f_2 at hP hD
  refine lv_aload_n hx hb dX7_put_23 rfl (lv_at hl 0 rfl) ?_
  refine lv_dup hx hb dX7_put_24 rfl ?_
  refine va_get (D := (dC, dI)) (ci := 7) (v := .int 3) (C := RX7) (T := TX7) (N := 2) hx hb hts in_X7_put_X7 hown hK hP 0 rfl rfl 1 (by decide) (hts (.fieldLink RX7 21 "ClayAccounts$Text" "size" "I") (by decide +kernel)) (fun _ h9 => h9) rfl dX7_put_25 ?_
  refine lv_iconst (v := 1) hx hb dX7_put_28 (by decide) ?_
  refine lv_iadd hx hb dX7_put_29 ?_
  refine zz_top (y := 4) (by decide) ?_
  refine va_put (D := (dC, dI)) (ci := 7) (v := .int 4) (ty := .int) (C := RX7) (T := TX7) (N := 2) hx hb hts in_X7_put_X7 tyX7 tyX7_ok nmX7 hown hK hP hD hS 0 rfl rfl 1 (by decide) (hts (.fieldLink RX7 21 "ClayAccounts$Text" "size" "I") (by decide +kernel)) (fun _ h9 => h9) rfl (by decide +kernel) rfl rfl (Nat.le_of_ble_eq_true rfl) dX7_put_30 (fun H locs hP hD hS => ?_)
  have hP : va_P (dC, dI) vwCl [(h0, .inr (7, [.ref ab, .int 4])), (ab, .inl (kb, 440, .inl f_2))] H := hP
  have hD : va_D A [(h0, .inr (7, [.ref ab, .int 4])), (ab, .inl (kb, 440, .inl f_2))] := hD
  have hP9 := hP.sub (ws' := [(h0, .inr (7, [.ref ab, .int 4])), (ab, .inl (kb, 440, .inl f_2))]) [0, 1] rfl
  have hD9 := hD.sub (ws' := [(h0, .inr (7, [.ref ab, .int 4])), (ab, .inl (kb, 440, .inl f_2))]) [0, 1] (by decide) rfl
  have hK9 := hK.sub (tys' := [(kb, .byte)]) [0] rfl
  refine W.widen (k := 0) (n := 0) (Nat.le_of_ble_eq_true rfl) (Nat.le_of_ble_eq_true rfl) ?_
  exact W.vret hx hb hr (fun t ht hW => ⟨⟨(), rfl, trivial, f_2, by rw [ht]; exact hP9, va_K.moved hW.alike hK9, hD9⟩, hS.F ht⟩) hS.2.2 dX7_put_33
set_option maxHeartbeats 4000000 in
set_option maxRecDepth 100000 in
theorem c_put_4 (l : Launch) (dC : Nat → ClassId) (dI : Nat → Nat → Nat) (h0 : Nat) (ab : Nat) (kb : ClassId) (fb : Nat → Int32) (o9 : Int32) (sz : Nat)  : Met l yX7_put wsX7_put ({ frames := 0, cells := 0, slots := 0, locals := 0 } : Room) (va_Pc [.ref h0, .int o9] (fun U => U.heap.size = sz ∧ zz_X U ∧ va_P (dC, dI) vwCl [(h0, .inr (7, [.ref ab, .int 4])), (ab, .inl (kb, 440, .inl fb))] U.heap ∧ va_K (dC, dI) vwCl [(kb, .byte)] U ∧ va_D (fun _ => True) [(h0, .inr (7, [.ref ab, .int 4])), (ab, .inl (kb, 440, .inl fb))])) (va_Qv (fun (_ : Unit) => True) (fun (_ : Unit) (t : State) => ∃ (fc : Nat → Int32), va_P (dC, dI) vwCl [(h0, .inr (7, [.ref ab, .int 5])), (ab, .inl (kb, 440, .inl fc))] t.heap ∧ va_K (dC, dI) vwCl [(kb, .byte)] t ∧ va_D (va_A [(h0, .inr (7, [.ref ab, .int 4])), (ab, .inl (kb, 440, .inl fb))] sz) [(h0, .inr (7, [.ref ab, .int 5])), (ab, .inl (kb, 440, .inl fc))]) (va_A [(h0, .inr (7, [.ref ab, .int 4])), (ab, .inl (kb, 440, .inl fb))] sz)) 0 0 (va_A [(h0, .inr (7, [.ref ab, .int 4])), (ab, .inl (kb, 440, .inl fb))] sz) := by
  refine Met.ofW (cc := cX7_put) (maxL := 2) (ret := none) (by decide) rfl ?_
  intro p e s m args below meth c s₁ B hml hv
  obtain ⟨rfl, hsz, hzX, hP, hK, hD0⟩ := hv
  have hx := B.exec
  have hb := B.bytes
  have hr := B.returns
  have hts := atoms_spec (ws := wsX7_put) B.pre
  have hown : s.vm.findClass RX7 = some m.cls := findClass_of_methodNamed B.named
  have hlocks := B.notSynchronized
  subst hsz
  have hD := hD0.self (sz := s.heap.size)
  generalize hAe : va_A [(h0, .inr (7, [.ref ab, .int 4])), (ab, .inl (kb, 440, .inl fb))] s.heap.size = A at  hD ⊢
  have hA : ∀ q : Nat, s.heap.size ≤ q → A q := fun q h => by rw [← hAe]; exact Or.inr h
  have hS : va_S A s.heap s.heap [] := va_S.rf
  have hP : va_P (dC, dI) vwCl [(h0, .inr (7, [.ref ab, .int 4])), (ab, .inl (kb, 440, .inl fb))] s.heap := hP
  have hl := lv_entry ([.ref h0, .int o9]) (n := 2) (Nat.le_of_ble_eq_true rfl)
  rw [lg_entry_eq]
  generalize (lg_sl ([.ref h0, .int o9]) ++ List.replicate (2 - (lg_sl ([.ref h0, .int o9])).length) Slot.unset).toArray = ls at hl ⊢
  have hl : lv_has ls 2 [(0, .ref h0), (1, .int o9)] := hl
  skip
  refine lv_aload_n hx hb dX7_put_0 rfl (lv_at hl 0 rfl) ?_
  refine va_get (D := (dC, dI)) (ci := 7) (v := .int 4) (C := RX7) (T := TX7) (N := 2) hx hb hts in_X7_put_X7 hown hK hP 0 rfl rfl 1 (by decide) (hts (.fieldLink RX7 21 "ClayAccounts$Text" "size" "I") (by decide +kernel)) (fun _ h9 => h9) rfl dX7_put_1 ?_
  refine lv_aload_n hx hb dX7_put_4 rfl (lv_at hl 0 rfl) ?_
  refine va_get (D := (dC, dI)) (ci := 7) (v := .ref ab) (C := RX7) (T := TX7) (N := 2) hx hb hts in_X7_put_X7 hown hK hP 0 rfl rfl 0 (by decide) (hts (.fieldLink RX7 15 "ClayAccounts$Text" "bytes" "[B") (by decide +kernel)) (fun _ h9 => h9) rfl dX7_put_5 ?_
  refine va_alen (v := 440) hx hb hK hP 1 0 rfl rfl rfl dX7_put_8 ?_
  refine lv_icmp_ge (tgt := 33) hx hb dX7_put_9 (by decide) (fun c9 => absurd c9 (by decide)) (fun c9 => ?_)
  refine lv_aload_n hx hb dX7_put_12 rfl (lv_at hl 0 rfl) ?_
  refine va_get (D := (dC, dI)) (ci := 7) (v := .ref ab) (C := RX7) (T := TX7) (N := 2) hx hb hts in_X7_put_X7 hown hK hP 0 rfl rfl 0 (by decide) (hts (.fieldLink RX7 15 "ClayAccounts$Text" "bytes" "[B") (by decide +kernel)) (fun _ h9 => h9) rfl dX7_put_13 ?_
  refine lv_aload_n hx hb dX7_put_16 rfl (lv_at hl 0 rfl) ?_
  refine va_get (D := (dC, dI)) (ci := 7) (v := .int 4) (C := RX7) (T := TX7) (N := 2) hx hb hts in_X7_put_X7 hown hK hP 0 rfl rfl 1 (by decide) (hts (.fieldLink RX7 21 "ClayAccounts$Text" "size" "I") (by decide +kernel)) (fun _ h9 => h9) rfl dX7_put_17 ?_
  refine lv_iload_n hx hb dX7_put_20 rfl (lv_at hl 1 rfl) ?_
  refine lv_i2b hx hb dX7_put_21 rfl ?_
  refine lv_topi (fun v_1 ev_1 => ?_)
  refine va_bast hx hb hK hP hD hS 1 0 rfl rfl (show ¬ ((4 : Int32) < 0 ∨ 440 ≤ (4 : Int32).toNatClampNeg) by decide) dX7_put_22 (fun H locs hP hD hS => ?_)
  have hP : va_P (dC, dI) vwCl [(h0, .inr (7, [.ref ab, .int 4])), (ab, .inl (kb, 440, .inl (upd fb (4 : Int32).toNatClampNeg (vp_nar .byte v_1))))] H := hP
  have hD : va_D A [(h0, .inr (7, [.ref ab, .int 4])), (ab, .inl (kb, 440, .inl (upd fb (4 : Int32).toNatClampNeg (vp_nar .byte v_1))))] := hD
  generalize upd fb (4 : Int32).toNatClampNeg (vp_nar .byte v_1) = f_2 at hP hD
  refine lv_aload_n hx hb dX7_put_23 rfl (lv_at hl 0 rfl) ?_
  refine lv_dup hx hb dX7_put_24 rfl ?_
  refine va_get (D := (dC, dI)) (ci := 7) (v := .int 4) (C := RX7) (T := TX7) (N := 2) hx hb hts in_X7_put_X7 hown hK hP 0 rfl rfl 1 (by decide) (hts (.fieldLink RX7 21 "ClayAccounts$Text" "size" "I") (by decide +kernel)) (fun _ h9 => h9) rfl dX7_put_25 ?_
  refine lv_iconst (v := 1) hx hb dX7_put_28 (by decide) ?_
  refine lv_iadd hx hb dX7_put_29 ?_
  refine zz_top (y := 5) (by decide) ?_
  refine va_put (D := (dC, dI)) (ci := 7) (v := .int 5) (ty := .int) (C := RX7) (T := TX7) (N := 2) hx hb hts in_X7_put_X7 tyX7 tyX7_ok nmX7 hown hK hP hD hS 0 rfl rfl 1 (by decide) (hts (.fieldLink RX7 21 "ClayAccounts$Text" "size" "I") (by decide +kernel)) (fun _ h9 => h9) rfl (by decide +kernel) rfl rfl (Nat.le_of_ble_eq_true rfl) dX7_put_30 (fun H locs hP hD hS => ?_)
  have hP : va_P (dC, dI) vwCl [(h0, .inr (7, [.ref ab, .int 5])), (ab, .inl (kb, 440, .inl f_2))] H := hP
  have hD : va_D A [(h0, .inr (7, [.ref ab, .int 5])), (ab, .inl (kb, 440, .inl f_2))] := hD
  have hP9 := hP.sub (ws' := [(h0, .inr (7, [.ref ab, .int 5])), (ab, .inl (kb, 440, .inl f_2))]) [0, 1] rfl
  have hD9 := hD.sub (ws' := [(h0, .inr (7, [.ref ab, .int 5])), (ab, .inl (kb, 440, .inl f_2))]) [0, 1] (by decide) rfl
  have hK9 := hK.sub (tys' := [(kb, .byte)]) [0] rfl
  refine W.widen (k := 0) (n := 0) (Nat.le_of_ble_eq_true rfl) (Nat.le_of_ble_eq_true rfl) ?_
  exact W.vret hx hb hr (fun t ht hW => ⟨⟨(), rfl, trivial, f_2, by rw [ht]; exact hP9, va_K.moved hW.alike hK9, hD9⟩, hS.F ht⟩) hS.2.2 dX7_put_33
set_option maxHeartbeats 4000000 in
set_option maxRecDepth 100000 in
theorem c_put_5 (l : Launch) (dC : Nat → ClassId) (dI : Nat → Nat → Nat) (h0 : Nat) (ab : Nat) (kb : ClassId) (fb : Nat → Int32) (o9 : Int32) (sz : Nat)  : Met l yX7_put wsX7_put ({ frames := 0, cells := 0, slots := 0, locals := 0 } : Room) (va_Pc [.ref h0, .int o9] (fun U => U.heap.size = sz ∧ zz_X U ∧ va_P (dC, dI) vwCl [(h0, .inr (7, [.ref ab, .int 5])), (ab, .inl (kb, 440, .inl fb))] U.heap ∧ va_K (dC, dI) vwCl [(kb, .byte)] U ∧ va_D (fun _ => True) [(h0, .inr (7, [.ref ab, .int 5])), (ab, .inl (kb, 440, .inl fb))])) (va_Qv (fun (_ : Unit) => True) (fun (_ : Unit) (t : State) => ∃ (fc : Nat → Int32), va_P (dC, dI) vwCl [(h0, .inr (7, [.ref ab, .int 6])), (ab, .inl (kb, 440, .inl fc))] t.heap ∧ va_K (dC, dI) vwCl [(kb, .byte)] t ∧ va_D (va_A [(h0, .inr (7, [.ref ab, .int 5])), (ab, .inl (kb, 440, .inl fb))] sz) [(h0, .inr (7, [.ref ab, .int 6])), (ab, .inl (kb, 440, .inl fc))]) (va_A [(h0, .inr (7, [.ref ab, .int 5])), (ab, .inl (kb, 440, .inl fb))] sz)) 0 0 (va_A [(h0, .inr (7, [.ref ab, .int 5])), (ab, .inl (kb, 440, .inl fb))] sz) := by
  refine Met.ofW (cc := cX7_put) (maxL := 2) (ret := none) (by decide) rfl ?_
  intro p e s m args below meth c s₁ B hml hv
  obtain ⟨rfl, hsz, hzX, hP, hK, hD0⟩ := hv
  have hx := B.exec
  have hb := B.bytes
  have hr := B.returns
  have hts := atoms_spec (ws := wsX7_put) B.pre
  have hown : s.vm.findClass RX7 = some m.cls := findClass_of_methodNamed B.named
  have hlocks := B.notSynchronized
  subst hsz
  have hD := hD0.self (sz := s.heap.size)
  generalize hAe : va_A [(h0, .inr (7, [.ref ab, .int 5])), (ab, .inl (kb, 440, .inl fb))] s.heap.size = A at  hD ⊢
  have hA : ∀ q : Nat, s.heap.size ≤ q → A q := fun q h => by rw [← hAe]; exact Or.inr h
  have hS : va_S A s.heap s.heap [] := va_S.rf
  have hP : va_P (dC, dI) vwCl [(h0, .inr (7, [.ref ab, .int 5])), (ab, .inl (kb, 440, .inl fb))] s.heap := hP
  have hl := lv_entry ([.ref h0, .int o9]) (n := 2) (Nat.le_of_ble_eq_true rfl)
  rw [lg_entry_eq]
  generalize (lg_sl ([.ref h0, .int o9]) ++ List.replicate (2 - (lg_sl ([.ref h0, .int o9])).length) Slot.unset).toArray = ls at hl ⊢
  have hl : lv_has ls 2 [(0, .ref h0), (1, .int o9)] := hl
  skip
  refine lv_aload_n hx hb dX7_put_0 rfl (lv_at hl 0 rfl) ?_
  refine va_get (D := (dC, dI)) (ci := 7) (v := .int 5) (C := RX7) (T := TX7) (N := 2) hx hb hts in_X7_put_X7 hown hK hP 0 rfl rfl 1 (by decide) (hts (.fieldLink RX7 21 "ClayAccounts$Text" "size" "I") (by decide +kernel)) (fun _ h9 => h9) rfl dX7_put_1 ?_
  refine lv_aload_n hx hb dX7_put_4 rfl (lv_at hl 0 rfl) ?_
  refine va_get (D := (dC, dI)) (ci := 7) (v := .ref ab) (C := RX7) (T := TX7) (N := 2) hx hb hts in_X7_put_X7 hown hK hP 0 rfl rfl 0 (by decide) (hts (.fieldLink RX7 15 "ClayAccounts$Text" "bytes" "[B") (by decide +kernel)) (fun _ h9 => h9) rfl dX7_put_5 ?_
  refine va_alen (v := 440) hx hb hK hP 1 0 rfl rfl rfl dX7_put_8 ?_
  refine lv_icmp_ge (tgt := 33) hx hb dX7_put_9 (by decide) (fun c9 => absurd c9 (by decide)) (fun c9 => ?_)
  refine lv_aload_n hx hb dX7_put_12 rfl (lv_at hl 0 rfl) ?_
  refine va_get (D := (dC, dI)) (ci := 7) (v := .ref ab) (C := RX7) (T := TX7) (N := 2) hx hb hts in_X7_put_X7 hown hK hP 0 rfl rfl 0 (by decide) (hts (.fieldLink RX7 15 "ClayAccounts$Text" "bytes" "[B") (by decide +kernel)) (fun _ h9 => h9) rfl dX7_put_13 ?_
  refine lv_aload_n hx hb dX7_put_16 rfl (lv_at hl 0 rfl) ?_
  refine va_get (D := (dC, dI)) (ci := 7) (v := .int 5) (C := RX7) (T := TX7) (N := 2) hx hb hts in_X7_put_X7 hown hK hP 0 rfl rfl 1 (by decide) (hts (.fieldLink RX7 21 "ClayAccounts$Text" "size" "I") (by decide +kernel)) (fun _ h9 => h9) rfl dX7_put_17 ?_
  refine lv_iload_n hx hb dX7_put_20 rfl (lv_at hl 1 rfl) ?_
  refine lv_i2b hx hb dX7_put_21 rfl ?_
  refine lv_topi (fun v_1 ev_1 => ?_)
  refine va_bast hx hb hK hP hD hS 1 0 rfl rfl (show ¬ ((5 : Int32) < 0 ∨ 440 ≤ (5 : Int32).toNatClampNeg) by decide) dX7_put_22 (fun H locs hP hD hS => ?_)
  have hP : va_P (dC, dI) vwCl [(h0, .inr (7, [.ref ab, .int 5])), (ab, .inl (kb, 440, .inl (upd fb (5 : Int32).toNatClampNeg (vp_nar .byte v_1))))] H := hP
  have hD : va_D A [(h0, .inr (7, [.ref ab, .int 5])), (ab, .inl (kb, 440, .inl (upd fb (5 : Int32).toNatClampNeg (vp_nar .byte v_1))))] := hD
  generalize upd fb (5 : Int32).toNatClampNeg (vp_nar .byte v_1) = f_2 at hP hD
  refine lv_aload_n hx hb dX7_put_23 rfl (lv_at hl 0 rfl) ?_
  refine lv_dup hx hb dX7_put_24 rfl ?_
  refine va_get (D := (dC, dI)) (ci := 7) (v := .int 5) (C := RX7) (T := TX7) (N := 2) hx hb hts in_X7_put_X7 hown hK hP 0 rfl rfl 1 (by decide) (hts (.fieldLink RX7 21 "ClayAccounts$Text" "size" "I") (by decide +kernel)) (fun _ h9 => h9) rfl dX7_put_25 ?_
  refine lv_iconst (v := 1) hx hb dX7_put_28 (by decide) ?_
  refine lv_iadd hx hb dX7_put_29 ?_
  refine zz_top (y := 6) (by decide) ?_
  refine va_put (D := (dC, dI)) (ci := 7) (v := .int 6) (ty := .int) (C := RX7) (T := TX7) (N := 2) hx hb hts in_X7_put_X7 tyX7 tyX7_ok nmX7 hown hK hP hD hS 0 rfl rfl 1 (by decide) (hts (.fieldLink RX7 21 "ClayAccounts$Text" "size" "I") (by decide +kernel)) (fun _ h9 => h9) rfl (by decide +kernel) rfl rfl (Nat.le_of_ble_eq_true rfl) dX7_put_30 (fun H locs hP hD hS => ?_)
  have hP : va_P (dC, dI) vwCl [(h0, .inr (7, [.ref ab, .int 6])), (ab, .inl (kb, 440, .inl f_2))] H := hP
  have hD : va_D A [(h0, .inr (7, [.ref ab, .int 6])), (ab, .inl (kb, 440, .inl f_2))] := hD
  have hP9 := hP.sub (ws' := [(h0, .inr (7, [.ref ab, .int 6])), (ab, .inl (kb, 440, .inl f_2))]) [0, 1] rfl
  have hD9 := hD.sub (ws' := [(h0, .inr (7, [.ref ab, .int 6])), (ab, .inl (kb, 440, .inl f_2))]) [0, 1] (by decide) rfl
  have hK9 := hK.sub (tys' := [(kb, .byte)]) [0] rfl
  refine W.widen (k := 0) (n := 0) (Nat.le_of_ble_eq_true rfl) (Nat.le_of_ble_eq_true rfl) ?_
  exact W.vret hx hb hr (fun t ht hW => ⟨⟨(), rfl, trivial, f_2, by rw [ht]; exact hP9, va_K.moved hW.alike hK9, hD9⟩, hS.F ht⟩) hS.2.2 dX7_put_33
set_option maxHeartbeats 4000000 in
set_option maxRecDepth 100000 in
theorem c_put_6 (l : Launch) (dC : Nat → ClassId) (dI : Nat → Nat → Nat) (h0 : Nat) (ab : Nat) (kb : ClassId) (fb : Nat → Int32) (o9 : Int32) (sz : Nat)  : Met l yX7_put wsX7_put ({ frames := 0, cells := 0, slots := 0, locals := 0 } : Room) (va_Pc [.ref h0, .int o9] (fun U => U.heap.size = sz ∧ zz_X U ∧ va_P (dC, dI) vwCl [(h0, .inr (7, [.ref ab, .int 6])), (ab, .inl (kb, 440, .inl fb))] U.heap ∧ va_K (dC, dI) vwCl [(kb, .byte)] U ∧ va_D (fun _ => True) [(h0, .inr (7, [.ref ab, .int 6])), (ab, .inl (kb, 440, .inl fb))])) (va_Qv (fun (_ : Unit) => True) (fun (_ : Unit) (t : State) => ∃ (fc : Nat → Int32), va_P (dC, dI) vwCl [(h0, .inr (7, [.ref ab, .int 7])), (ab, .inl (kb, 440, .inl fc))] t.heap ∧ va_K (dC, dI) vwCl [(kb, .byte)] t ∧ va_D (va_A [(h0, .inr (7, [.ref ab, .int 6])), (ab, .inl (kb, 440, .inl fb))] sz) [(h0, .inr (7, [.ref ab, .int 7])), (ab, .inl (kb, 440, .inl fc))]) (va_A [(h0, .inr (7, [.ref ab, .int 6])), (ab, .inl (kb, 440, .inl fb))] sz)) 0 0 (va_A [(h0, .inr (7, [.ref ab, .int 6])), (ab, .inl (kb, 440, .inl fb))] sz) := by
  refine Met.ofW (cc := cX7_put) (maxL := 2) (ret := none) (by decide) rfl ?_
  intro p e s m args below meth c s₁ B hml hv
  obtain ⟨rfl, hsz, hzX, hP, hK, hD0⟩ := hv
  have hx := B.exec
  have hb := B.bytes
  have hr := B.returns
  have hts := atoms_spec (ws := wsX7_put) B.pre
  have hown : s.vm.findClass RX7 = some m.cls := findClass_of_methodNamed B.named
  have hlocks := B.notSynchronized
  subst hsz
  have hD := hD0.self (sz := s.heap.size)
  generalize hAe : va_A [(h0, .inr (7, [.ref ab, .int 6])), (ab, .inl (kb, 440, .inl fb))] s.heap.size = A at  hD ⊢
  have hA : ∀ q : Nat, s.heap.size ≤ q → A q := fun q h => by rw [← hAe]; exact Or.inr h
  have hS : va_S A s.heap s.heap [] := va_S.rf
  have hP : va_P (dC, dI) vwCl [(h0, .inr (7, [.ref ab, .int 6])), (ab, .inl (kb, 440, .inl fb))] s.heap := hP
  have hl := lv_entry ([.ref h0, .int o9]) (n := 2) (Nat.le_of_ble_eq_true rfl)
  rw [lg_entry_eq]
  generalize (lg_sl ([.ref h0, .int o9]) ++ List.replicate (2 - (lg_sl ([.ref h0, .int o9])).length) Slot.unset).toArray = ls at hl ⊢
  have hl : lv_has ls 2 [(0, .ref h0), (1, .int o9)] := hl
  skip
  refine lv_aload_n hx hb dX7_put_0 rfl (lv_at hl 0 rfl) ?_
  refine va_get (D := (dC, dI)) (ci := 7) (v := .int 6) (C := RX7) (T := TX7) (N := 2) hx hb hts in_X7_put_X7 hown hK hP 0 rfl rfl 1 (by decide) (hts (.fieldLink RX7 21 "ClayAccounts$Text" "size" "I") (by decide +kernel)) (fun _ h9 => h9) rfl dX7_put_1 ?_
  refine lv_aload_n hx hb dX7_put_4 rfl (lv_at hl 0 rfl) ?_
  refine va_get (D := (dC, dI)) (ci := 7) (v := .ref ab) (C := RX7) (T := TX7) (N := 2) hx hb hts in_X7_put_X7 hown hK hP 0 rfl rfl 0 (by decide) (hts (.fieldLink RX7 15 "ClayAccounts$Text" "bytes" "[B") (by decide +kernel)) (fun _ h9 => h9) rfl dX7_put_5 ?_
  refine va_alen (v := 440) hx hb hK hP 1 0 rfl rfl rfl dX7_put_8 ?_
  refine lv_icmp_ge (tgt := 33) hx hb dX7_put_9 (by decide) (fun c9 => absurd c9 (by decide)) (fun c9 => ?_)
  refine lv_aload_n hx hb dX7_put_12 rfl (lv_at hl 0 rfl) ?_
  refine va_get (D := (dC, dI)) (ci := 7) (v := .ref ab) (C := RX7) (T := TX7) (N := 2) hx hb hts in_X7_put_X7 hown hK hP 0 rfl rfl 0 (by decide) (hts (.fieldLink RX7 15 "ClayAccounts$Text" "bytes" "[B") (by decide +kernel)) (fun _ h9 => h9) rfl dX7_put_13 ?_
  refine lv_aload_n hx hb dX7_put_16 rfl (lv_at hl 0 rfl) ?_
  refine va_get (D := (dC, dI)) (ci := 7) (v := .int 6) (C := RX7) (T := TX7) (N := 2) hx hb hts in_X7_put_X7 hown hK hP 0 rfl rfl 1 (by decide) (hts (.fieldLink RX7 21 "ClayAccounts$Text" "size" "I") (by decide +kernel)) (fun _ h9 => h9) rfl dX7_put_17 ?_
  refine lv_iload_n hx hb dX7_put_20 rfl (lv_at hl 1 rfl) ?_
  refine lv_i2b hx hb dX7_put_21 rfl ?_
  refine lv_topi (fun v_1 ev_1 => ?_)
  refine va_bast hx hb hK hP hD hS 1 0 rfl rfl (show ¬ ((6 : Int32) < 0 ∨ 440 ≤ (6 : Int32).toNatClampNeg) by decide) dX7_put_22 (fun H locs hP hD hS => ?_)
  have hP : va_P (dC, dI) vwCl [(h0, .inr (7, [.ref ab, .int 6])), (ab, .inl (kb, 440, .inl (upd fb (6 : Int32).toNatClampNeg (vp_nar .byte v_1))))] H := hP
  have hD : va_D A [(h0, .inr (7, [.ref ab, .int 6])), (ab, .inl (kb, 440, .inl (upd fb (6 : Int32).toNatClampNeg (vp_nar .byte v_1))))] := hD
  generalize upd fb (6 : Int32).toNatClampNeg (vp_nar .byte v_1) = f_2 at hP hD
  refine lv_aload_n hx hb dX7_put_23 rfl (lv_at hl 0 rfl) ?_
  refine lv_dup hx hb dX7_put_24 rfl ?_
  refine va_get (D := (dC, dI)) (ci := 7) (v := .int 6) (C := RX7) (T := TX7) (N := 2) hx hb hts in_X7_put_X7 hown hK hP 0 rfl rfl 1 (by decide) (hts (.fieldLink RX7 21 "ClayAccounts$Text" "size" "I") (by decide +kernel)) (fun _ h9 => h9) rfl dX7_put_25 ?_
  refine lv_iconst (v := 1) hx hb dX7_put_28 (by decide) ?_
  refine lv_iadd hx hb dX7_put_29 ?_
  refine zz_top (y := 7) (by decide) ?_
  refine va_put (D := (dC, dI)) (ci := 7) (v := .int 7) (ty := .int) (C := RX7) (T := TX7) (N := 2) hx hb hts in_X7_put_X7 tyX7 tyX7_ok nmX7 hown hK hP hD hS 0 rfl rfl 1 (by decide) (hts (.fieldLink RX7 21 "ClayAccounts$Text" "size" "I") (by decide +kernel)) (fun _ h9 => h9) rfl (by decide +kernel) rfl rfl (Nat.le_of_ble_eq_true rfl) dX7_put_30 (fun H locs hP hD hS => ?_)
  have hP : va_P (dC, dI) vwCl [(h0, .inr (7, [.ref ab, .int 7])), (ab, .inl (kb, 440, .inl f_2))] H := hP
  have hD : va_D A [(h0, .inr (7, [.ref ab, .int 7])), (ab, .inl (kb, 440, .inl f_2))] := hD
  have hP9 := hP.sub (ws' := [(h0, .inr (7, [.ref ab, .int 7])), (ab, .inl (kb, 440, .inl f_2))]) [0, 1] rfl
  have hD9 := hD.sub (ws' := [(h0, .inr (7, [.ref ab, .int 7])), (ab, .inl (kb, 440, .inl f_2))]) [0, 1] (by decide) rfl
  have hK9 := hK.sub (tys' := [(kb, .byte)]) [0] rfl
  refine W.widen (k := 0) (n := 0) (Nat.le_of_ble_eq_true rfl) (Nat.le_of_ble_eq_true rfl) ?_
  exact W.vret hx hb hr (fun t ht hW => ⟨⟨(), rfl, trivial, f_2, by rw [ht]; exact hP9, va_K.moved hW.alike hK9, hD9⟩, hS.F ht⟩) hS.2.2 dX7_put_33
set_option maxHeartbeats 4000000 in
set_option maxRecDepth 100000 in
theorem c_put_7 (l : Launch) (dC : Nat → ClassId) (dI : Nat → Nat → Nat) (h0 : Nat) (ab : Nat) (kb : ClassId) (fb : Nat → Int32) (o9 : Int32) (sz : Nat)  : Met l yX7_put wsX7_put ({ frames := 0, cells := 0, slots := 0, locals := 0 } : Room) (va_Pc [.ref h0, .int o9] (fun U => U.heap.size = sz ∧ zz_X U ∧ va_P (dC, dI) vwCl [(h0, .inr (7, [.ref ab, .int 7])), (ab, .inl (kb, 440, .inl fb))] U.heap ∧ va_K (dC, dI) vwCl [(kb, .byte)] U ∧ va_D (fun _ => True) [(h0, .inr (7, [.ref ab, .int 7])), (ab, .inl (kb, 440, .inl fb))])) (va_Qv (fun (_ : Unit) => True) (fun (_ : Unit) (t : State) => ∃ (fc : Nat → Int32), va_P (dC, dI) vwCl [(h0, .inr (7, [.ref ab, .int 8])), (ab, .inl (kb, 440, .inl fc))] t.heap ∧ va_K (dC, dI) vwCl [(kb, .byte)] t ∧ va_D (va_A [(h0, .inr (7, [.ref ab, .int 7])), (ab, .inl (kb, 440, .inl fb))] sz) [(h0, .inr (7, [.ref ab, .int 8])), (ab, .inl (kb, 440, .inl fc))]) (va_A [(h0, .inr (7, [.ref ab, .int 7])), (ab, .inl (kb, 440, .inl fb))] sz)) 0 0 (va_A [(h0, .inr (7, [.ref ab, .int 7])), (ab, .inl (kb, 440, .inl fb))] sz) := by
  refine Met.ofW (cc := cX7_put) (maxL := 2) (ret := none) (by decide) rfl ?_
  intro p e s m args below meth c s₁ B hml hv
  obtain ⟨rfl, hsz, hzX, hP, hK, hD0⟩ := hv
  have hx := B.exec
  have hb := B.bytes
  have hr := B.returns
  have hts := atoms_spec (ws := wsX7_put) B.pre
  have hown : s.vm.findClass RX7 = some m.cls := findClass_of_methodNamed B.named
  have hlocks := B.notSynchronized
  subst hsz
  have hD := hD0.self (sz := s.heap.size)
  generalize hAe : va_A [(h0, .inr (7, [.ref ab, .int 7])), (ab, .inl (kb, 440, .inl fb))] s.heap.size = A at  hD ⊢
  have hA : ∀ q : Nat, s.heap.size ≤ q → A q := fun q h => by rw [← hAe]; exact Or.inr h
  have hS : va_S A s.heap s.heap [] := va_S.rf
  have hP : va_P (dC, dI) vwCl [(h0, .inr (7, [.ref ab, .int 7])), (ab, .inl (kb, 440, .inl fb))] s.heap := hP
  have hl := lv_entry ([.ref h0, .int o9]) (n := 2) (Nat.le_of_ble_eq_true rfl)
  rw [lg_entry_eq]
  generalize (lg_sl ([.ref h0, .int o9]) ++ List.replicate (2 - (lg_sl ([.ref h0, .int o9])).length) Slot.unset).toArray = ls at hl ⊢
  have hl : lv_has ls 2 [(0, .ref h0), (1, .int o9)] := hl
  skip
  refine lv_aload_n hx hb dX7_put_0 rfl (lv_at hl 0 rfl) ?_
  refine va_get (D := (dC, dI)) (ci := 7) (v := .int 7) (C := RX7) (T := TX7) (N := 2) hx hb hts in_X7_put_X7 hown hK hP 0 rfl rfl 1 (by decide) (hts (.fieldLink RX7 21 "ClayAccounts$Text" "size" "I") (by decide +kernel)) (fun _ h9 => h9) rfl dX7_put_1 ?_
  refine lv_aload_n hx hb dX7_put_4 rfl (lv_at hl 0 rfl) ?_
  refine va_get (D := (dC, dI)) (ci := 7) (v := .ref ab) (C := RX7) (T := TX7) (N := 2) hx hb hts in_X7_put_X7 hown hK hP 0 rfl rfl 0 (by decide) (hts (.fieldLink RX7 15 "ClayAccounts$Text" "bytes" "[B") (by decide +kernel)) (fun _ h9 => h9) rfl dX7_put_5 ?_
  refine va_alen (v := 440) hx hb hK hP 1 0 rfl rfl rfl dX7_put_8 ?_
  refine lv_icmp_ge (tgt := 33) hx hb dX7_put_9 (by decide) (fun c9 => absurd c9 (by decide)) (fun c9 => ?_)
  refine lv_aload_n hx hb dX7_put_12 rfl (lv_at hl 0 rfl) ?_
  refine va_get (D := (dC, dI)) (ci := 7) (v := .ref ab) (C := RX7) (T := TX7) (N := 2) hx hb hts in_X7_put_X7 hown hK hP 0 rfl rfl 0 (by decide) (hts (.fieldLink RX7 15 "ClayAccounts$Text" "bytes" "[B") (by decide +kernel)) (fun _ h9 => h9) rfl dX7_put_13 ?_
  refine lv_aload_n hx hb dX7_put_16 rfl (lv_at hl 0 rfl) ?_
  refine va_get (D := (dC, dI)) (ci := 7) (v := .int 7) (C := RX7) (T := TX7) (N := 2) hx hb hts in_X7_put_X7 hown hK hP 0 rfl rfl 1 (by decide) (hts (.fieldLink RX7 21 "ClayAccounts$Text" "size" "I") (by decide +kernel)) (fun _ h9 => h9) rfl dX7_put_17 ?_
  refine lv_iload_n hx hb dX7_put_20 rfl (lv_at hl 1 rfl) ?_
  refine lv_i2b hx hb dX7_put_21 rfl ?_
  refine lv_topi (fun v_1 ev_1 => ?_)
  refine va_bast hx hb hK hP hD hS 1 0 rfl rfl (show ¬ ((7 : Int32) < 0 ∨ 440 ≤ (7 : Int32).toNatClampNeg) by decide) dX7_put_22 (fun H locs hP hD hS => ?_)
  have hP : va_P (dC, dI) vwCl [(h0, .inr (7, [.ref ab, .int 7])), (ab, .inl (kb, 440, .inl (upd fb (7 : Int32).toNatClampNeg (vp_nar .byte v_1))))] H := hP
  have hD : va_D A [(h0, .inr (7, [.ref ab, .int 7])), (ab, .inl (kb, 440, .inl (upd fb (7 : Int32).toNatClampNeg (vp_nar .byte v_1))))] := hD
  generalize upd fb (7 : Int32).toNatClampNeg (vp_nar .byte v_1) = f_2 at hP hD
  refine lv_aload_n hx hb dX7_put_23 rfl (lv_at hl 0 rfl) ?_
  refine lv_dup hx hb dX7_put_24 rfl ?_
  refine va_get (D := (dC, dI)) (ci := 7) (v := .int 7) (C := RX7) (T := TX7) (N := 2) hx hb hts in_X7_put_X7 hown hK hP 0 rfl rfl 1 (by decide) (hts (.fieldLink RX7 21 "ClayAccounts$Text" "size" "I") (by decide +kernel)) (fun _ h9 => h9) rfl dX7_put_25 ?_
  refine lv_iconst (v := 1) hx hb dX7_put_28 (by decide) ?_
  refine lv_iadd hx hb dX7_put_29 ?_
  refine zz_top (y := 8) (by decide) ?_
  refine va_put (D := (dC, dI)) (ci := 7) (v := .int 8) (ty := .int) (C := RX7) (T := TX7) (N := 2) hx hb hts in_X7_put_X7 tyX7 tyX7_ok nmX7 hown hK hP hD hS 0 rfl rfl 1 (by decide) (hts (.fieldLink RX7 21 "ClayAccounts$Text" "size" "I") (by decide +kernel)) (fun _ h9 => h9) rfl (by decide +kernel) rfl rfl (Nat.le_of_ble_eq_true rfl) dX7_put_30 (fun H locs hP hD hS => ?_)
  have hP : va_P (dC, dI) vwCl [(h0, .inr (7, [.ref ab, .int 8])), (ab, .inl (kb, 440, .inl f_2))] H := hP
  have hD : va_D A [(h0, .inr (7, [.ref ab, .int 8])), (ab, .inl (kb, 440, .inl f_2))] := hD
  have hP9 := hP.sub (ws' := [(h0, .inr (7, [.ref ab, .int 8])), (ab, .inl (kb, 440, .inl f_2))]) [0, 1] rfl
  have hD9 := hD.sub (ws' := [(h0, .inr (7, [.ref ab, .int 8])), (ab, .inl (kb, 440, .inl f_2))]) [0, 1] (by decide) rfl
  have hK9 := hK.sub (tys' := [(kb, .byte)]) [0] rfl
  refine W.widen (k := 0) (n := 0) (Nat.le_of_ble_eq_true rfl) (Nat.le_of_ble_eq_true rfl) ?_
  exact W.vret hx hb hr (fun t ht hW => ⟨⟨(), rfl, trivial, f_2, by rw [ht]; exact hP9, va_K.moved hW.alike hK9, hD9⟩, hS.F ht⟩) hS.2.2 dX7_put_33
set_option maxHeartbeats 4000000 in
set_option maxRecDepth 100000 in
theorem c_put_8 (l : Launch) (dC : Nat → ClassId) (dI : Nat → Nat → Nat) (h0 : Nat) (ab : Nat) (kb : ClassId) (fb : Nat → Int32) (o9 : Int32) (sz : Nat)  : Met l yX7_put wsX7_put ({ frames := 0, cells := 0, slots := 0, locals := 0 } : Room) (va_Pc [.ref h0, .int o9] (fun U => U.heap.size = sz ∧ zz_X U ∧ va_P (dC, dI) vwCl [(h0, .inr (7, [.ref ab, .int 8])), (ab, .inl (kb, 440, .inl fb))] U.heap ∧ va_K (dC, dI) vwCl [(kb, .byte)] U ∧ va_D (fun _ => True) [(h0, .inr (7, [.ref ab, .int 8])), (ab, .inl (kb, 440, .inl fb))])) (va_Qv (fun (_ : Unit) => True) (fun (_ : Unit) (t : State) => ∃ (fc : Nat → Int32), va_P (dC, dI) vwCl [(h0, .inr (7, [.ref ab, .int 9])), (ab, .inl (kb, 440, .inl fc))] t.heap ∧ va_K (dC, dI) vwCl [(kb, .byte)] t ∧ va_D (va_A [(h0, .inr (7, [.ref ab, .int 8])), (ab, .inl (kb, 440, .inl fb))] sz) [(h0, .inr (7, [.ref ab, .int 9])), (ab, .inl (kb, 440, .inl fc))]) (va_A [(h0, .inr (7, [.ref ab, .int 8])), (ab, .inl (kb, 440, .inl fb))] sz)) 0 0 (va_A [(h0, .inr (7, [.ref ab, .int 8])), (ab, .inl (kb, 440, .inl fb))] sz) := by
  refine Met.ofW (cc := cX7_put) (maxL := 2) (ret := none) (by decide) rfl ?_
  intro p e s m args below meth c s₁ B hml hv
  obtain ⟨rfl, hsz, hzX, hP, hK, hD0⟩ := hv
  have hx := B.exec
  have hb := B.bytes
  have hr := B.returns
  have hts := atoms_spec (ws := wsX7_put) B.pre
  have hown : s.vm.findClass RX7 = some m.cls := findClass_of_methodNamed B.named
  have hlocks := B.notSynchronized
  subst hsz
  have hD := hD0.self (sz := s.heap.size)
  generalize hAe : va_A [(h0, .inr (7, [.ref ab, .int 8])), (ab, .inl (kb, 440, .inl fb))] s.heap.size = A at  hD ⊢
  have hA : ∀ q : Nat, s.heap.size ≤ q → A q := fun q h => by rw [← hAe]; exact Or.inr h
  have hS : va_S A s.heap s.heap [] := va_S.rf
  have hP : va_P (dC, dI) vwCl [(h0, .inr (7, [.ref ab, .int 8])), (ab, .inl (kb, 440, .inl fb))] s.heap := hP
  have hl := lv_entry ([.ref h0, .int o9]) (n := 2) (Nat.le_of_ble_eq_true rfl)
  rw [lg_entry_eq]
  generalize (lg_sl ([.ref h0, .int o9]) ++ List.replicate (2 - (lg_sl ([.ref h0, .int o9])).length) Slot.unset).toArray = ls at hl ⊢
  have hl : lv_has ls 2 [(0, .ref h0), (1, .int o9)] := hl
  skip
  refine lv_aload_n hx hb dX7_put_0 rfl (lv_at hl 0 rfl) ?_
  refine va_get (D := (dC, dI)) (ci := 7) (v := .int 8) (C := RX7) (T := TX7) (N := 2) hx hb hts in_X7_put_X7 hown hK hP 0 rfl rfl 1 (by decide) (hts (.fieldLink RX7 21 "ClayAccounts$Text" "size" "I") (by decide +kernel)) (fun _ h9 => h9) rfl dX7_put_1 ?_
  refine lv_aload_n hx hb dX7_put_4 rfl (lv_at hl 0 rfl) ?_
  refine va_get (D := (dC, dI)) (ci := 7) (v := .ref ab) (C := RX7) (T := TX7) (N := 2) hx hb hts in_X7_put_X7 hown hK hP 0 rfl rfl 0 (by decide) (hts (.fieldLink RX7 15 "ClayAccounts$Text" "bytes" "[B") (by decide +kernel)) (fun _ h9 => h9) rfl dX7_put_5 ?_
  refine va_alen (v := 440) hx hb hK hP 1 0 rfl rfl rfl dX7_put_8 ?_
  refine lv_icmp_ge (tgt := 33) hx hb dX7_put_9 (by decide) (fun c9 => absurd c9 (by decide)) (fun c9 => ?_)
  refine lv_aload_n hx hb dX7_put_12 rfl (lv_at hl 0 rfl) ?_
  refine va_get (D := (dC, dI)) (ci := 7) (v := .ref ab) (C := RX7) (T := TX7) (N := 2) hx hb hts in_X7_put_X7 hown hK hP 0 rfl rfl 0 (by decide) (hts (.fieldLink RX7 15 "ClayAccounts$Text" "bytes" "[B") (by decide +kernel)) (fun _ h9 => h9) rfl dX7_put_13 ?_
  refine lv_aload_n hx hb dX7_put_16 rfl (lv_at hl 0 rfl) ?_
  refine va_get (D := (dC, dI)) (ci := 7) (v := .int 8) (C := RX7) (T := TX7) (N := 2) hx hb hts in_X7_put_X7 hown hK hP 0 rfl rfl 1 (by decide) (hts (.fieldLink RX7 21 "ClayAccounts$Text" "size" "I") (by decide +kernel)) (fun _ h9 => h9) rfl dX7_put_17 ?_
  refine lv_iload_n hx hb dX7_put_20 rfl (lv_at hl 1 rfl) ?_
  refine lv_i2b hx hb dX7_put_21 rfl ?_
  refine lv_topi (fun v_1 ev_1 => ?_)
  refine va_bast hx hb hK hP hD hS 1 0 rfl rfl (show ¬ ((8 : Int32) < 0 ∨ 440 ≤ (8 : Int32).toNatClampNeg) by decide) dX7_put_22 (fun H locs hP hD hS => ?_)
  have hP : va_P (dC, dI) vwCl [(h0, .inr (7, [.ref ab, .int 8])), (ab, .inl (kb, 440, .inl (upd fb (8 : Int32).toNatClampNeg (vp_nar .byte v_1))))] H := hP
  have hD : va_D A [(h0, .inr (7, [.ref ab, .int 8])), (ab, .inl (kb, 440, .inl (upd fb (8 : Int32).toNatClampNeg (vp_nar .byte v_1))))] := hD
  generalize upd fb (8 : Int32).toNatClampNeg (vp_nar .byte v_1) = f_2 at hP hD
  refine lv_aload_n hx hb dX7_put_23 rfl (lv_at hl 0 rfl) ?_
  refine lv_dup hx hb dX7_put_24 rfl ?_
  refine va_get (D := (dC, dI)) (ci := 7) (v := .int 8) (C := RX7) (T := TX7) (N := 2) hx hb hts in_X7_put_X7 hown hK hP 0 rfl rfl 1 (by decide) (hts (.fieldLink RX7 21 "ClayAccounts$Text" "size" "I") (by decide +kernel)) (fun _ h9 => h9) rfl dX7_put_25 ?_
  refine lv_iconst (v := 1) hx hb dX7_put_28 (by decide) ?_
  refine lv_iadd hx hb dX7_put_29 ?_
  refine zz_top (y := 9) (by decide) ?_
  refine va_put (D := (dC, dI)) (ci := 7) (v := .int 9) (ty := .int) (C := RX7) (T := TX7) (N := 2) hx hb hts in_X7_put_X7 tyX7 tyX7_ok nmX7 hown hK hP hD hS 0 rfl rfl 1 (by decide) (hts (.fieldLink RX7 21 "ClayAccounts$Text" "size" "I") (by decide +kernel)) (fun _ h9 => h9) rfl (by decide +kernel) rfl rfl (Nat.le_of_ble_eq_true rfl) dX7_put_30 (fun H locs hP hD hS => ?_)
  have hP : va_P (dC, dI) vwCl [(h0, .inr (7, [.ref ab, .int 9])), (ab, .inl (kb, 440, .inl f_2))] H := hP
  have hD : va_D A [(h0, .inr (7, [.ref ab, .int 9])), (ab, .inl (kb, 440, .inl f_2))] := hD
  have hP9 := hP.sub (ws' := [(h0, .inr (7, [.ref ab, .int 9])), (ab, .inl (kb, 440, .inl f_2))]) [0, 1] rfl
  have hD9 := hD.sub (ws' := [(h0, .inr (7, [.ref ab, .int 9])), (ab, .inl (kb, 440, .inl f_2))]) [0, 1] (by decide) rfl
  have hK9 := hK.sub (tys' := [(kb, .byte)]) [0] rfl
  refine W.widen (k := 0) (n := 0) (Nat.le_of_ble_eq_true rfl) (Nat.le_of_ble_eq_true rfl) ?_
  exact W.vret hx hb hr (fun t ht hW => ⟨⟨(), rfl, trivial, f_2, by rw [ht]; exact hP9, va_K.moved hW.alike hK9, hD9⟩, hS.F ht⟩) hS.2.2 dX7_put_33
set_option maxHeartbeats 4000000 in
set_option maxRecDepth 100000 in
theorem c_put_9 (l : Launch) (dC : Nat → ClassId) (dI : Nat → Nat → Nat) (h0 : Nat) (ab : Nat) (kb : ClassId) (fb : Nat → Int32) (o9 : Int32) (sz : Nat)  : Met l yX7_put wsX7_put ({ frames := 0, cells := 0, slots := 0, locals := 0 } : Room) (va_Pc [.ref h0, .int o9] (fun U => U.heap.size = sz ∧ zz_X U ∧ va_P (dC, dI) vwCl [(h0, .inr (7, [.ref ab, .int 9])), (ab, .inl (kb, 440, .inl fb))] U.heap ∧ va_K (dC, dI) vwCl [(kb, .byte)] U ∧ va_D (fun _ => True) [(h0, .inr (7, [.ref ab, .int 9])), (ab, .inl (kb, 440, .inl fb))])) (va_Qv (fun (_ : Unit) => True) (fun (_ : Unit) (t : State) => ∃ (fc : Nat → Int32), va_P (dC, dI) vwCl [(h0, .inr (7, [.ref ab, .int 10])), (ab, .inl (kb, 440, .inl fc))] t.heap ∧ va_K (dC, dI) vwCl [(kb, .byte)] t ∧ va_D (va_A [(h0, .inr (7, [.ref ab, .int 9])), (ab, .inl (kb, 440, .inl fb))] sz) [(h0, .inr (7, [.ref ab, .int 10])), (ab, .inl (kb, 440, .inl fc))]) (va_A [(h0, .inr (7, [.ref ab, .int 9])), (ab, .inl (kb, 440, .inl fb))] sz)) 0 0 (va_A [(h0, .inr (7, [.ref ab, .int 9])), (ab, .inl (kb, 440, .inl fb))] sz) := by
  refine Met.ofW (cc := cX7_put) (maxL := 2) (ret := none) (by decide) rfl ?_
  intro p e s m args below meth c s₁ B hml hv
  obtain ⟨rfl, hsz, hzX, hP, hK, hD0⟩ := hv
  have hx := B.exec
  have hb := B.bytes
  have hr := B.returns
  have hts := atoms_spec (ws := wsX7_put) B.pre
  have hown : s.vm.findClass RX7 = some m.cls := findClass_of_methodNamed B.named
  have hlocks := B.notSynchronized
  subst hsz
  have hD := hD0.self (sz := s.heap.size)
  generalize hAe : va_A [(h0, .inr (7, [.ref ab, .int 9])), (ab, .inl (kb, 440, .inl fb))] s.heap.size = A at  hD ⊢
  have hA : ∀ q : Nat, s.heap.size ≤ q → A q := fun q h => by rw [← hAe]; exact Or.inr h
  have hS : va_S A s.heap s.heap [] := va_S.rf
  have hP : va_P (dC, dI) vwCl [(h0, .inr (7, [.ref ab, .int 9])), (ab, .inl (kb, 440, .inl fb))] s.heap := hP
  have hl := lv_entry ([.ref h0, .int o9]) (n := 2) (Nat.le_of_ble_eq_true rfl)
  rw [lg_entry_eq]
  generalize (lg_sl ([.ref h0, .int o9]) ++ List.replicate (2 - (lg_sl ([.ref h0, .int o9])).length) Slot.unset).toArray = ls at hl ⊢
  have hl : lv_has ls 2 [(0, .ref h0), (1, .int o9)] := hl
  skip
  refine lv_aload_n hx hb dX7_put_0 rfl (lv_at hl 0 rfl) ?_
  refine va_get (D := (dC, dI)) (ci := 7) (v := .int 9) (C := RX7) (T := TX7) (N := 2) hx hb hts in_X7_put_X7 hown hK hP 0 rfl rfl 1 (by decide) (hts (.fieldLink RX7 21 "ClayAccounts$Text" "size" "I") (by decide +kernel)) (fun _ h9 => h9) rfl dX7_put_1 ?_
  refine lv_aload_n hx hb dX7_put_4 rfl (lv_at hl 0 rfl) ?_
  refine va_get (D := (dC, dI)) (ci := 7) (v := .ref ab) (C := RX7) (T := TX7) (N := 2) hx hb hts in_X7_put_X7 hown hK hP 0 rfl rfl 0 (by decide) (hts (.fieldLink RX7 15 "ClayAccounts$Text" "bytes" "[B") (by decide +kernel)) (fun _ h9 => h9) rfl dX7_put_5 ?_
  refine va_alen (v := 440) hx hb hK hP 1 0 rfl rfl rfl dX7_put_8 ?_
  refine lv_icmp_ge (tgt := 33) hx hb dX7_put_9 (by decide) (fun c9 => absurd c9 (by decide)) (fun c9 => ?_)
  refine lv_aload_n hx hb dX7_put_12 rfl (lv_at hl 0 rfl) ?_
  refine va_get (D := (dC, dI)) (ci := 7) (v := .ref ab) (C := RX7) (T := TX7) (N := 2) hx hb hts in_X7_put_X7 hown hK hP 0 rfl rfl 0 (by decide) (hts (.fieldLink RX7 15 "ClayAccounts$Text" "bytes" "[B") (by decide +kernel)) (fun _ h9 => h9) rfl dX7_put_13 ?_
  refine lv_aload_n hx hb dX7_put_16 rfl (lv_at hl 0 rfl) ?_
  refine va_get (D := (dC, dI)) (ci := 7) (v := .int 9) (C := RX7) (T := TX7) (N := 2) hx hb hts in_X7_put_X7 hown hK hP 0 rfl rfl 1 (by decide) (hts (.fieldLink RX7 21 "ClayAccounts$Text" "size" "I") (by decide +kernel)) (fun _ h9 => h9) rfl dX7_put_17 ?_
  refine lv_iload_n hx hb dX7_put_20 rfl (lv_at hl 1 rfl) ?_
  refine lv_i2b hx hb dX7_put_21 rfl ?_
  refine lv_topi (fun v_1 ev_1 => ?_)
  refine va_bast hx hb hK hP hD hS 1 0 rfl rfl (show ¬ ((9 : Int32) < 0 ∨ 440 ≤ (9 : Int32).toNatClampNeg) by decide) dX7_put_22 (fun H locs hP hD hS => ?_)
  have hP : va_P (dC, dI) vwCl [(h0, .inr (7, [.ref ab, .int 9])), (ab, .inl (kb, 440, .inl (upd fb (9 : Int32).toNatClampNeg (vp_nar .byte v_1))))] H := hP
  have hD : va_D A [(h0, .inr (7, [.ref ab, .int 9])), (ab, .inl (kb, 440, .inl (upd fb (9 : Int32).toNatClampNeg (vp_nar .byte v_1))))] := hD
  generalize upd fb (9 : Int32).toNatClampNeg (vp_nar .byte v_1) = f_2 at hP hD
  refine lv_aload_n hx hb dX7_put_23 rfl (lv_at hl 0 rfl) ?_
  refine lv_dup hx hb dX7_put_24 rfl ?_
  refine va_get (D := (dC, dI)) (ci := 7) (v := .int 9) (C := RX7) (T := TX7) (N := 2) hx hb hts in_X7_put_X7 hown hK hP 0 rfl rfl 1 (by decide) (hts (.fieldLink RX7 21 "ClayAccounts$Text" "size" "I") (by decide +kernel)) (fun _ h9 => h9) rfl dX7_put_25 ?_
  refine lv_iconst (v := 1) hx hb dX7_put_28 (by decide) ?_
  refine lv_iadd hx hb dX7_put_29 ?_
  refine zz_top (y := 10) (by decide) ?_
  refine va_put (D := (dC, dI)) (ci := 7) (v := .int 10) (ty := .int) (C := RX7) (T := TX7) (N := 2) hx hb hts in_X7_put_X7 tyX7 tyX7_ok nmX7 hown hK hP hD hS 0 rfl rfl 1 (by decide) (hts (.fieldLink RX7 21 "ClayAccounts$Text" "size" "I") (by decide +kernel)) (fun _ h9 => h9) rfl (by decide +kernel) rfl rfl (Nat.le_of_ble_eq_true rfl) dX7_put_30 (fun H locs hP hD hS => ?_)
  have hP : va_P (dC, dI) vwCl [(h0, .inr (7, [.ref ab, .int 10])), (ab, .inl (kb, 440, .inl f_2))] H := hP
  have hD : va_D A [(h0, .inr (7, [.ref ab, .int 10])), (ab, .inl (kb, 440, .inl f_2))] := hD
  have hP9 := hP.sub (ws' := [(h0, .inr (7, [.ref ab, .int 10])), (ab, .inl (kb, 440, .inl f_2))]) [0, 1] rfl
  have hD9 := hD.sub (ws' := [(h0, .inr (7, [.ref ab, .int 10])), (ab, .inl (kb, 440, .inl f_2))]) [0, 1] (by decide) rfl
  have hK9 := hK.sub (tys' := [(kb, .byte)]) [0] rfl
  refine W.widen (k := 0) (n := 0) (Nat.le_of_ble_eq_true rfl) (Nat.le_of_ble_eq_true rfl) ?_
  exact W.vret hx hb hr (fun t ht hW => ⟨⟨(), rfl, trivial, f_2, by rw [ht]; exact hP9, va_K.moved hW.alike hK9, hD9⟩, hS.F ht⟩) hS.2.2 dX7_put_33
set_option maxHeartbeats 4000000 in
set_option maxRecDepth 100000 in
theorem c_put_10 (l : Launch) (dC : Nat → ClassId) (dI : Nat → Nat → Nat) (h0 : Nat) (ab : Nat) (kb : ClassId) (fb : Nat → Int32) (o9 : Int32) (sz : Nat)  : Met l yX7_put wsX7_put ({ frames := 0, cells := 0, slots := 0, locals := 0 } : Room) (va_Pc [.ref h0, .int o9] (fun U => U.heap.size = sz ∧ zz_X U ∧ va_P (dC, dI) vwCl [(h0, .inr (7, [.ref ab, .int 10])), (ab, .inl (kb, 440, .inl fb))] U.heap ∧ va_K (dC, dI) vwCl [(kb, .byte)] U ∧ va_D (fun _ => True) [(h0, .inr (7, [.ref ab, .int 10])), (ab, .inl (kb, 440, .inl fb))])) (va_Qv (fun (_ : Unit) => True) (fun (_ : Unit) (t : State) => ∃ (fc : Nat → Int32), va_P (dC, dI) vwCl [(h0, .inr (7, [.ref ab, .int 11])), (ab, .inl (kb, 440, .inl fc))] t.heap ∧ va_K (dC, dI) vwCl [(kb, .byte)] t ∧ va_D (va_A [(h0, .inr (7, [.ref ab, .int 10])), (ab, .inl (kb, 440, .inl fb))] sz) [(h0, .inr (7, [.ref ab, .int 11])), (ab, .inl (kb, 440, .inl fc))]) (va_A [(h0, .inr (7, [.ref ab, .int 10])), (ab, .inl (kb, 440, .inl fb))] sz)) 0 0 (va_A [(h0, .inr (7, [.ref ab, .int 10])), (ab, .inl (kb, 440, .inl fb))] sz) := by
  refine Met.ofW (cc := cX7_put) (maxL := 2) (ret := none) (by decide) rfl ?_
  intro p e s m args below meth c s₁ B hml hv
  obtain ⟨rfl, hsz, hzX, hP, hK, hD0⟩ := hv
  have hx := B.exec
  have hb := B.bytes
  have hr := B.returns
  have hts := atoms_spec (ws := wsX7_put) B.pre
  have hown : s.vm.findClass RX7 = some m.cls := findClass_of_methodNamed B.named
  have hlocks := B.notSynchronized
  subst hsz
  have hD := hD0.self (sz := s.heap.size)
  generalize hAe : va_A [(h0, .inr (7, [.ref ab, .int 10])), (ab, .inl (kb, 440, .inl fb))] s.heap.size = A at  hD ⊢
  have hA : ∀ q : Nat, s.heap.size ≤ q → A q := fun q h => by rw [← hAe]; exact Or.inr h
  have hS : va_S A s.heap s.heap [] := va_S.rf
  have hP : va_P (dC, dI) vwCl [(h0, .inr (7, [.ref ab, .int 10])), (ab, .inl (kb, 440, .inl fb))] s.heap := hP
  have hl := lv_entry ([.ref h0, .int o9]) (n := 2) (Nat.le_of_ble_eq_true rfl)
  rw [lg_entry_eq]
  generalize (lg_sl ([.ref h0, .int o9]) ++ List.replicate (2 - (lg_sl ([.ref h0, .int o9])).length) Slot.unset).toArray = ls at hl ⊢
  have hl : lv_has ls 2 [(0, .ref h0), (1, .int o9)] := hl
  skip
  refine lv_aload_n hx hb dX7_put_0 rfl (lv_at hl 0 rfl) ?_
  refine va_get (D := (dC, dI)) (ci := 7) (v := .int 10) (C := RX7) (T := TX7) (N := 2) hx hb hts in_X7_put_X7 hown hK hP 0 rfl rfl 1 (by decide) (hts (.fieldLink RX7 21 "ClayAccounts$Text" "size" "I") (by decide +kernel)) (fun _ h9 => h9) rfl dX7_put_1 ?_
  refine lv_aload_n hx hb dX7_put_4 rfl (lv_at hl 0 rfl) ?_
  refine va_get (D := (dC, dI)) (ci := 7) (v := .ref ab) (C := RX7) (T := TX7) (N := 2) hx hb hts in_X7_put_X7 hown hK hP 0 rfl rfl 0 (by decide) (hts (.fieldLink RX7 15 "ClayAccounts$Text" "bytes" "[B") (by decide +kernel)) (fun _ h9 => h9) rfl dX7_put_5 ?_
  refine va_alen (v := 440) hx hb hK hP 1 0 rfl rfl rfl dX7_put_8 ?_
  refine lv_icmp_ge (tgt := 33) hx hb dX7_put_9 (by decide) (fun c9 => absurd c9 (by decide)) (fun c9 => ?_)
  refine lv_aload_n hx hb dX7_put_12 rfl (lv_at hl 0 rfl) ?_
  refine va_get (D := (dC, dI)) (ci := 7) (v := .ref ab) (C := RX7) (T := TX7) (N := 2) hx hb hts in_X7_put_X7 hown hK hP 0 rfl rfl 0 (by decide) (hts (.fieldLink RX7 15 "ClayAccounts$Text" "bytes" "[B") (by decide +kernel)) (fun _ h9 => h9) rfl dX7_put_13 ?_
  refine lv_aload_n hx hb dX7_put_16 rfl (lv_at hl 0 rfl) ?_
  refine va_get (D := (dC, dI)) (ci := 7) (v := .int 10) (C := RX7) (T := TX7) (N := 2) hx hb hts in_X7_put_X7 hown hK hP 0 rfl rfl 1 (by decide) (hts (.fieldLink RX7 21 "ClayAccounts$Text" "size" "I") (by decide +kernel)) (fun _ h9 => h9) rfl dX7_put_17 ?_
  refine lv_iload_n hx hb dX7_put_20 rfl (lv_at hl 1 rfl) ?_
  refine lv_i2b hx hb dX7_put_21 rfl ?_
  refine lv_topi (fun v_1 ev_1 => ?_)
  refine va_bast hx hb hK hP hD hS 1 0 rfl rfl (show ¬ ((10 : Int32) < 0 ∨ 440 ≤ (10 : Int32).toNatClampNeg) by decide) dX7_put_22 (fun H locs hP hD hS => ?_)
  have hP : va_P (dC, dI) vwCl [(h0, .inr (7, [.ref ab, .int 10])), (ab, .inl (kb, 440, .inl (upd fb (10 : Int32).toNatClampNeg (vp_nar .byte v_1))))] H := hP
  have hD : va_D A [(h0, .inr (7, [.ref ab, .int 10])), (ab, .inl (kb, 440, .inl (upd fb (10 : Int32).toNatClampNeg (vp_nar .byte v_1))))] := hD
  generalize upd fb (10 : Int32).toNatClampNeg (vp_nar .byte v_1) = f_2 at hP hD
  refine lv_aload_n hx hb dX7_put_23 rfl (lv_at hl 0 rfl) ?_
  refine lv_dup hx hb dX7_put_24 rfl ?_
  refine va_get (D := (dC, dI)) (ci := 7) (v := .int 10) (C := RX7) (T := TX7) (N := 2) hx hb hts in_X7_put_X7 hown hK hP 0 rfl rfl 1 (by decide) (hts (.fieldLink RX7 21 "ClayAccounts$Text" "size" "I") (by decide +kernel)) (fun _ h9 => h9) rfl dX7_put_25 ?_
  refine lv_iconst (v := 1) hx hb dX7_put_28 (by decide) ?_
  refine lv_iadd hx hb dX7_put_29 ?_
  refine zz_top (y := 11) (by decide) ?_
  refine va_put (D := (dC, dI)) (ci := 7) (v := .int 11) (ty := .int) (C := RX7) (T := TX7) (N := 2) hx hb hts in_X7_put_X7 tyX7 tyX7_ok nmX7 hown hK hP hD hS 0 rfl rfl 1 (by decide) (hts (.fieldLink RX7 21 "ClayAccounts$Text" "size" "I") (by decide +kernel)) (fun _ h9 => h9) rfl (by decide +kernel) rfl rfl (Nat.le_of_ble_eq_true rfl) dX7_put_30 (fun H locs hP hD hS => ?_)
  have hP : va_P (dC, dI) vwCl [(h0, .inr (7, [.ref ab, .int 11])), (ab, .inl (kb, 440, .inl f_2))] H := hP
  have hD : va_D A [(h0, .inr (7, [.ref ab, .int 11])), (ab, .inl (kb, 440, .inl f_2))] := hD
  have hP9 := hP.sub (ws' := [(h0, .inr (7, [.ref ab, .int 11])), (ab, .inl (kb, 440, .inl f_2))]) [0, 1] rfl
  have hD9 := hD.sub (ws' := [(h0, .inr (7, [.ref ab, .int 11])), (ab, .inl (kb, 440, .inl f_2))]) [0, 1] (by decide) rfl
  have hK9 := hK.sub (tys' := [(kb, .byte)]) [0] rfl
  refine W.widen (k := 0) (n := 0) (Nat.le_of_ble_eq_true rfl) (Nat.le_of_ble_eq_true rfl) ?_
  exact W.vret hx hb hr (fun t ht hW => ⟨⟨(), rfl, trivial, f_2, by rw [ht]; exact hP9, va_K.moved hW.alike hK9, hD9⟩, hS.F ht⟩) hS.2.2 dX7_put_33
set_option maxHeartbeats 4000000 in
set_option maxRecDepth 100000 in
theorem c_put_11 (l : Launch) (dC : Nat → ClassId) (dI : Nat → Nat → Nat) (h0 : Nat) (ab : Nat) (kb : ClassId) (fb : Nat → Int32) (o9 : Int32) (sz : Nat)  : Met l yX7_put wsX7_put ({ frames := 0, cells := 0, slots := 0, locals := 0 } : Room) (va_Pc [.ref h0, .int o9] (fun U => U.heap.size = sz ∧ zz_X U ∧ va_P (dC, dI) vwCl [(h0, .inr (7, [.ref ab, .int 11])), (ab, .inl (kb, 440, .inl fb))] U.heap ∧ va_K (dC, dI) vwCl [(kb, .byte)] U ∧ va_D (fun _ => True) [(h0, .inr (7, [.ref ab, .int 11])), (ab, .inl (kb, 440, .inl fb))])) (va_Qv (fun (_ : Unit) => True) (fun (_ : Unit) (t : State) => ∃ (fc : Nat → Int32), va_P (dC, dI) vwCl [(h0, .inr (7, [.ref ab, .int 12])), (ab, .inl (kb, 440, .inl fc))] t.heap ∧ va_K (dC, dI) vwCl [(kb, .byte)] t ∧ va_D (va_A [(h0, .inr (7, [.ref ab, .int 11])), (ab, .inl (kb, 440, .inl fb))] sz) [(h0, .inr (7, [.ref ab, .int 12])), (ab, .inl (kb, 440, .inl fc))]) (va_A [(h0, .inr (7, [.ref ab, .int 11])), (ab, .inl (kb, 440, .inl fb))] sz)) 0 0 (va_A [(h0, .inr (7, [.ref ab, .int 11])), (ab, .inl (kb, 440, .inl fb))] sz) := by
  refine Met.ofW (cc := cX7_put) (maxL := 2) (ret := none) (by decide) rfl ?_
  intro p e s m args below meth c s₁ B hml hv
  obtain ⟨rfl, hsz, hzX, hP, hK, hD0⟩ := hv
  have hx := B.exec
  have hb := B.bytes
  have hr := B.returns
  have hts := atoms_spec (ws := wsX7_put) B.pre
  have hown : s.vm.findClass RX7 = some m.cls := findClass_of_methodNamed B.named
  have hlocks := B.notSynchronized
  subst hsz
  have hD := hD0.self (sz := s.heap.size)
  generalize hAe : va_A [(h0, .inr (7, [.ref ab, .int 11])), (ab, .inl (kb, 440, .inl fb))] s.heap.size = A at  hD ⊢
  have hA : ∀ q : Nat, s.heap.size ≤ q → A q := fun q h => by rw [← hAe]; exact Or.inr h
  have hS : va_S A s.heap s.heap [] := va_S.rf
  have hP : va_P (dC, dI) vwCl [(h0, .inr (7, [.ref ab, .int 11])), (ab, .inl (kb, 440, .inl fb))] s.heap := hP
  have hl := lv_entry ([.ref h0, .int o9]) (n := 2) (Nat.le_of_ble_eq_true rfl)
  rw [lg_entry_eq]
  generalize (lg_sl ([.ref h0, .int o9]) ++ List.replicate (2 - (lg_sl ([.ref h0, .int o9])).length) Slot.unset).toArray = ls at hl ⊢
  have hl : lv_has ls 2 [(0, .ref h0), (1, .int o9)] := hl
  skip
  refine lv_aload_n hx hb dX7_put_0 rfl (lv_at hl 0 rfl) ?_
  refine va_get (D := (dC, dI)) (ci := 7) (v := .int 11) (C := RX7) (T := TX7) (N := 2) hx hb hts in_X7_put_X7 hown hK hP 0 rfl rfl 1 (by decide) (hts (.fieldLink RX7 21 "ClayAccounts$Text" "size" "I") (by decide +kernel)) (fun _ h9 => h9) rfl dX7_put_1 ?_
  refine lv_aload_n hx hb dX7_put_4 rfl (lv_at hl 0 rfl) ?_
  refine va_get (D := (dC, dI)) (ci := 7) (v := .ref ab) (C := RX7) (T := TX7) (N := 2) hx hb hts in_X7_put_X7 hown hK hP 0 rfl rfl 0 (by decide) (hts (.fieldLink RX7 15 "ClayAccounts$Text" "bytes" "[B") (by decide +kernel)) (fun _ h9 => h9) rfl dX7_put_5 ?_
  refine va_alen (v := 440) hx hb hK hP 1 0 rfl rfl rfl dX7_put_8 ?_
  refine lv_icmp_ge (tgt := 33) hx hb dX7_put_9 (by decide) (fun c9 => absurd c9 (by decide)) (fun c9 => ?_)
  refine lv_aload_n hx hb dX7_put_12 rfl (lv_at hl 0 rfl) ?_
  refine va_get (D := (dC, dI)) (ci := 7) (v := .ref ab) (C := RX7) (T := TX7) (N := 2) hx hb hts in_X7_put_X7 hown hK hP 0 rfl rfl 0 (by decide) (hts (.fieldLink RX7 15 "ClayAccounts$Text" "bytes" "[B") (by decide +kernel)) (fun _ h9 => h9) rfl dX7_put_13 ?_
  refine lv_aload_n hx hb dX7_put_16 rfl (lv_at hl 0 rfl) ?_
  refine va_get (D := (dC, dI)) (ci := 7) (v := .int 11) (C := RX7) (T := TX7) (N := 2) hx hb hts in_X7_put_X7 hown hK hP 0 rfl rfl 1 (by decide) (hts (.fieldLink RX7 21 "ClayAccounts$Text" "size" "I") (by decide +kernel)) (fun _ h9 => h9) rfl dX7_put_17 ?_
  refine lv_iload_n hx hb dX7_put_20 rfl (lv_at hl 1 rfl) ?_
  refine lv_i2b hx hb dX7_put_21 rfl ?_
  refine lv_topi (fun v_1 ev_1 => ?_)
  refine va_bast hx hb hK hP hD hS 1 0 rfl rfl (show ¬ ((11 : Int32) < 0 ∨ 440 ≤ (11 : Int32).toNatClampNeg) by decide) dX7_put_22 (fun H locs hP hD hS => ?_)
  have hP : va_P (dC, dI) vwCl [(h0, .inr (7, [.ref ab, .int 11])), (ab, .inl (kb, 440, .inl (upd fb (11 : Int32).toNatClampNeg (vp_nar .byte v_1))))] H := hP
  have hD : va_D A [(h0, .inr (7, [.ref ab, .int 11])), (ab, .inl (kb, 440, .inl (upd fb (11 : Int32).toNatClampNeg (vp_nar .byte v_1))))] := hD
  generalize upd fb (11 : Int32).toNatClampNeg (vp_nar .byte v_1) = f_2 at hP hD
  refine lv_aload_n hx hb dX7_put_23 rfl (lv_at hl 0 rfl) ?_
  refine lv_dup hx hb dX7_put_24 rfl ?_
  refine va_get (D := (dC, dI)) (ci := 7) (v := .int 11) (C := RX7) (T := TX7) (N := 2) hx hb hts in_X7_put_X7 hown hK hP 0 rfl rfl 1 (by decide) (hts (.fieldLink RX7 21 "ClayAccounts$Text" "size" "I") (by decide +kernel)) (fun _ h9 => h9) rfl dX7_put_25 ?_
  refine lv_iconst (v := 1) hx hb dX7_put_28 (by decide) ?_
  refine lv_iadd hx hb dX7_put_29 ?_
  refine zz_top (y := 12) (by decide) ?_
  refine va_put (D := (dC, dI)) (ci := 7) (v := .int 12) (ty := .int) (C := RX7) (T := TX7) (N := 2) hx hb hts in_X7_put_X7 tyX7 tyX7_ok nmX7 hown hK hP hD hS 0 rfl rfl 1 (by decide) (hts (.fieldLink RX7 21 "ClayAccounts$Text" "size" "I") (by decide +kernel)) (fun _ h9 => h9) rfl (by decide +kernel) rfl rfl (Nat.le_of_ble_eq_true rfl) dX7_put_30 (fun H locs hP hD hS => ?_)
  have hP : va_P (dC, dI) vwCl [(h0, .inr (7, [.ref ab, .int 12])), (ab, .inl (kb, 440, .inl f_2))] H := hP
  have hD : va_D A [(h0, .inr (7, [.ref ab, .int 12])), (ab, .inl (kb, 440, .inl f_2))] := hD
  have hP9 := hP.sub (ws' := [(h0, .inr (7, [.ref ab, .int 12])), (ab, .inl (kb, 440, .inl f_2))]) [0, 1] rfl
  have hD9 := hD.sub (ws' := [(h0, .inr (7, [.ref ab, .int 12])), (ab, .inl (kb, 440, .inl f_2))]) [0, 1] (by decide) rfl
  have hK9 := hK.sub (tys' := [(kb, .byte)]) [0] rfl
  refine W.widen (k := 0) (n := 0) (Nat.le_of_ble_eq_true rfl) (Nat.le_of_ble_eq_true rfl) ?_
  exact W.vret hx hb hr (fun t ht hW => ⟨⟨(), rfl, trivial, f_2, by rw [ht]; exact hP9, va_K.moved hW.alike hK9, hD9⟩, hS.F ht⟩) hS.2.2 dX7_put_33
set_option maxHeartbeats 4000000 in
set_option maxRecDepth 100000 in
theorem c_put_12 (l : Launch) (dC : Nat → ClassId) (dI : Nat → Nat → Nat) (h0 : Nat) (ab : Nat) (kb : ClassId) (fb : Nat → Int32) (o9 : Int32) (sz : Nat)  : Met l yX7_put wsX7_put ({ frames := 0, cells := 0, slots := 0, locals := 0 } : Room) (va_Pc [.ref h0, .int o9] (fun U => U.heap.size = sz ∧ zz_X U ∧ va_P (dC, dI) vwCl [(h0, .inr (7, [.ref ab, .int 12])), (ab, .inl (kb, 440, .inl fb))] U.heap ∧ va_K (dC, dI) vwCl [(kb, .byte)] U ∧ va_D (fun _ => True) [(h0, .inr (7, [.ref ab, .int 12])), (ab, .inl (kb, 440, .inl fb))])) (va_Qv (fun (_ : Unit) => True) (fun (_ : Unit) (t : State) => ∃ (fc : Nat → Int32), va_P (dC, dI) vwCl [(h0, .inr (7, [.ref ab, .int 13])), (ab, .inl (kb, 440, .inl fc))] t.heap ∧ va_K (dC, dI) vwCl [(kb, .byte)] t ∧ va_D (va_A [(h0, .inr (7, [.ref ab, .int 12])), (ab, .inl (kb, 440, .inl fb))] sz) [(h0, .inr (7, [.ref ab, .int 13])), (ab, .inl (kb, 440, .inl fc))]) (va_A [(h0, .inr (7, [.ref ab, .int 12])), (ab, .inl (kb, 440, .inl fb))] sz)) 0 0 (va_A [(h0, .inr (7, [.ref ab, .int 12])), (ab, .inl (kb, 440, .inl fb))] sz) := by
  refine Met.ofW (cc := cX7_put) (maxL := 2) (ret := none) (by decide) rfl ?_
  intro p e s m args below meth c s₁ B hml hv
  obtain ⟨rfl, hsz, hzX, hP, hK, hD0⟩ := hv
  have hx := B.exec
  have hb := B.bytes
  have hr := B.returns
  have hts := atoms_spec (ws := wsX7_put) B.pre
  have hown : s.vm.findClass RX7 = some m.cls := findClass_of_methodNamed B.named
  have hlocks := B.notSynchronized
  subst hsz
  have hD := hD0.self (sz := s.heap.size)
  generalize hAe : va_A [(h0, .inr (7, [.ref ab, .int 12])), (ab, .inl (kb, 440, .inl fb))] s.heap.size = A at  hD ⊢
  have hA : ∀ q : Nat, s.heap.size ≤ q → A q := fun q h => by rw [← hAe]; exact Or.inr h
  have hS : va_S A s.heap s.heap [] := va_S.rf
  have hP : va_P (dC, dI) vwCl [(h0, .inr (7, [.ref ab, .int 12])), (ab, .inl (kb, 440, .inl fb))] s.heap := hP
  have hl := lv_entry ([.ref h0, .int o9]) (n := 2) (Nat.le_of_ble_eq_true rfl)
  rw [lg_entry_eq]
  generalize (lg_sl ([.ref h0, .int o9]) ++ List.replicate (2 - (lg_sl ([.ref h0, .int o9])).length) Slot.unset).toArray = ls at hl ⊢
  have hl : lv_has ls 2 [(0, .ref h0), (1, .int o9)] := hl
  skip
  refine lv_aload_n hx hb dX7_put_0 rfl (lv_at hl 0 rfl) ?_
  refine va_get (D := (dC, dI)) (ci := 7) (v := .int 12) (C := RX7) (T := TX7) (N := 2) hx hb hts in_X7_put_X7 hown hK hP 0 rfl rfl 1 (by decide) (hts (.fieldLink RX7 21 "ClayAccounts$Text" "size" "I") (by decide +kernel)) (fun _ h9 => h9) rfl dX7_put_1 ?_
  refine lv_aload_n hx hb dX7_put_4 rfl (lv_at hl 0 rfl) ?_
  refine va_get (D := (dC, dI)) (ci := 7) (v := .ref ab) (C := RX7) (T := TX7) (N := 2) hx hb hts in_X7_put_X7 hown hK hP 0 rfl rfl 0 (by decide) (hts (.fieldLink RX7 15 "ClayAccounts$Text" "bytes" "[B") (by decide +kernel)) (fun _ h9 => h9) rfl dX7_put_5 ?_
  refine va_alen (v := 440) hx hb hK hP 1 0 rfl rfl rfl dX7_put_8 ?_
  refine lv_icmp_ge (tgt := 33) hx hb dX7_put_9 (by decide) (fun c9 => absurd c9 (by decide)) (fun c9 => ?_)
  refine lv_aload_n hx hb dX7_put_12 rfl (lv_at hl 0 rfl) ?_
  refine va_get (D := (dC, dI)) (ci := 7) (v := .ref ab) (C := RX7) (T := TX7) (N := 2) hx hb hts in_X7_put_X7 hown hK hP 0 rfl rfl 0 (by decide) (hts (.fieldLink RX7 15 "ClayAccounts$Text" "bytes" "[B") (by decide +kernel)) (fun _ h9 => h9) rfl dX7_put_13 ?_
  refine lv_aload_n hx hb dX7_put_16 rfl (lv_at hl 0 rfl) ?_
  refine va_get (D := (dC, dI)) (ci := 7) (v := .int 12) (C := RX7) (T := TX7) (N := 2) hx hb hts in_X7_put_X7 hown hK hP 0 rfl rfl 1 (by decide) (hts (.fieldLink RX7 21 "ClayAccounts$Text" "size" "I") (by decide +kernel)) (fun _ h9 => h9) rfl dX7_put_17 ?_
  refine lv_iload_n hx hb dX7_put_20 rfl (lv_at hl 1 rfl) ?_
  refine lv_i2b hx hb dX7_put_21 rfl ?_
  refine lv_topi (fun v_1 ev_1 => ?_)
  refine va_bast hx hb hK hP hD hS 1 0 rfl rfl (show ¬ ((12 : Int32) < 0 ∨ 440 ≤ (12 : Int32).toNatClampNeg) by decide) dX7_put_22 (fun H locs hP hD hS => ?_)
  have hP : va_P (dC, dI) vwCl [(h0, .inr (7, [.ref ab, .int 12])), (ab, .inl (kb, 440, .inl (upd fb (12 : Int32).toNatClampNeg (vp_nar .byte v_1))))] H := hP
  have hD : va_D A [(h0, .inr (7, [.ref ab, .int 12])), (ab, .inl (kb, 440, .inl (upd fb (12 : Int32).toNatClampNeg (vp_nar .byte v_1))))] := hD
  generalize upd fb (12 : Int32).toNatClampNeg (vp_nar .byte v_1) = f_2 at hP hD
  refine lv_aload_n hx hb dX7_put_23 rfl (lv_at hl 0 rfl) ?_
  refine lv_dup hx hb dX7_put_24 rfl ?_
  refine va_get (D := (dC, dI)) (ci := 7) (v := .int 12) (C := RX7) (T := TX7) (N := 2) hx hb hts in_X7_put_X7 hown hK hP 0 rfl rfl 1 (by decide) (hts (.fieldLink RX7 21 "ClayAccounts$Text" "size" "I") (by decide +kernel)) (fun _ h9 => h9) rfl dX7_put_25 ?_
  refine lv_iconst (v := 1) hx hb dX7_put_28 (by decide) ?_
  refine lv_iadd hx hb dX7_put_29 ?_
  refine zz_top (y := 13) (by decide) ?_
  refine va_put (D := (dC, dI)) (ci := 7) (v := .int 13) (ty := .int) (C := RX7) (T := TX7) (N := 2) hx hb hts in_X7_put_X7 tyX7 tyX7_ok nmX7 hown hK hP hD hS 0 rfl rfl 1 (by decide) (hts (.fieldLink RX7 21 "ClayAccounts$Text" "size" "I") (by decide +kernel)) (fun _ h9 => h9) rfl (by decide +kernel) rfl rfl (Nat.le_of_ble_eq_true rfl) dX7_put_30 (fun H locs hP hD hS => ?_)
  have hP : va_P (dC, dI) vwCl [(h0, .inr (7, [.ref ab, .int 13])), (ab, .inl (kb, 440, .inl f_2))] H := hP
  have hD : va_D A [(h0, .inr (7, [.ref ab, .int 13])), (ab, .inl (kb, 440, .inl f_2))] := hD
  have hP9 := hP.sub (ws' := [(h0, .inr (7, [.ref ab, .int 13])), (ab, .inl (kb, 440, .inl f_2))]) [0, 1] rfl
  have hD9 := hD.sub (ws' := [(h0, .inr (7, [.ref ab, .int 13])), (ab, .inl (kb, 440, .inl f_2))]) [0, 1] (by decide) rfl
  have hK9 := hK.sub (tys' := [(kb, .byte)]) [0] rfl
  refine W.widen (k := 0) (n := 0) (Nat.le_of_ble_eq_true rfl) (Nat.le_of_ble_eq_true rfl) ?_
  exact W.vret hx hb hr (fun t ht hW => ⟨⟨(), rfl, trivial, f_2, by rw [ht]; exact hP9, va_K.moved hW.alike hK9, hD9⟩, hS.F ht⟩) hS.2.2 dX7_put_33
set_option maxHeartbeats 4000000 in
set_option maxRecDepth 100000 in
theorem c_put_13 (l : Launch) (dC : Nat → ClassId) (dI : Nat → Nat → Nat) (h0 : Nat) (ab : Nat) (kb : ClassId) (fb : Nat → Int32) (o9 : Int32) (sz : Nat)  : Met l yX7_put wsX7_put ({ frames := 0, cells := 0, slots := 0, locals := 0 } : Room) (va_Pc [.ref h0, .int o9] (fun U => U.heap.size = sz ∧ zz_X U ∧ va_P (dC, dI) vwCl [(h0, .inr (7, [.ref ab, .int 13])), (ab, .inl (kb, 440, .inl fb))] U.heap ∧ va_K (dC, dI) vwCl [(kb, .byte)] U ∧ va_D (fun _ => True) [(h0, .inr (7, [.ref ab, .int 13])), (ab, .inl (kb, 440, .inl fb))])) (va_Qv (fun (_ : Unit) => True) (fun (_ : Unit) (t : State) => ∃ (fc : Nat → Int32), va_P (dC, dI) vwCl [(h0, .inr (7, [.ref ab, .int 14])), (ab, .inl (kb, 440, .inl fc))] t.heap ∧ va_K (dC, dI) vwCl [(kb, .byte)] t ∧ va_D (va_A [(h0, .inr (7, [.ref ab, .int 13])), (ab, .inl (kb, 440, .inl fb))] sz) [(h0, .inr (7, [.ref ab, .int 14])), (ab, .inl (kb, 440, .inl fc))]) (va_A [(h0, .inr (7, [.ref ab, .int 13])), (ab, .inl (kb, 440, .inl fb))] sz)) 0 0 (va_A [(h0, .inr (7, [.ref ab, .int 13])), (ab, .inl (kb, 440, .inl fb))] sz) := by
  refine Met.ofW (cc := cX7_put) (maxL := 2) (ret := none) (by decide) rfl ?_
  intro p e s m args below meth c s₁ B hml hv
  obtain ⟨rfl, hsz, hzX, hP, hK, hD0⟩ := hv
  have hx := B.exec
  have hb := B.bytes
  have hr := B.returns
  have hts := atoms_spec (ws := wsX7_put) B.pre
  have hown : s.vm.findClass RX7 = some m.cls := findClass_of_methodNamed B.named
  have hlocks := B.notSynchronized
  subst hsz
  have hD := hD0.self (sz := s.heap.size)
  generalize hAe : va_A [(h0, .inr (7, [.ref ab, .int 13])), (ab, .inl (kb, 440, .inl fb))] s.heap.size = A at  hD ⊢
  have hA : ∀ q : Nat, s.heap.size ≤ q → A q := fun q h => by rw [← hAe]; exact Or.inr h
  have hS : va_S A s.heap s.heap [] := va_S.rf
  have hP : va_P (dC, dI) vwCl [(h0, .inr (7, [.ref ab, .int 13])), (ab, .inl (kb, 440, .inl fb))] s.heap := hP
  have hl := lv_entry ([.ref h0, .int o9]) (n := 2) (Nat.le_of_ble_eq_true rfl)
  rw [lg_entry_eq]
  generalize (lg_sl ([.ref h0, .int o9]) ++ List.replicate (2 - (lg_sl ([.ref h0, .int o9])).length) Slot.unset).toArray = ls at hl ⊢
  have hl : lv_has ls 2 [(0, .ref h0), (1, .int o9)] := hl
  skip
  refine lv_aload_n hx hb dX7_put_0 rfl (lv_at hl 0 rfl) ?_
  refine va_get (D := (dC, dI)) (ci := 7) (v := .int 13) (C := RX7) (T := TX7) (N := 2) hx hb hts in_X7_put_X7 hown hK hP 0 rfl rfl 1 (by decide) (hts (.fieldLink RX7 21 "ClayAccounts$Text" "size" "I") (by decide +kernel)) (fun _ h9 => h9) rfl dX7_put_1 ?_
  refine lv_aload_n hx hb dX7_put_4 rfl (lv_at hl 0 rfl) ?_
  refine va_get (D := (dC, dI)) (ci := 7) (v := .ref ab) (C := RX7) (T := TX7) (N := 2) hx hb hts in_X7_put_X7 hown hK hP 0 rfl rfl 0 (by decide) (hts (.fieldLink RX7 15 "ClayAccounts$Text" "bytes" "[B") (by decide +kernel)) (fun _ h9 => h9) rfl dX7_put_5 ?_
  refine va_alen (v := 440) hx hb hK hP 1 0 rfl rfl rfl dX7_put_8 ?_
  refine lv_icmp_ge (tgt := 33) hx hb dX7_put_9 (by decide) (fun c9 => absurd c9 (by decide)) (fun c9 => ?_)
  refine lv_aload_n hx hb dX7_put_12 rfl (lv_at hl 0 rfl) ?_
  refine va_get (D := (dC, dI)) (ci := 7) (v := .ref ab) (C := RX7) (T := TX7) (N := 2) hx hb hts in_X7_put_X7 hown hK hP 0 rfl rfl 0 (by decide) (hts (.fieldLink RX7 15 "ClayAccounts$Text" "bytes" "[B") (by decide +kernel)) (fun _ h9 => h9) rfl dX7_put_13 ?_
  refine lv_aload_n hx hb dX7_put_16 rfl (lv_at hl 0 rfl) ?_
  refine va_get (D := (dC, dI)) (ci := 7) (v := .int 13) (C := RX7) (T := TX7) (N := 2) hx hb hts in_X7_put_X7 hown hK hP 0 rfl rfl 1 (by decide) (hts (.fieldLink RX7 21 "ClayAccounts$Text" "size" "I") (by decide +kernel)) (fun _ h9 => h9) rfl dX7_put_17 ?_
  refine lv_iload_n hx hb dX7_put_20 rfl (lv_at hl 1 rfl) ?_
  refine lv_i2b hx hb dX7_put_21 rfl ?_
  refine lv_topi (fun v_1 ev_1 => ?_)
  refine va_bast hx hb hK hP hD hS 1 0 rfl rfl (show ¬ ((13 : Int32) < 0 ∨ 440 ≤ (13 : Int32).toNatClampNeg) by decide) dX7_put_22 (fun H locs hP hD hS => ?_)
  have hP : va_P (dC, dI) vwCl [(h0, .inr (7, [.ref ab, .int 13])), (ab, .inl (kb, 440, .inl (upd fb (13 : Int32).toNatClampNeg (vp_nar .byte v_1))))] H := hP
  have hD : va_D A [(h0, .inr (7, [.ref ab, .int 13])), (ab, .inl (kb, 440, .inl (upd fb (13 : Int32).toNatClampNeg (vp_nar .byte v_1))))] := hD
  generalize upd fb (13 : Int32).toNatClampNeg (vp_nar .byte v_1) = f_2 at hP hD
  refine lv_aload_n hx hb dX7_put_23 rfl (lv_at hl 0 rfl) ?_
  refine lv_dup hx hb dX7_put_24 rfl ?_
  refine va_get (D := (dC, dI)) (ci := 7) (v := .int 13) (C := RX7) (T := TX7) (N := 2) hx hb hts in_X7_put_X7 hown hK hP 0 rfl rfl 1 (by decide) (hts (.fieldLink RX7 21 "ClayAccounts$Text" "size" "I") (by decide +kernel)) (fun _ h9 => h9) rfl dX7_put_25 ?_
  refine lv_iconst (v := 1) hx hb dX7_put_28 (by decide) ?_
  refine lv_iadd hx hb dX7_put_29 ?_
  refine zz_top (y := 14) (by decide) ?_
  refine va_put (D := (dC, dI)) (ci := 7) (v := .int 14) (ty := .int) (C := RX7) (T := TX7) (N := 2) hx hb hts in_X7_put_X7 tyX7 tyX7_ok nmX7 hown hK hP hD hS 0 rfl rfl 1 (by decide) (hts (.fieldLink RX7 21 "ClayAccounts$Text" "size" "I") (by decide +kernel)) (fun _ h9 => h9) rfl (by decide +kernel) rfl rfl (Nat.le_of_ble_eq_true rfl) dX7_put_30 (fun H locs hP hD hS => ?_)
  have hP : va_P (dC, dI) vwCl [(h0, .inr (7, [.ref ab, .int 14])), (ab, .inl (kb, 440, .inl f_2))] H := hP
  have hD : va_D A [(h0, .inr (7, [.ref ab, .int 14])), (ab, .inl (kb, 440, .inl f_2))] := hD
  have hP9 := hP.sub (ws' := [(h0, .inr (7, [.ref ab, .int 14])), (ab, .inl (kb, 440, .inl f_2))]) [0, 1] rfl
  have hD9 := hD.sub (ws' := [(h0, .inr (7, [.ref ab, .int 14])), (ab, .inl (kb, 440, .inl f_2))]) [0, 1] (by decide) rfl
  have hK9 := hK.sub (tys' := [(kb, .byte)]) [0] rfl
  refine W.widen (k := 0) (n := 0) (Nat.le_of_ble_eq_true rfl) (Nat.le_of_ble_eq_true rfl) ?_
  exact W.vret hx hb hr (fun t ht hW => ⟨⟨(), rfl, trivial, f_2, by rw [ht]; exact hP9, va_K.moved hW.alike hK9, hD9⟩, hS.F ht⟩) hS.2.2 dX7_put_33
set_option maxHeartbeats 4000000 in
set_option maxRecDepth 100000 in
theorem c_put_14 (l : Launch) (dC : Nat → ClassId) (dI : Nat → Nat → Nat) (h0 : Nat) (ab : Nat) (kb : ClassId) (fb : Nat → Int32) (o9 : Int32) (sz : Nat)  : Met l yX7_put wsX7_put ({ frames := 0, cells := 0, slots := 0, locals := 0 } : Room) (va_Pc [.ref h0, .int o9] (fun U => U.heap.size = sz ∧ zz_X U ∧ va_P (dC, dI) vwCl [(h0, .inr (7, [.ref ab, .int 14])), (ab, .inl (kb, 440, .inl fb))] U.heap ∧ va_K (dC, dI) vwCl [(kb, .byte)] U ∧ va_D (fun _ => True) [(h0, .inr (7, [.ref ab, .int 14])), (ab, .inl (kb, 440, .inl fb))])) (va_Qv (fun (_ : Unit) => True) (fun (_ : Unit) (t : State) => ∃ (fc : Nat → Int32), va_P (dC, dI) vwCl [(h0, .inr (7, [.ref ab, .int 15])), (ab, .inl (kb, 440, .inl fc))] t.heap ∧ va_K (dC, dI) vwCl [(kb, .byte)] t ∧ va_D (va_A [(h0, .inr (7, [.ref ab, .int 14])), (ab, .inl (kb, 440, .inl fb))] sz) [(h0, .inr (7, [.ref ab, .int 15])), (ab, .inl (kb, 440, .inl fc))]) (va_A [(h0, .inr (7, [.ref ab, .int 14])), (ab, .inl (kb, 440, .inl fb))] sz)) 0 0 (va_A [(h0, .inr (7, [.ref ab, .int 14])), (ab, .inl (kb, 440, .inl fb))] sz) := by
  refine Met.ofW (cc := cX7_put) (maxL := 2) (ret := none) (by decide) rfl ?_
  intro p e s m args below meth c s₁ B hml hv
  obtain ⟨rfl, hsz, hzX, hP, hK, hD0⟩ := hv
  have hx := B.exec
  have hb := B.bytes
  have hr := B.returns
  have hts := atoms_spec (ws := wsX7_put) B.pre
  have hown : s.vm.findClass RX7 = some m.cls := findClass_of_methodNamed B.named
  have hlocks := B.notSynchronized
  subst hsz
  have hD := hD0.self (sz := s.heap.size)
  generalize hAe : va_A [(h0, .inr (7, [.ref ab, .int 14])), (ab, .inl (kb, 440, .inl fb))] s.heap.size = A at  hD ⊢
  have hA : ∀ q : Nat, s.heap.size ≤ q → A q := fun q h => by rw [← hAe]; exact Or.inr h
  have hS : va_S A s.heap s.heap [] := va_S.rf
  have hP : va_P (dC, dI) vwCl [(h0, .inr (7, [.ref ab, .int 14])), (ab, .inl (kb, 440, .inl fb))] s.heap := hP
  have hl := lv_entry ([.ref h0, .int o9]) (n := 2) (Nat.le_of_ble_eq_true rfl)
  rw [lg_entry_eq]
  generalize (lg_sl ([.ref h0, .int o9]) ++ List.replicate (2 - (lg_sl ([.ref h0, .int o9])).length) Slot.unset).toArray = ls at hl ⊢
  have hl : lv_has ls 2 [(0, .ref h0), (1, .int o9)] := hl
  skip
  refine lv_aload_n hx hb dX7_put_0 rfl (lv_at hl 0 rfl) ?_
  refine va_get (D := (dC, dI)) (ci := 7) (v := .int 14) (C := RX7) (T := TX7) (N := 2) hx hb hts in_X7_put_X7 hown hK hP 0 rfl rfl 1 (by decide) (hts (.fieldLink RX7 21 "ClayAccounts$Text" "size" "I") (by decide +kernel)) (fun _ h9 => h9) rfl dX7_put_1 ?_
  refine lv_aload_n hx hb dX7_put_4 rfl (lv_at hl 0 rfl) ?_
  refine va_get (D := (dC, dI)) (ci := 7) (v := .ref ab) (C := RX7) (T := TX7) (N := 2) hx hb hts in_X7_put_X7 hown hK hP 0 rfl rfl 0 (by decide) (hts (.fieldLink RX7 15 "ClayAccounts$Text" "bytes" "[B") (by decide +kernel)) (fun _ h9 => h9) rfl dX7_put_5 ?_
  refine va_alen (v := 440) hx hb hK hP 1 0 rfl rfl rfl dX7_put_8 ?_
  refine lv_icmp_ge (tgt := 33) hx hb dX7_put_9 (by decide) (fun c9 => absurd c9 (by decide)) (fun c9 => ?_)
  refine lv_aload_n hx hb dX7_put_12 rfl (lv_at hl 0 rfl) ?_
  refine va_get (D := (dC, dI)) (ci := 7) (v := .ref ab) (C := RX7) (T := TX7) (N := 2) hx hb hts in_X7_put_X7 hown hK hP 0 rfl rfl 0 (by decide) (hts (.fieldLink RX7 15 "ClayAccounts$Text" "bytes" "[B") (by decide +kernel)) (fun _ h9 => h9) rfl dX7_put_13 ?_
  refine lv_aload_n hx hb dX7_put_16 rfl (lv_at hl 0 rfl) ?_
  refine va_get (D := (dC, dI)) (ci := 7) (v := .int 14) (C := RX7) (T := TX7) (N := 2) hx hb hts in_X7_put_X7 hown hK hP 0 rfl rfl 1 (by decide) (hts (.fieldLink RX7 21 "ClayAccounts$Text" "size" "I") (by decide +kernel)) (fun _ h9 => h9) rfl dX7_put_17 ?_
  refine lv_iload_n hx hb dX7_put_20 rfl (lv_at hl 1 rfl) ?_
  refine lv_i2b hx hb dX7_put_21 rfl ?_
  refine lv_topi (fun v_1 ev_1 => ?_)
  refine va_bast hx hb hK hP hD hS 1 0 rfl rfl (show ¬ ((14 : Int32) < 0 ∨ 440 ≤ (14 : Int32).toNatClampNeg) by decide) dX7_put_22 (fun H locs hP hD hS => ?_)
  have hP : va_P (dC, dI) vwCl [(h0, .inr (7, [.ref ab, .int 14])), (ab, .inl (kb, 440, .inl (upd fb (14 : Int32).toNatClampNeg (vp_nar .byte v_1))))] H := hP
  have hD : va_D A [(h0, .inr (7, [.ref ab, .int 14])), (ab, .inl (kb, 440, .inl (upd fb (14 : Int32).toNatClampNeg (vp_nar .byte v_1))))] := hD
  generalize upd fb (14 : Int32).toNatClampNeg (vp_nar .byte v_1) = f_2 at hP hD
  refine lv_aload_n hx hb dX7_put_23 rfl (lv_at hl 0 rfl) ?_
  refine lv_dup hx hb dX7_put_24 rfl ?_
  refine va_get (D := (dC, dI)) (ci := 7) (v := .int 14) (C := RX7) (T := TX7) (N := 2) hx hb hts in_X7_put_X7 hown hK hP 0 rfl rfl 1 (by decide) (hts (.fieldLink RX7 21 "ClayAccounts$Text" "size" "I") (by decide +kernel)) (fun _ h9 => h9) rfl dX7_put_25 ?_
  refine lv_iconst (v := 1) hx hb dX7_put_28 (by decide) ?_
  refine lv_iadd hx hb dX7_put_29 ?_
  refine zz_top (y := 15) (by decide) ?_
  refine va_put (D := (dC, dI)) (ci := 7) (v := .int 15) (ty := .int) (C := RX7) (T := TX7) (N := 2) hx hb hts in_X7_put_X7 tyX7 tyX7_ok nmX7 hown hK hP hD hS 0 rfl rfl 1 (by decide) (hts (.fieldLink RX7 21 "ClayAccounts$Text" "size" "I") (by decide +kernel)) (fun _ h9 => h9) rfl (by decide +kernel) rfl rfl (Nat.le_of_ble_eq_true rfl) dX7_put_30 (fun H locs hP hD hS => ?_)
  have hP : va_P (dC, dI) vwCl [(h0, .inr (7, [.ref ab, .int 15])), (ab, .inl (kb, 440, .inl f_2))] H := hP
  have hD : va_D A [(h0, .inr (7, [.ref ab, .int 15])), (ab, .inl (kb, 440, .inl f_2))] := hD
  have hP9 := hP.sub (ws' := [(h0, .inr (7, [.ref ab, .int 15])), (ab, .inl (kb, 440, .inl f_2))]) [0, 1] rfl
  have hD9 := hD.sub (ws' := [(h0, .inr (7, [.ref ab, .int 15])), (ab, .inl (kb, 440, .inl f_2))]) [0, 1] (by decide) rfl
  have hK9 := hK.sub (tys' := [(kb, .byte)]) [0] rfl
  refine W.widen (k := 0) (n := 0) (Nat.le_of_ble_eq_true rfl) (Nat.le_of_ble_eq_true rfl) ?_
  exact W.vret hx hb hr (fun t ht hW => ⟨⟨(), rfl, trivial, f_2, by rw [ht]; exact hP9, va_K.moved hW.alike hK9, hD9⟩, hS.F ht⟩) hS.2.2 dX7_put_33
set_option maxHeartbeats 4000000 in
set_option maxRecDepth 100000 in
theorem c_put_15 (l : Launch) (dC : Nat → ClassId) (dI : Nat → Nat → Nat) (h0 : Nat) (ab : Nat) (kb : ClassId) (fb : Nat → Int32) (o9 : Int32) (sz : Nat)  : Met l yX7_put wsX7_put ({ frames := 0, cells := 0, slots := 0, locals := 0 } : Room) (va_Pc [.ref h0, .int o9] (fun U => U.heap.size = sz ∧ zz_X U ∧ va_P (dC, dI) vwCl [(h0, .inr (7, [.ref ab, .int 15])), (ab, .inl (kb, 440, .inl fb))] U.heap ∧ va_K (dC, dI) vwCl [(kb, .byte)] U ∧ va_D (fun _ => True) [(h0, .inr (7, [.ref ab, .int 15])), (ab, .inl (kb, 440, .inl fb))])) (va_Qv (fun (_ : Unit) => True) (fun (_ : Unit) (t : State) => ∃ (fc : Nat → Int32), va_P (dC, dI) vwCl [(h0, .inr (7, [.ref ab, .int 16])), (ab, .inl (kb, 440, .inl fc))] t.heap ∧ va_K (dC, dI) vwCl [(kb, .byte)] t ∧ va_D (va_A [(h0, .inr (7, [.ref ab, .int 15])), (ab, .inl (kb, 440, .inl fb))] sz) [(h0, .inr (7, [.ref ab, .int 16])), (ab, .inl (kb, 440, .inl fc))]) (va_A [(h0, .inr (7, [.ref ab, .int 15])), (ab, .inl (kb, 440, .inl fb))] sz)) 0 0 (va_A [(h0, .inr (7, [.ref ab, .int 15])), (ab, .inl (kb, 440, .inl fb))] sz) := by
  refine Met.ofW (cc := cX7_put) (maxL := 2) (ret := none) (by decide) rfl ?_
  intro p e s m args below meth c s₁ B hml hv
  obtain ⟨rfl, hsz, hzX, hP, hK, hD0⟩ := hv
  have hx := B.exec
  have hb := B.bytes
  have hr := B.returns
  have hts := atoms_spec (ws := wsX7_put) B.pre
  have hown : s.vm.findClass RX7 = some m.cls := findClass_of_methodNamed B.named
  have hlocks := B.notSynchronized
  subst hsz
  have hD := hD0.self (sz := s.heap.size)
  generalize hAe : va_A [(h0, .inr (7, [.ref ab, .int 15])), (ab, .inl (kb, 440, .inl fb))] s.heap.size = A at  hD ⊢
  have hA : ∀ q : Nat, s.heap.size ≤ q → A q := fun q h => by rw [← hAe]; exact Or.inr h
  have hS : va_S A s.heap s.heap [] := va_S.rf
  have hP : va_P (dC, dI) vwCl [(h0, .inr (7, [.ref ab, .int 15])), (ab, .inl (kb, 440, .inl fb))] s.heap := hP
  have hl := lv_entry ([.ref h0, .int o9]) (n := 2) (Nat.le_of_ble_eq_true rfl)
  rw [lg_entry_eq]
  generalize (lg_sl ([.ref h0, .int o9]) ++ List.replicate (2 - (lg_sl ([.ref h0, .int o9])).length) Slot.unset).toArray = ls at hl ⊢
  have hl : lv_has ls 2 [(0, .ref h0), (1, .int o9)] := hl
  skip
  refine lv_aload_n hx hb dX7_put_0 rfl (lv_at hl 0 rfl) ?_
  refine va_get (D := (dC, dI)) (ci := 7) (v := .int 15) (C := RX7) (T := TX7) (N := 2) hx hb hts in_X7_put_X7 hown hK hP 0 rfl rfl 1 (by decide) (hts (.fieldLink RX7 21 "ClayAccounts$Text" "size" "I") (by decide +kernel)) (fun _ h9 => h9) rfl dX7_put_1 ?_
  refine lv_aload_n hx hb dX7_put_4 rfl (lv_at hl 0 rfl) ?_
  refine va_get (D := (dC, dI)) (ci := 7) (v := .ref ab) (C := RX7) (T := TX7) (N := 2) hx hb hts in_X7_put_X7 hown hK hP 0 rfl rfl 0 (by decide) (hts (.fieldLink RX7 15 "ClayAccounts$Text" "bytes" "[B") (by decide +kernel)) (fun _ h9 => h9) rfl dX7_put_5 ?_
  refine va_alen (v := 440) hx hb hK hP 1 0 rfl rfl rfl dX7_put_8 ?_
  refine lv_icmp_ge (tgt := 33) hx hb dX7_put_9 (by decide) (fun c9 => absurd c9 (by decide)) (fun c9 => ?_)
  refine lv_aload_n hx hb dX7_put_12 rfl (lv_at hl 0 rfl) ?_
  refine va_get (D := (dC, dI)) (ci := 7) (v := .ref ab) (C := RX7) (T := TX7) (N := 2) hx hb hts in_X7_put_X7 hown hK hP 0 rfl rfl 0 (by decide) (hts (.fieldLink RX7 15 "ClayAccounts$Text" "bytes" "[B") (by decide +kernel)) (fun _ h9 => h9) rfl dX7_put_13 ?_
  refine lv_aload_n hx hb dX7_put_16 rfl (lv_at hl 0 rfl) ?_
  refine va_get (D := (dC, dI)) (ci := 7) (v := .int 15) (C := RX7) (T := TX7) (N := 2) hx hb hts in_X7_put_X7 hown hK hP 0 rfl rfl 1 (by decide) (hts (.fieldLink RX7 21 "ClayAccounts$Text" "size" "I") (by decide +kernel)) (fun _ h9 => h9) rfl dX7_put_17 ?_
  refine lv_iload_n hx hb dX7_put_20 rfl (lv_at hl 1 rfl) ?_
  refine lv_i2b hx hb dX7_put_21 rfl ?_
  refine lv_topi (fun v_1 ev_1 => ?_)
  refine va_bast hx hb hK hP hD hS 1 0 rfl rfl (show ¬ ((15 : Int32) < 0 ∨ 440 ≤ (15 : Int32).toNatClampNeg) by decide) dX7_put_22 (fun H locs hP hD hS => ?_)
  have hP : va_P (dC, dI) vwCl [(h0, .inr (7, [.ref ab, .int 15])), (ab, .inl (kb, 440, .inl (upd fb (15 : Int32).toNatClampNeg (vp_nar .byte v_1))))] H := hP
  have hD : va_D A [(h0, .inr (7, [.ref ab, .int 15])), (ab, .inl (kb, 440, .inl (upd fb (15 : Int32).toNatClampNeg (vp_nar .byte v_1))))] := hD
  generalize upd fb (15 : Int32).toNatClampNeg (vp_nar .byte v_1) = f_2 at hP hD
  refine lv_aload_n hx hb dX7_put_23 rfl (lv_at hl 0 rfl) ?_
  refine lv_dup hx hb dX7_put_24 rfl ?_
  refine va_get (D := (dC, dI)) (ci := 7) (v := .int 15) (C := RX7) (T := TX7) (N := 2) hx hb hts in_X7_put_X7 hown hK hP 0 rfl rfl 1 (by decide) (hts (.fieldLink RX7 21 "ClayAccounts$Text" "size" "I") (by decide +kernel)) (fun _ h9 => h9) rfl dX7_put_25 ?_
  refine lv_iconst (v := 1) hx hb dX7_put_28 (by decide) ?_
  refine lv_iadd hx hb dX7_put_29 ?_
  refine zz_top (y := 16) (by decide) ?_
  refine va_put (D := (dC, dI)) (ci := 7) (v := .int 16) (ty := .int) (C := RX7) (T := TX7) (N := 2) hx hb hts in_X7_put_X7 tyX7 tyX7_ok nmX7 hown hK hP hD hS 0 rfl rfl 1 (by decide) (hts (.fieldLink RX7 21 "ClayAccounts$Text" "size" "I") (by decide +kernel)) (fun _ h9 => h9) rfl (by decide +kernel) rfl rfl (Nat.le_of_ble_eq_true rfl) dX7_put_30 (fun H locs hP hD hS => ?_)
  have hP : va_P (dC, dI) vwCl [(h0, .inr (7, [.ref ab, .int 16])), (ab, .inl (kb, 440, .inl f_2))] H := hP
  have hD : va_D A [(h0, .inr (7, [.ref ab, .int 16])), (ab, .inl (kb, 440, .inl f_2))] := hD
  have hP9 := hP.sub (ws' := [(h0, .inr (7, [.ref ab, .int 16])), (ab, .inl (kb, 440, .inl f_2))]) [0, 1] rfl
  have hD9 := hD.sub (ws' := [(h0, .inr (7, [.ref ab, .int 16])), (ab, .inl (kb, 440, .inl f_2))]) [0, 1] (by decide) rfl
  have hK9 := hK.sub (tys' := [(kb, .byte)]) [0] rfl
  refine W.widen (k := 0) (n := 0) (Nat.le_of_ble_eq_true rfl) (Nat.le_of_ble_eq_true rfl) ?_
  exact W.vret hx hb hr (fun t ht hW => ⟨⟨(), rfl, trivial, f_2, by rw [ht]; exact hP9, va_K.moved hW.alike hK9, hD9⟩, hS.F ht⟩) hS.2.2 dX7_put_33
set_option maxHeartbeats 4000000 in
set_option maxRecDepth 100000 in
theorem c_put_16 (l : Launch) (dC : Nat → ClassId) (dI : Nat → Nat → Nat) (h0 : Nat) (ab : Nat) (kb : ClassId) (fb : Nat → Int32) (o9 : Int32) (sz : Nat)  : Met l yX7_put wsX7_put ({ frames := 0, cells := 0, slots := 0, locals := 0 } : Room) (va_Pc [.ref h0, .int o9] (fun U => U.heap.size = sz ∧ zz_X U ∧ va_P (dC, dI) vwCl [(h0, .inr (7, [.ref ab, .int 16])), (ab, .inl (kb, 440, .inl fb))] U.heap ∧ va_K (dC, dI) vwCl [(kb, .byte)] U ∧ va_D (fun _ => True) [(h0, .inr (7, [.ref ab, .int 16])), (ab, .inl (kb, 440, .inl fb))])) (va_Qv (fun (_ : Unit) => True) (fun (_ : Unit) (t : State) => ∃ (fc : Nat → Int32), va_P (dC, dI) vwCl [(h0, .inr (7, [.ref ab, .int 17])), (ab, .inl (kb, 440, .inl fc))] t.heap ∧ va_K (dC, dI) vwCl [(kb, .byte)] t ∧ va_D (va_A [(h0, .inr (7, [.ref ab, .int 16])), (ab, .inl (kb, 440, .inl fb))] sz) [(h0, .inr (7, [.ref ab, .int 17])), (ab, .inl (kb, 440, .inl fc))]) (va_A [(h0, .inr (7, [.ref ab, .int 16])), (ab, .inl (kb, 440, .inl fb))] sz)) 0 0 (va_A [(h0, .inr (7, [.ref ab, .int 16])), (ab, .inl (kb, 440, .inl fb))] sz) := by
  refine Met.ofW (cc := cX7_put) (maxL := 2) (ret := none) (by decide) rfl ?_
  intro p e s m args below meth c s₁ B hml hv
  obtain ⟨rfl, hsz, hzX, hP, hK, hD0⟩ := hv
  have hx := B.exec
  have hb := B.bytes
  have hr := B.returns
  have hts := atoms_spec (ws := wsX7_put) B.pre
  have hown : s.vm.findClass RX7 = some m.cls := findClass_of_methodNamed B.named
  have hlocks := B.notSynchronized
  subst hsz
  have hD := hD0.self (sz := s.heap.size)
  generalize hAe : va_A [(h0, .inr (7, [.ref ab, .int 16])), (ab, .inl (kb, 440, .inl fb))] s.heap.size = A at  hD ⊢
  have hA : ∀ q : Nat, s.heap.size ≤ q → A q := fun q h => by rw [← hAe]; exact Or.inr h
  have hS : va_S A s.heap s.heap [] := va_S.rf
  have hP : va_P (dC, dI) vwCl [(h0, .inr (7, [.ref ab, .int 16])), (ab, .inl (kb, 440, .inl fb))] s.heap := hP
  have hl := lv_entry ([.ref h0, .int o9]) (n := 2) (Nat.le_of_ble_eq_true rfl)
  rw [lg_entry_eq]
  generalize (lg_sl ([.ref h0, .int o9]) ++ List.replicate (2 - (lg_sl ([.ref h0, .int o9])).length) Slot.unset).toArray = ls at hl ⊢
  have hl : lv_has ls 2 [(0, .ref h0), (1, .int o9)] := hl
  skip
  refine lv_aload_n hx hb dX7_put_0 rfl (lv_at hl 0 rfl) ?_
  refine va_get (D := (dC, dI)) (ci := 7) (v := .int 16) (C := RX7) (T := TX7) (N := 2) hx hb hts in_X7_put_X7 hown hK hP 0 rfl rfl 1 (by decide) (hts (.fieldLink RX7 21 "ClayAccounts$Text" "size" "I") (by decide +kernel)) (fun _ h9 => h9) rfl dX7_put_1 ?_
  refine lv_aload_n hx hb dX7_put_4 rfl (lv_at hl 0 rfl) ?_
  refine va_get (D := (dC, dI)) (ci := 7) (v := .ref ab) (C := RX7) (T := TX7) (N := 2) hx hb hts in_X7_put_X7 hown hK hP 0 rfl rfl 0 (by decide) (hts (.fieldLink RX7 15 "ClayAccounts$Text" "bytes" "[B") (by decide +kernel)) (fun _ h9 => h9) rfl dX7_put_5 ?_
  refine va_alen (v := 440) hx hb hK hP 1 0 rfl rfl rfl dX7_put_8 ?_
  refine lv_icmp_ge (tgt := 33) hx hb dX7_put_9 (by decide) (fun c9 => absurd c9 (by decide)) (fun c9 => ?_)
  refine lv_aload_n hx hb dX7_put_12 rfl (lv_at hl 0 rfl) ?_
  refine va_get (D := (dC, dI)) (ci := 7) (v := .ref ab) (C := RX7) (T := TX7) (N := 2) hx hb hts in_X7_put_X7 hown hK hP 0 rfl rfl 0 (by decide) (hts (.fieldLink RX7 15 "ClayAccounts$Text" "bytes" "[B") (by decide +kernel)) (fun _ h9 => h9) rfl dX7_put_13 ?_
  refine lv_aload_n hx hb dX7_put_16 rfl (lv_at hl 0 rfl) ?_
  refine va_get (D := (dC, dI)) (ci := 7) (v := .int 16) (C := RX7) (T := TX7) (N := 2) hx hb hts in_X7_put_X7 hown hK hP 0 rfl rfl 1 (by decide) (hts (.fieldLink RX7 21 "ClayAccounts$Text" "size" "I") (by decide +kernel)) (fun _ h9 => h9) rfl dX7_put_17 ?_
  refine lv_iload_n hx hb dX7_put_20 rfl (lv_at hl 1 rfl) ?_
  refine lv_i2b hx hb dX7_put_21 rfl ?_
  refine lv_topi (fun v_1 ev_1 => ?_)
  refine va_bast hx hb hK hP hD hS 1 0 rfl rfl (show ¬ ((16 : Int32) < 0 ∨ 440 ≤ (16 : Int32).toNatClampNeg) by decide) dX7_put_22 (fun H locs hP hD hS => ?_)
  have hP : va_P (dC, dI) vwCl [(h0, .inr (7, [.ref ab, .int 16])), (ab, .inl (kb, 440, .inl (upd fb (16 : Int32).toNatClampNeg (vp_nar .byte v_1))))] H := hP
  have hD : va_D A [(h0, .inr (7, [.ref ab, .int 16])), (ab, .inl (kb, 440, .inl (upd fb (16 : Int32).toNatClampNeg (vp_nar .byte v_1))))] := hD
  generalize upd fb (16 : Int32).toNatClampNeg (vp_nar .byte v_1) = f_2 at hP hD
  refine lv_aload_n hx hb dX7_put_23 rfl (lv_at hl 0 rfl) ?_
  refine lv_dup hx hb dX7_put_24 rfl ?_
  refine va_get (D := (dC, dI)) (ci := 7) (v := .int 16) (C := RX7) (T := TX7) (N := 2) hx hb hts in_X7_put_X7 hown hK hP 0 rfl rfl 1 (by decide) (hts (.fieldLink RX7 21 "ClayAccounts$Text" "size" "I") (by decide +kernel)) (fun _ h9 => h9) rfl dX7_put_25 ?_
  refine lv_iconst (v := 1) hx hb dX7_put_28 (by decide) ?_
  refine lv_iadd hx hb dX7_put_29 ?_
  refine zz_top (y := 17) (by decide) ?_
  refine va_put (D := (dC, dI)) (ci := 7) (v := .int 17) (ty := .int) (C := RX7) (T := TX7) (N := 2) hx hb hts in_X7_put_X7 tyX7 tyX7_ok nmX7 hown hK hP hD hS 0 rfl rfl 1 (by decide) (hts (.fieldLink RX7 21 "ClayAccounts$Text" "size" "I") (by decide +kernel)) (fun _ h9 => h9) rfl (by decide +kernel) rfl rfl (Nat.le_of_ble_eq_true rfl) dX7_put_30 (fun H locs hP hD hS => ?_)
  have hP : va_P (dC, dI) vwCl [(h0, .inr (7, [.ref ab, .int 17])), (ab, .inl (kb, 440, .inl f_2))] H := hP
  have hD : va_D A [(h0, .inr (7, [.ref ab, .int 17])), (ab, .inl (kb, 440, .inl f_2))] := hD
  have hP9 := hP.sub (ws' := [(h0, .inr (7, [.ref ab, .int 17])), (ab, .inl (kb, 440, .inl f_2))]) [0, 1] rfl
  have hD9 := hD.sub (ws' := [(h0, .inr (7, [.ref ab, .int 17])), (ab, .inl (kb, 440, .inl f_2))]) [0, 1] (by decide) rfl
  have hK9 := hK.sub (tys' := [(kb, .byte)]) [0] rfl
  refine W.widen (k := 0) (n := 0) (Nat.le_of_ble_eq_true rfl) (Nat.le_of_ble_eq_true rfl) ?_
  exact W.vret hx hb hr (fun t ht hW => ⟨⟨(), rfl, trivial, f_2, by rw [ht]; exact hP9, va_K.moved hW.alike hK9, hD9⟩, hS.F ht⟩) hS.2.2 dX7_put_33
set_option maxHeartbeats 4000000 in
set_option maxRecDepth 100000 in
theorem c_put_17 (l : Launch) (dC : Nat → ClassId) (dI : Nat → Nat → Nat) (h0 : Nat) (ab : Nat) (kb : ClassId) (fb : Nat → Int32) (o9 : Int32) (sz : Nat)  : Met l yX7_put wsX7_put ({ frames := 0, cells := 0, slots := 0, locals := 0 } : Room) (va_Pc [.ref h0, .int o9] (fun U => U.heap.size = sz ∧ zz_X U ∧ va_P (dC, dI) vwCl [(h0, .inr (7, [.ref ab, .int 17])), (ab, .inl (kb, 440, .inl fb))] U.heap ∧ va_K (dC, dI) vwCl [(kb, .byte)] U ∧ va_D (fun _ => True) [(h0, .inr (7, [.ref ab, .int 17])), (ab, .inl (kb, 440, .inl fb))])) (va_Qv (fun (_ : Unit) => True) (fun (_ : Unit) (t : State) => ∃ (fc : Nat → Int32), va_P (dC, dI) vwCl [(h0, .inr (7, [.ref ab, .int 18])), (ab, .inl (kb, 440, .inl fc))] t.heap ∧ va_K (dC, dI) vwCl [(kb, .byte)] t ∧ va_D (va_A [(h0, .inr (7, [.ref ab, .int 17])), (ab, .inl (kb, 440, .inl fb))] sz) [(h0, .inr (7, [.ref ab, .int 18])), (ab, .inl (kb, 440, .inl fc))]) (va_A [(h0, .inr (7, [.ref ab, .int 17])), (ab, .inl (kb, 440, .inl fb))] sz)) 0 0 (va_A [(h0, .inr (7, [.ref ab, .int 17])), (ab, .inl (kb, 440, .inl fb))] sz) := by
  refine Met.ofW (cc := cX7_put) (maxL := 2) (ret := none) (by decide) rfl ?_
  intro p e s m args below meth c s₁ B hml hv
  obtain ⟨rfl, hsz, hzX, hP, hK, hD0⟩ := hv
  have hx := B.exec
  have hb := B.bytes
  have hr := B.returns
  have hts := atoms_spec (ws := wsX7_put) B.pre
  have hown : s.vm.findClass RX7 = some m.cls := findClass_of_methodNamed B.named
  have hlocks := B.notSynchronized
  subst hsz
  have hD := hD0.self (sz := s.heap.size)
  generalize hAe : va_A [(h0, .inr (7, [.ref ab, .int 17])), (ab, .inl (kb, 440, .inl fb))] s.heap.size = A at  hD ⊢
  have hA : ∀ q : Nat, s.heap.size ≤ q → A q := fun q h => by rw [← hAe]; exact Or.inr h
  have hS : va_S A s.heap s.heap [] := va_S.rf
  have hP : va_P (dC, dI) vwCl [(h0, .inr (7, [.ref ab, .int 17])), (ab, .inl (kb, 440, .inl fb))] s.heap := hP
  have hl := lv_entry ([.ref h0, .int o9]) (n := 2) (Nat.le_of_ble_eq_true rfl)
  rw [lg_entry_eq]
  generalize (lg_sl ([.ref h0, .int o9]) ++ List.replicate (2 - (lg_sl ([.ref h0, .int o9])).length) Slot.unset).toArray = ls at hl ⊢
  have hl : lv_has ls 2 [(0, .ref h0), (1, .int o9)] := hl
  skip
  refine lv_aload_n hx hb dX7_put_0 rfl (lv_at hl 0 rfl) ?_
  refine va_get (D := (dC, dI)) (ci := 7) (v := .int 17) (C := RX7) (T := TX7) (N := 2) hx hb hts in_X7_put_X7 hown hK hP 0 rfl rfl 1 (by decide) (hts (.fieldLink RX7 21 "ClayAccounts$Text" "size" "I") (by decide +kernel)) (fun _ h9 => h9) rfl dX7_put_1 ?_
  refine lv_aload_n hx hb dX7_put_4 rfl (lv_at hl 0 rfl) ?_
  refine va_get (D := (dC, dI)) (ci := 7) (v := .ref ab) (C := RX7) (T := TX7) (N := 2) hx hb hts in_X7_put_X7 hown hK hP 0 rfl rfl 0 (by decide) (hts (.fieldLink RX7 15 "ClayAccounts$Text" "bytes" "[B") (by decide +kernel)) (fun _ h9 => h9) rfl dX7_put_5 ?_
  refine va_alen (v := 440) hx hb hK hP 1 0 rfl rfl rfl dX7_put_8 ?_
  refine lv_icmp_ge (tgt := 33) hx hb dX7_put_9 (by decide) (fun c9 => absurd c9 (by decide)) (fun c9 => ?_)
  refine lv_aload_n hx hb dX7_put_12 rfl (lv_at hl 0 rfl) ?_
  refine va_get (D := (dC, dI)) (ci := 7) (v := .ref ab) (C := RX7) (T := TX7) (N := 2) hx hb hts in_X7_put_X7 hown hK hP 0 rfl rfl 0 (by decide) (hts (.fieldLink RX7 15 "ClayAccounts$Text" "bytes" "[B") (by decide +kernel)) (fun _ h9 => h9) rfl dX7_put_13 ?_
  refine lv_aload_n hx hb dX7_put_16 rfl (lv_at hl 0 rfl) ?_
  refine va_get (D := (dC, dI)) (ci := 7) (v := .int 17) (C := RX7) (T := TX7) (N := 2) hx hb hts in_X7_put_X7 hown hK hP 0 rfl rfl 1 (by decide) (hts (.fieldLink RX7 21 "ClayAccounts$Text" "size" "I") (by decide +kernel)) (fun _ h9 => h9) rfl dX7_put_17 ?_
  refine lv_iload_n hx hb dX7_put_20 rfl (lv_at hl 1 rfl) ?_
  refine lv_i2b hx hb dX7_put_21 rfl ?_
  refine lv_topi (fun v_1 ev_1 => ?_)
  refine va_bast hx hb hK hP hD hS 1 0 rfl rfl (show ¬ ((17 : Int32) < 0 ∨ 440 ≤ (17 : Int32).toNatClampNeg) by decide) dX7_put_22 (fun H locs hP hD hS => ?_)
  have hP : va_P (dC, dI) vwCl [(h0, .inr (7, [.ref ab, .int 17])), (ab, .inl (kb, 440, .inl (upd fb (17 : Int32).toNatClampNeg (vp_nar .byte v_1))))] H := hP
  have hD : va_D A [(h0, .inr (7, [.ref ab, .int 17])), (ab, .inl (kb, 440, .inl (upd fb (17 : Int32).toNatClampNeg (vp_nar .byte v_1))))] := hD
  generalize upd fb (17 : Int32).toNatClampNeg (vp_nar .byte v_1) = f_2 at hP hD
  refine lv_aload_n hx hb dX7_put_23 rfl (lv_at hl 0 rfl) ?_
  refine lv_dup hx hb dX7_put_24 rfl ?_
  refine va_get (D := (dC, dI)) (ci := 7) (v := .int 17) (C := RX7) (T := TX7) (N := 2) hx hb hts in_X7_put_X7 hown hK hP 0 rfl rfl 1 (by decide) (hts (.fieldLink RX7 21 "ClayAccounts$Text" "size" "I") (by decide +kernel)) (fun _ h9 => h9) rfl dX7_put_25 ?_
  refine lv_iconst (v := 1) hx hb dX7_put_28 (by decide) ?_
  refine lv_iadd hx hb dX7_put_29 ?_
  refine zz_top (y := 18) (by decide) ?_
  refine va_put (D := (dC, dI)) (ci := 7) (v := .int 18) (ty := .int) (C := RX7) (T := TX7) (N := 2) hx hb hts in_X7_put_X7 tyX7 tyX7_ok nmX7 hown hK hP hD hS 0 rfl rfl 1 (by decide) (hts (.fieldLink RX7 21 "ClayAccounts$Text" "size" "I") (by decide +kernel)) (fun _ h9 => h9) rfl (by decide +kernel) rfl rfl (Nat.le_of_ble_eq_true rfl) dX7_put_30 (fun H locs hP hD hS => ?_)
  have hP : va_P (dC, dI) vwCl [(h0, .inr (7, [.ref ab, .int 18])), (ab, .inl (kb, 440, .inl f_2))] H := hP
  have hD : va_D A [(h0, .inr (7, [.ref ab, .int 18])), (ab, .inl (kb, 440, .inl f_2))] := hD
  have hP9 := hP.sub (ws' := [(h0, .inr (7, [.ref ab, .int 18])), (ab, .inl (kb, 440, .inl f_2))]) [0, 1] rfl
  have hD9 := hD.sub (ws' := [(h0, .inr (7, [.ref ab, .int 18])), (ab, .inl (kb, 440, .inl f_2))]) [0, 1] (by decide) rfl
  have hK9 := hK.sub (tys' := [(kb, .byte)]) [0] rfl
  refine W.widen (k := 0) (n := 0) (Nat.le_of_ble_eq_true rfl) (Nat.le_of_ble_eq_true rfl) ?_
  exact W.vret hx hb hr (fun t ht hW => ⟨⟨(), rfl, trivial, f_2, by rw [ht]; exact hP9, va_K.moved hW.alike hK9, hD9⟩, hS.F ht⟩) hS.2.2 dX7_put_33
set_option maxHeartbeats 4000000 in
set_option maxRecDepth 100000 in
theorem c_put_18 (l : Launch) (dC : Nat → ClassId) (dI : Nat → Nat → Nat) (h0 : Nat) (ab : Nat) (kb : ClassId) (fb : Nat → Int32) (o9 : Int32) (sz : Nat)  : Met l yX7_put wsX7_put ({ frames := 0, cells := 0, slots := 0, locals := 0 } : Room) (va_Pc [.ref h0, .int o9] (fun U => U.heap.size = sz ∧ zz_X U ∧ va_P (dC, dI) vwCl [(h0, .inr (7, [.ref ab, .int 18])), (ab, .inl (kb, 440, .inl fb))] U.heap ∧ va_K (dC, dI) vwCl [(kb, .byte)] U ∧ va_D (fun _ => True) [(h0, .inr (7, [.ref ab, .int 18])), (ab, .inl (kb, 440, .inl fb))])) (va_Qv (fun (_ : Unit) => True) (fun (_ : Unit) (t : State) => ∃ (fc : Nat → Int32), va_P (dC, dI) vwCl [(h0, .inr (7, [.ref ab, .int 19])), (ab, .inl (kb, 440, .inl fc))] t.heap ∧ va_K (dC, dI) vwCl [(kb, .byte)] t ∧ va_D (va_A [(h0, .inr (7, [.ref ab, .int 18])), (ab, .inl (kb, 440, .inl fb))] sz) [(h0, .inr (7, [.ref ab, .int 19])), (ab, .inl (kb, 440, .inl fc))]) (va_A [(h0, .inr (7, [.ref ab, .int 18])), (ab, .inl (kb, 440, .inl fb))] sz)) 0 0 (va_A [(h0, .inr (7, [.ref ab, .int 18])), (ab, .inl (kb, 440, .inl fb))] sz) := by
  refine Met.ofW (cc := cX7_put) (maxL := 2) (ret := none) (by decide) rfl ?_
  intro p e s m args below meth c s₁ B hml hv
  obtain ⟨rfl, hsz, hzX, hP, hK, hD0⟩ := hv
  have hx := B.exec
  have hb := B.bytes
  have hr := B.returns
  have hts := atoms_spec (ws := wsX7_put) B.pre
  have hown : s.vm.findClass RX7 = some m.cls := findClass_of_methodNamed B.named
  have hlocks := B.notSynchronized
  subst hsz
  have hD := hD0.self (sz := s.heap.size)
  generalize hAe : va_A [(h0, .inr (7, [.ref ab, .int 18])), (ab, .inl (kb, 440, .inl fb))] s.heap.size = A at  hD ⊢
  have hA : ∀ q : Nat, s.heap.size ≤ q → A q := fun q h => by rw [← hAe]; exact Or.inr h
  have hS : va_S A s.heap s.heap [] := va_S.rf
  have hP : va_P (dC, dI) vwCl [(h0, .inr (7, [.ref ab, .int 18])), (ab, .inl (kb, 440, .inl fb))] s.heap := hP
  have hl := lv_entry ([.ref h0, .int o9]) (n := 2) (Nat.le_of_ble_eq_true rfl)
  rw [lg_entry_eq]
  generalize (lg_sl ([.ref h0, .int o9]) ++ List.replicate (2 - (lg_sl ([.ref h0, .int o9])).length) Slot.unset).toArray = ls at hl ⊢
  have hl : lv_has ls 2 [(0, .ref h0), (1, .int o9)] := hl
  skip
  refine lv_aload_n hx hb dX7_put_0 rfl (lv_at hl 0 rfl) ?_
  refine va_get (D := (dC, dI)) (ci := 7) (v := .int 18) (C := RX7) (T := TX7) (N := 2) hx hb hts in_X7_put_X7 hown hK hP 0 rfl rfl 1 (by decide) (hts (.fieldLink RX7 21 "ClayAccounts$Text" "size" "I") (by decide +kernel)) (fun _ h9 => h9) rfl dX7_put_1 ?_
  refine lv_aload_n hx hb dX7_put_4 rfl (lv_at hl 0 rfl) ?_
  refine va_get (D := (dC, dI)) (ci := 7) (v := .ref ab) (C := RX7) (T := TX7) (N := 2) hx hb hts in_X7_put_X7 hown hK hP 0 rfl rfl 0 (by decide) (hts (.fieldLink RX7 15 "ClayAccounts$Text" "bytes" "[B") (by decide +kernel)) (fun _ h9 => h9) rfl dX7_put_5 ?_
  refine va_alen (v := 440) hx hb hK hP 1 0 rfl rfl rfl dX7_put_8 ?_
  refine lv_icmp_ge (tgt := 33) hx hb dX7_put_9 (by decide) (fun c9 => absurd c9 (by decide)) (fun c9 => ?_)
  refine lv_aload_n hx hb dX7_put_12 rfl (lv_at hl 0 rfl) ?_
  refine va_get (D := (dC, dI)) (ci := 7) (v := .ref ab) (C := RX7) (T := TX7) (N := 2) hx hb hts in_X7_put_X7 hown hK hP 0 rfl rfl 0 (by decide) (hts (.fieldLink RX7 15 "ClayAccounts$Text" "bytes" "[B") (by decide +kernel)) (fun _ h9 => h9) rfl dX7_put_13 ?_
  refine lv_aload_n hx hb dX7_put_16 rfl (lv_at hl 0 rfl) ?_
  refine va_get (D := (dC, dI)) (ci := 7) (v := .int 18) (C := RX7) (T := TX7) (N := 2) hx hb hts in_X7_put_X7 hown hK hP 0 rfl rfl 1 (by decide) (hts (.fieldLink RX7 21 "ClayAccounts$Text" "size" "I") (by decide +kernel)) (fun _ h9 => h9) rfl dX7_put_17 ?_
  refine lv_iload_n hx hb dX7_put_20 rfl (lv_at hl 1 rfl) ?_
  refine lv_i2b hx hb dX7_put_21 rfl ?_
  refine lv_topi (fun v_1 ev_1 => ?_)
  refine va_bast hx hb hK hP hD hS 1 0 rfl rfl (show ¬ ((18 : Int32) < 0 ∨ 440 ≤ (18 : Int32).toNatClampNeg) by decide) dX7_put_22 (fun H locs hP hD hS => ?_)
  have hP : va_P (dC, dI) vwCl [(h0, .inr (7, [.ref ab, .int 18])), (ab, .inl (kb, 440, .inl (upd fb (18 : Int32).toNatClampNeg (vp_nar .byte v_1))))] H := hP
  have hD : va_D A [(h0, .inr (7, [.ref ab, .int 18])), (ab, .inl (kb, 440, .inl (upd fb (18 : Int32).toNatClampNeg (vp_nar .byte v_1))))] := hD
  generalize upd fb (18 : Int32).toNatClampNeg (vp_nar .byte v_1) = f_2 at hP hD
  refine lv_aload_n hx hb dX7_put_23 rfl (lv_at hl 0 rfl) ?_
  refine lv_dup hx hb dX7_put_24 rfl ?_
  refine va_get (D := (dC, dI)) (ci := 7) (v := .int 18) (C := RX7) (T := TX7) (N := 2) hx hb hts in_X7_put_X7 hown hK hP 0 rfl rfl 1 (by decide) (hts (.fieldLink RX7 21 "ClayAccounts$Text" "size" "I") (by decide +kernel)) (fun _ h9 => h9) rfl dX7_put_25 ?_
  refine lv_iconst (v := 1) hx hb dX7_put_28 (by decide) ?_
  refine lv_iadd hx hb dX7_put_29 ?_
  refine zz_top (y := 19) (by decide) ?_
  refine va_put (D := (dC, dI)) (ci := 7) (v := .int 19) (ty := .int) (C := RX7) (T := TX7) (N := 2) hx hb hts in_X7_put_X7 tyX7 tyX7_ok nmX7 hown hK hP hD hS 0 rfl rfl 1 (by decide) (hts (.fieldLink RX7 21 "ClayAccounts$Text" "size" "I") (by decide +kernel)) (fun _ h9 => h9) rfl (by decide +kernel) rfl rfl (Nat.le_of_ble_eq_true rfl) dX7_put_30 (fun H locs hP hD hS => ?_)
  have hP : va_P (dC, dI) vwCl [(h0, .inr (7, [.ref ab, .int 19])), (ab, .inl (kb, 440, .inl f_2))] H := hP
  have hD : va_D A [(h0, .inr (7, [.ref ab, .int 19])), (ab, .inl (kb, 440, .inl f_2))] := hD
  have hP9 := hP.sub (ws' := [(h0, .inr (7, [.ref ab, .int 19])), (ab, .inl (kb, 440, .inl f_2))]) [0, 1] rfl
  have hD9 := hD.sub (ws' := [(h0, .inr (7, [.ref ab, .int 19])), (ab, .inl (kb, 440, .inl f_2))]) [0, 1] (by decide) rfl
  have hK9 := hK.sub (tys' := [(kb, .byte)]) [0] rfl
  refine W.widen (k := 0) (n := 0) (Nat.le_of_ble_eq_true rfl) (Nat.le_of_ble_eq_true rfl) ?_
  exact W.vret hx hb hr (fun t ht hW => ⟨⟨(), rfl, trivial, f_2, by rw [ht]; exact hP9, va_K.moved hW.alike hK9, hD9⟩, hS.F ht⟩) hS.2.2 dX7_put_33
set_option maxHeartbeats 4000000 in
set_option maxRecDepth 100000 in
theorem c_put_19 (l : Launch) (dC : Nat → ClassId) (dI : Nat → Nat → Nat) (h0 : Nat) (ab : Nat) (kb : ClassId) (fb : Nat → Int32) (o9 : Int32) (sz : Nat)  : Met l yX7_put wsX7_put ({ frames := 0, cells := 0, slots := 0, locals := 0 } : Room) (va_Pc [.ref h0, .int o9] (fun U => U.heap.size = sz ∧ zz_X U ∧ va_P (dC, dI) vwCl [(h0, .inr (7, [.ref ab, .int 19])), (ab, .inl (kb, 440, .inl fb))] U.heap ∧ va_K (dC, dI) vwCl [(kb, .byte)] U ∧ va_D (fun _ => True) [(h0, .inr (7, [.ref ab, .int 19])), (ab, .inl (kb, 440, .inl fb))])) (va_Qv (fun (_ : Unit) => True) (fun (_ : Unit) (t : State) => ∃ (fc : Nat → Int32), va_P (dC, dI) vwCl [(h0, .inr (7, [.ref ab, .int 20])), (ab, .inl (kb, 440, .inl fc))] t.heap ∧ va_K (dC, dI) vwCl [(kb, .byte)] t ∧ va_D (va_A [(h0, .inr (7, [.ref ab, .int 19])), (ab, .inl (kb, 440, .inl fb))] sz) [(h0, .inr (7, [.ref ab, .int 20])), (ab, .inl (kb, 440, .inl fc))]) (va_A [(h0, .inr (7, [.ref ab, .int 19])), (ab, .inl (kb, 440, .inl fb))] sz)) 0 0 (va_A [(h0, .inr (7, [.ref ab, .int 19])), (ab, .inl (kb, 440, .inl fb))] sz) := by
  refine Met.ofW (cc := cX7_put) (maxL := 2) (ret := none) (by decide) rfl ?_
  intro p e s m args below meth c s₁ B hml hv
  obtain ⟨rfl, hsz, hzX, hP, hK, hD0⟩ := hv
  have hx := B.exec
  have hb := B.bytes
  have hr := B.returns
  have hts := atoms_spec (ws := wsX7_put) B.pre
  have hown : s.vm.findClass RX7 = some m.cls := findClass_of_methodNamed B.named
  have hlocks := B.notSynchronized
  subst hsz
  have hD := hD0.self (sz := s.heap.size)
  generalize hAe : va_A [(h0, .inr (7, [.ref ab, .int 19])), (ab, .inl (kb, 440, .inl fb))] s.heap.size = A at  hD ⊢
  have hA : ∀ q : Nat, s.heap.size ≤ q → A q := fun q h => by rw [← hAe]; exact Or.inr h
  have hS : va_S A s.heap s.heap [] := va_S.rf
  have hP : va_P (dC, dI) vwCl [(h0, .inr (7, [.ref ab, .int 19])), (ab, .inl (kb, 440, .inl fb))] s.heap := hP
  have hl := lv_entry ([.ref h0, .int o9]) (n := 2) (Nat.le_of_ble_eq_true rfl)
  rw [lg_entry_eq]
  generalize (lg_sl ([.ref h0, .int o9]) ++ List.replicate (2 - (lg_sl ([.ref h0, .int o9])).length) Slot.unset).toArray = ls at hl ⊢
  have hl : lv_has ls 2 [(0, .ref h0), (1, .int o9)] := hl
  skip
  refine lv_aload_n hx hb dX7_put_0 rfl (lv_at hl 0 rfl) ?_
  refine va_get (D := (dC, dI)) (ci := 7) (v := .int 19) (C := RX7) (T := TX7) (N := 2) hx hb hts in_X7_put_X7 hown hK hP 0 rfl rfl 1 (by decide) (hts (.fieldLink RX7 21 "ClayAccounts$Text" "size" "I") (by decide +kernel)) (fun _ h9 => h9) rfl dX7_put_1 ?_
  refine lv_aload_n hx hb dX7_put_4 rfl (lv_at hl 0 rfl) ?_
  refine va_get (D := (dC, dI)) (ci := 7) (v := .ref ab) (C := RX7) (T := TX7) (N := 2) hx hb hts in_X7_put_X7 hown hK hP 0 rfl rfl 0 (by decide) (hts (.fieldLink RX7 15 "ClayAccounts$Text" "bytes" "[B") (by decide +kernel)) (fun _ h9 => h9) rfl dX7_put_5 ?_
  refine va_alen (v := 440) hx hb hK hP 1 0 rfl rfl rfl dX7_put_8 ?_
  refine lv_icmp_ge (tgt := 33) hx hb dX7_put_9 (by decide) (fun c9 => absurd c9 (by decide)) (fun c9 => ?_)
  refine lv_aload_n hx hb dX7_put_12 rfl (lv_at hl 0 rfl) ?_
  refine va_get (D := (dC, dI)) (ci := 7) (v := .ref ab) (C := RX7) (T := TX7) (N := 2) hx hb hts in_X7_put_X7 hown hK hP 0 rfl rfl 0 (by decide) (hts (.fieldLink RX7 15 "ClayAccounts$Text" "bytes" "[B") (by decide +kernel)) (fun _ h9 => h9) rfl dX7_put_13 ?_
  refine lv_aload_n hx hb dX7_put_16 rfl (lv_at hl 0 rfl) ?_
  refine va_get (D := (dC, dI)) (ci := 7) (v := .int 19) (C := RX7) (T := TX7) (N := 2) hx hb hts in_X7_put_X7 hown hK hP 0 rfl rfl 1 (by decide) (hts (.fieldLink RX7 21 "ClayAccounts$Text" "size" "I") (by decide +kernel)) (fun _ h9 => h9) rfl dX7_put_17 ?_
  refine lv_iload_n hx hb dX7_put_20 rfl (lv_at hl 1 rfl) ?_
  refine lv_i2b hx hb dX7_put_21 rfl ?_
  refine lv_topi (fun v_1 ev_1 => ?_)
  refine va_bast hx hb hK hP hD hS 1 0 rfl rfl (show ¬ ((19 : Int32) < 0 ∨ 440 ≤ (19 : Int32).toNatClampNeg) by decide) dX7_put_22 (fun H locs hP hD hS => ?_)
  have hP : va_P (dC, dI) vwCl [(h0, .inr (7, [.ref ab, .int 19])), (ab, .inl (kb, 440, .inl (upd fb (19 : Int32).toNatClampNeg (vp_nar .byte v_1))))] H := hP
  have hD : va_D A [(h0, .inr (7, [.ref ab, .int 19])), (ab, .inl (kb, 440, .inl (upd fb (19 : Int32).toNatClampNeg (vp_nar .byte v_1))))] := hD
  generalize upd fb (19 : Int32).toNatClampNeg (vp_nar .byte v_1) = f_2 at hP hD
  refine lv_aload_n hx hb dX7_put_23 rfl (lv_at hl 0 rfl) ?_
  refine lv_dup hx hb dX7_put_24 rfl ?_
  refine va_get (D := (dC, dI)) (ci := 7) (v := .int 19) (C := RX7) (T := TX7) (N := 2) hx hb hts in_X7_put_X7 hown hK hP 0 rfl rfl 1 (by decide) (hts (.fieldLink RX7 21 "ClayAccounts$Text" "size" "I") (by decide +kernel)) (fun _ h9 => h9) rfl dX7_put_25 ?_
  refine lv_iconst (v := 1) hx hb dX7_put_28 (by decide) ?_
  refine lv_iadd hx hb dX7_put_29 ?_
  refine zz_top (y := 20) (by decide) ?_
  refine va_put (D := (dC, dI)) (ci := 7) (v := .int 20) (ty := .int) (C := RX7) (T := TX7) (N := 2) hx hb hts in_X7_put_X7 tyX7 tyX7_ok nmX7 hown hK hP hD hS 0 rfl rfl 1 (by decide) (hts (.fieldLink RX7 21 "ClayAccounts$Text" "size" "I") (by decide +kernel)) (fun _ h9 => h9) rfl (by decide +kernel) rfl rfl (Nat.le_of_ble_eq_true rfl) dX7_put_30 (fun H locs hP hD hS => ?_)
  have hP : va_P (dC, dI) vwCl [(h0, .inr (7, [.ref ab, .int 20])), (ab, .inl (kb, 440, .inl f_2))] H := hP
  have hD : va_D A [(h0, .inr (7, [.ref ab, .int 20])), (ab, .inl (kb, 440, .inl f_2))] := hD
  have hP9 := hP.sub (ws' := [(h0, .inr (7, [.ref ab, .int 20])), (ab, .inl (kb, 440, .inl f_2))]) [0, 1] rfl
  have hD9 := hD.sub (ws' := [(h0, .inr (7, [.ref ab, .int 20])), (ab, .inl (kb, 440, .inl f_2))]) [0, 1] (by decide) rfl
  have hK9 := hK.sub (tys' := [(kb, .byte)]) [0] rfl
  refine W.widen (k := 0) (n := 0) (Nat.le_of_ble_eq_true rfl) (Nat.le_of_ble_eq_true rfl) ?_
  exact W.vret hx hb hr (fun t ht hW => ⟨⟨(), rfl, trivial, f_2, by rw [ht]; exact hP9, va_K.moved hW.alike hK9, hD9⟩, hS.F ht⟩) hS.2.2 dX7_put_33
set_option maxHeartbeats 4000000 in
set_option maxRecDepth 100000 in
theorem c_putFour_0 (l : Launch) (dC : Nat → ClassId) (dI : Nat → Nat → Nat) (h0 : Nat) (ab : Nat) (kb : ClassId) (fb : Nat → Int32) (o9 : Int32) (sz : Nat)  : Met l yX7_putFour wsX7_putFour ({ frames := 1, cells := 0, slots := 0, locals := 21 } : Room) (va_Pc [.ref h0, .int o9] (fun U => U.heap.size = sz ∧ zz_X U ∧ va_P (dC, dI) vwCl [(h0, .inr (7, [.ref ab, .int 0])), (ab, .inl (kb, 440, .inl fb))] U.heap ∧ va_K (dC, dI) vwCl [(kb, .byte)] U ∧ va_D (fun _ => True) [(h0, .inr (7, [.ref ab, .int 0])), (ab, .inl (kb, 440, .inl fb))])) (va_Qv (fun (_ : Unit) => True) (fun (_ : Unit) (t : State) => ∃ (fc : Nat → Int32), va_P (dC, dI) vwCl [(h0, .inr (7, [.ref ab, .int 4])), (ab, .inl (kb, 440, .inl fc))] t.heap ∧ va_K (dC, dI) vwCl [(kb, .byte)] t ∧ va_D (va_A [(h0, .inr (7, [.ref ab, .int 0])), (ab, .inl (kb, 440, .inl fb))] sz) [(h0, .inr (7, [.ref ab, .int 4])), (ab, .inl (kb, 440, .inl fc))]) (va_A [(h0, .inr (7, [.ref ab, .int 0])), (ab, .inl (kb, 440, .inl fb))] sz)) 0 0 (va_A [(h0, .inr (7, [.ref ab, .int 0])), (ab, .inl (kb, 440, .inl fb))] sz) := by
  refine Met.ofW (cc := cX7_putFour) (maxL := 2) (ret := none) (by decide) rfl ?_
  intro p e s m args below meth c s₁ B hml hv
  obtain ⟨rfl, hsz, hzX, hP, hK, hD0⟩ := hv
  have hx := B.exec
  have hb := B.bytes
  have hr := B.returns
  have hts := atoms_spec (ws := wsX7_putFour) B.pre
  have hown : s.vm.findClass RX7 = some m.cls := findClass_of_methodNamed B.named
  have hlocks := B.notSynchronized
  subst hsz
  have hD := hD0.self (sz := s.heap.size)
  generalize hAe : va_A [(h0, .inr (7, [.ref ab, .int 0])), (ab, .inl (kb, 440, .inl fb))] s.heap.size = A at  hD ⊢
  have hA : ∀ q : Nat, s.heap.size ≤ q → A q := fun q h => by rw [← hAe]; exact Or.inr h
  have hS : va_S A s.heap s.heap [] := va_S.rf
  have hP : va_P (dC, dI) vwCl [(h0, .inr (7, [.ref ab, .int 0])), (ab, .inl (kb, 440, .inl fb))] s.heap := hP
  have hl := lv_entry ([.ref h0, .int o9]) (n := 2) (Nat.le_of_ble_eq_true rfl)
  rw [lg_entry_eq]
  generalize (lg_sl ([.ref h0, .int o9]) ++ List.replicate (2 - (lg_sl ([.ref h0, .int o9])).length) Slot.unset).toArray = ls at hl ⊢
  have hl : lv_has ls 2 [(0, .ref h0), (1, .int o9)] := hl
  skip
  refine lv_aload_n hx hb dX7_putFour_0 rfl (lv_at hl 0 rfl) ?_
  refine lv_iload_n hx hb dX7_putFour_1 rfl (lv_at hl 1 rfl) ?_
  refine lv_bipush (v := 24) hx hb dX7_putFour_2 (by decide) ?_
  refine lv_iushr hx hb dX7_putFour_4 rfl ?_
  refine lv_topi (fun v_1 ev_1 => ?_)
  have hPc := hP.sub (ws' := [(h0, .inr (7, [.ref ab, .int 0])), (ab, .inl (kb, 440, .inl fb))]) [0, 1] rfl
  have hDc := hD.sub (ws' := [(h0, .inr (7, [.ref ab, .int 0])), (ab, .inl (kb, 440, .inl fb))]) [0, 1] (by decide) rfl
  have hKc := hK.sub (tys' := [(kb, .byte)]) [0] rfl
  have hFc := va_free (wc := [(h0, .inr (7, [.ref ab, .int 0])), (ab, .inl (kb, 440, .inl fb))]) hD hS hA [0, 1] rfl
  refine va_callv (va_runV (As := [.int v_1]) (rest := []) ⟨hx, hb, hml, hown, hts⟩ (c_put_0 l dC dI h0 ab kb fb v_1 s.heap.size ) (cwV 1 hts gX7_putFour_X7_put rfl rfl rfl (by decide +kernel) ⟨Nat.le_of_ble_eq_true rfl, Nat.le_of_ble_eq_true rfl⟩) ⟨fun a U g mk q => by obtain ⟨q0, q1, qX, qP, qK, qD⟩ := q; exact ⟨q0, q1, zz_X.same (u := U) (U := U.calling g mk a) rfl qX, qP, va_K.moved (u := U) (U := U.calling g mk a) (Vm.Alike.refl U.vm) qK, qD⟩, va_recv hKc hPc (ci := 7) (q0 := 0) rfl rfl, fun U hU hW => ⟨rfl, by rw [hU], zz_X.warm hW hzX, by rw [hU]; exact hPc, va_K.moved hW.alike hKc, hDc.weaken (fun _ _ _ _ => trivial)⟩⟩ rfl rfl hl.1 rfl (lv_room (Nat.le_of_ble_eq_true rfl)) dX7_putFour_5 ⟨Nat.le_of_ble_eq_true rfl, Nat.le_of_ble_eq_true rfl⟩) hS (fun q _ h => hFc q h) hFc (fun u t H1 locs ht hvm hw hB hz1 hk1 hS => ?_)
  obtain ⟨f_2, hP1, hK1, hD1⟩ := hB
  rw [ht] at hP1
  have hK1 := va_K.moved hvm.symm hK1
  obtain ⟨hP, hD⟩ := va_join (wr := []) (w1 := [(h0, .inr (7, [.ref ab, .int 1])), (ab, .inl (kb, 440, .inl f_2))]) hP hD [0, 1] [] rfl rfl (by decide) (by decide) hk1 hFc hP1 hD1
  have hK := (hK.sub (tys' := [(kb, .byte)]) [0] rfl).app (hK1.sub (tys' := []) [] rfl)
  generalize H1 = H at hP hS ⊢
  have hP : va_P (dC, dI) vwCl [(h0, .inr (7, [.ref ab, .int 1])), (ab, .inl (kb, 440, .inl f_2))] H := hP
  have hD : va_D A [(h0, .inr (7, [.ref ab, .int 1])), (ab, .inl (kb, 440, .inl f_2))] := hD
  have hK : va_K (dC, dI) vwCl [(kb, .byte)] s := hK
  refine W.widen (k := 0) (n := 0) (Nat.le_of_ble_eq_true rfl) (Nat.le_of_ble_eq_true rfl) ?_
  refine lv_aload_n hx hb dX7_putFour_8 rfl (lv_at hl 0 rfl) ?_
  refine lv_iload_n hx hb dX7_putFour_9 rfl (lv_at hl 1 rfl) ?_
  refine lv_bipush (v := 16) hx hb dX7_putFour_10 (by decide) ?_
  refine lv_iushr hx hb dX7_putFour_12 rfl ?_
  refine lv_topi (fun v_3 ev_3 => ?_)
  have hPc := hP.sub (ws' := [(h0, .inr (7, [.ref ab, .int 1])), (ab, .inl (kb, 440, .inl f_2))]) [0, 1] rfl
  have hDc := hD.sub (ws' := [(h0, .inr (7, [.ref ab, .int 1])), (ab, .inl (kb, 440, .inl f_2))]) [0, 1] (by decide) rfl
  have hKc := hK.sub (tys' := [(kb, .byte)]) [0] rfl
  have hFc := va_free (wc := [(h0, .inr (7, [.ref ab, .int 1])), (ab, .inl (kb, 440, .inl f_2))]) hD hS hA [0, 1] rfl
  refine va_callv (va_runV (As := [.int v_3]) (rest := []) ⟨hx, hb, hml, hown, hts⟩ (c_put_1 l dC dI h0 ab kb f_2 v_3 H.size ) (cwV 1 hts gX7_putFour_X7_put rfl rfl rfl (by decide +kernel) ⟨Nat.le_of_ble_eq_true rfl, Nat.le_of_ble_eq_true rfl⟩) ⟨fun a U g mk q => by obtain ⟨q0, q1, qX, qP, qK, qD⟩ := q; exact ⟨q0, q1, zz_X.same (u := U) (U := U.calling g mk a) rfl qX, qP, va_K.moved (u := U) (U := U.calling g mk a) (Vm.Alike.refl U.vm) qK, qD⟩, va_recv hKc hPc (ci := 7) (q0 := 0) rfl rfl, fun U hU hW => ⟨rfl, by rw [hU], zz_X.warm hW hzX, by rw [hU]; exact hPc, va_K.moved hW.alike hKc, hDc.weaken (fun _ _ _ _ => trivial)⟩⟩ rfl rfl hl.1 rfl (lv_room (Nat.le_of_ble_eq_true rfl)) dX7_putFour_13 ⟨Nat.le_of_ble_eq_true rfl, Nat.le_of_ble_eq_true rfl⟩) hS (fun q _ h => hFc q h) hFc (fun u t H1 locs ht hvm hw hB hz1 hk1 hS => ?_)
  obtain ⟨f_4, hP1, hK1, hD1⟩ := hB
  rw [ht] at hP1
  have hK1 := va_K.moved hvm.symm hK1
  obtain ⟨hP, hD⟩ := va_join (wr := []) (w1 := [(h0, .inr (7, [.ref ab, .int 2])), (ab, .inl (kb, 440, .inl f_4))]) hP hD [0, 1] [] rfl rfl (by decide) (by decide) hk1 hFc hP1 hD1
  have hK := (hK.sub (tys' := [(kb, .byte)]) [0] rfl).app (hK1.sub (tys' := []) [] rfl)
  generalize H1 = H at hP hS ⊢
  have hP : va_P (dC, dI) vwCl [(h0, .inr (7, [.ref ab, .int 2])), (ab, .inl (kb, 440, .inl f_4))] H := hP
  have hD : va_D A [(h0, .inr (7, [.ref ab, .int 2])), (ab, .inl (kb, 440, .inl f_4))] := hD
  have hK : va_K (dC, dI) vwCl [(kb, .byte)] s := hK
  refine W.widen (k := 0) (n := 0) (Nat.le_of_ble_eq_true rfl) (Nat.le_of_ble_eq_true rfl) ?_
  refine lv_aload_n hx hb dX7_putFour_16 rfl (lv_at hl 0 rfl) ?_
  refine lv_iload_n hx hb dX7_putFour_17 rfl (lv_at hl 1 rfl) ?_
  refine lv_bipush (v := 8) hx hb dX7_putFour_18 (by decide) ?_
  refine lv_iushr hx hb dX7_putFour_20 rfl ?_
  refine lv_topi (fun v_5 ev_5 => ?_)
  have hPc := hP.sub (ws' := [(h0, .inr (7, [.ref ab, .int 2])), (ab, .inl (kb, 440, .inl f_4))]) [0, 1] rfl
  have hDc := hD.sub (ws' := [(h0, .inr (7, [.ref ab, .int 2])), (ab, .inl (kb, 440, .inl f_4))]) [0, 1] (by decide) rfl
  have hKc := hK.sub (tys' := [(kb, .byte)]) [0] rfl
  have hFc := va_free (wc := [(h0, .inr (7, [.ref ab, .int 2])), (ab, .inl (kb, 440, .inl f_4))]) hD hS hA [0, 1] rfl
  refine va_callv (va_runV (As := [.int v_5]) (rest := []) ⟨hx, hb, hml, hown, hts⟩ (c_put_2 l dC dI h0 ab kb f_4 v_5 H.size ) (cwV 1 hts gX7_putFour_X7_put rfl rfl rfl (by decide +kernel) ⟨Nat.le_of_ble_eq_true rfl, Nat.le_of_ble_eq_true rfl⟩) ⟨fun a U g mk q => by obtain ⟨q0, q1, qX, qP, qK, qD⟩ := q; exact ⟨q0, q1, zz_X.same (u := U) (U := U.calling g mk a) rfl qX, qP, va_K.moved (u := U) (U := U.calling g mk a) (Vm.Alike.refl U.vm) qK, qD⟩, va_recv hKc hPc (ci := 7) (q0 := 0) rfl rfl, fun U hU hW => ⟨rfl, by rw [hU], zz_X.warm hW hzX, by rw [hU]; exact hPc, va_K.moved hW.alike hKc, hDc.weaken (fun _ _ _ _ => trivial)⟩⟩ rfl rfl hl.1 rfl (lv_room (Nat.le_of_ble_eq_true rfl)) dX7_putFour_21 ⟨Nat.le_of_ble_eq_true rfl, Nat.le_of_ble_eq_true rfl⟩) hS (fun q _ h => hFc q h) hFc (fun u t H1 locs ht hvm hw hB hz1 hk1 hS => ?_)
  obtain ⟨f_6, hP1, hK1, hD1⟩ := hB
  rw [ht] at hP1
  have hK1 := va_K.moved hvm.symm hK1
  obtain ⟨hP, hD⟩ := va_join (wr := []) (w1 := [(h0, .inr (7, [.ref ab, .int 3])), (ab, .inl (kb, 440, .inl f_6))]) hP hD [0, 1] [] rfl rfl (by decide) (by decide) hk1 hFc hP1 hD1
  have hK := (hK.sub (tys' := [(kb, .byte)]) [0] rfl).app (hK1.sub (tys' := []) [] rfl)
  generalize H1 = H at hP hS ⊢
  have hP : va_P (dC, dI) vwCl [(h0, .inr (7, [.ref ab, .int 3])), (ab, .inl (kb, 440, .inl f_6))] H := hP
  have hD : va_D A [(h0, .inr (7, [.ref ab, .int 3])), (ab, .inl (kb, 440, .inl f_6))] := hD
  have hK : va_K (dC, dI) vwCl [(kb, .byte)] s := hK
  refine W.widen (k := 0) (n := 0) (Nat.le_of_ble_eq_true rfl) (Nat.le_of_ble_eq_true rfl) ?_
  refine lv_aload_n hx hb dX7_putFour_24 rfl (lv_at hl 0 rfl) ?_
  refine lv_iload_n hx hb dX7_putFour_25 rfl (lv_at hl 1 rfl) ?_
  have hPc := hP.sub (ws' := [(h0, .inr (7, [.ref ab, .int 3])), (ab, .inl (kb, 440, .inl f_6))]) [0, 1] rfl
  have hDc := hD.sub (ws' := [(h0, .inr (7, [.ref ab, .int 3])), (ab, .inl (kb, 440, .inl f_6))]) [0, 1] (by decide) rfl
  have hKc := hK.sub (tys' := [(kb, .byte)]) [0] rfl
  have hFc := va_free (wc := [(h0, .inr (7, [.ref ab, .int 3])), (ab, .inl (kb, 440, .inl f_6))]) hD hS hA [0, 1] rfl
  refine va_callv (va_runV (As := [.int o9]) (rest := []) ⟨hx, hb, hml, hown, hts⟩ (c_put_3 l dC dI h0 ab kb f_6 o9 H.size ) (cwV 1 hts gX7_putFour_X7_put rfl rfl rfl (by decide +kernel) ⟨Nat.le_of_ble_eq_true rfl, Nat.le_of_ble_eq_true rfl⟩) ⟨fun a U g mk q => by obtain ⟨q0, q1, qX, qP, qK, qD⟩ := q; exact ⟨q0, q1, zz_X.same (u := U) (U := U.calling g mk a) rfl qX, qP, va_K.moved (u := U) (U := U.calling g mk a) (Vm.Alike.refl U.vm) qK, qD⟩, va_recv hKc hPc (ci := 7) (q0 := 0) rfl rfl, fun U hU hW => ⟨rfl, by rw [hU], zz_X.warm hW hzX, by rw [hU]; exact hPc, va_K.moved hW.alike hKc, hDc.weaken (fun _ _ _ _ => trivial)⟩⟩ rfl rfl hl.1 rfl (lv_room (Nat.le_of_ble_eq_true rfl)) dX7_putFour_26 ⟨Nat.le_of_ble_eq_true rfl, Nat.le_of_ble_eq_true rfl⟩) hS (fun q _ h => hFc q h) hFc (fun u t H1 locs ht hvm hw hB hz1 hk1 hS => ?_)
  obtain ⟨f_7, hP1, hK1, hD1⟩ := hB
  rw [ht] at hP1
  have hK1 := va_K.moved hvm.symm hK1
  obtain ⟨hP, hD⟩ := va_join (wr := []) (w1 := [(h0, .inr (7, [.ref ab, .int 4])), (ab, .inl (kb, 440, .inl f_7))]) hP hD [0, 1] [] rfl rfl (by decide) (by decide) hk1 hFc hP1 hD1
  have hK := (hK.sub (tys' := [(kb, .byte)]) [0] rfl).app (hK1.sub (tys' := []) [] rfl)
  generalize H1 = H at hP hS ⊢
  have hP : va_P (dC, dI) vwCl [(h0, .inr (7, [.ref ab, .int 4])), (ab, .inl (kb, 440, .inl f_7))] H := hP
  have hD : va_D A [(h0, .inr (7, [.ref ab, .int 4])), (ab, .inl (kb, 440, .inl f_7))] := hD
  have hK : va_K (dC, dI) vwCl [(kb, .byte)] s := hK
  refine W.widen (k := 0) (n := 0) (Nat.le_of_ble_eq_true rfl) (Nat.le_of_ble_eq_true rfl) ?_
  have hP9 := hP.sub (ws' := [(h0, .inr (7, [.ref ab, .int 4])), (ab, .inl (kb, 440, .inl f_7))]) [0, 1] rfl
  have hD9 := hD.sub (ws' := [(h0, .inr (7, [.ref ab, .int 4])), (ab, .inl (kb, 440, .inl f_7))]) [0, 1] (by decide) rfl
  have hK9 := hK.sub (tys' := [(kb, .byte)]) [0] rfl
  refine W.widen (k := 0) (n := 0) (Nat.le_of_ble_eq_true rfl) (Nat.le_of_ble_eq_true rfl) ?_
  exact W.vret hx hb hr (fun t ht hW => ⟨⟨(), rfl, trivial, f_7, by rw [ht]; exact hP9, va_K.moved hW.alike hK9, hD9⟩, hS.F ht⟩) hS.2.2 dX7_putFour_29
set_option maxHeartbeats 4000000 in
set_option maxRecDepth 100000 in
theorem c_putFour_4 (l : Launch) (dC : Nat → ClassId) (dI : Nat → Nat → Nat) (h0 : Nat) (ab : Nat) (kb : ClassId) (fb : Nat → Int32) (o9 : Int32) (sz : Nat)  : Met l yX7_putFour wsX7_putFour ({ frames := 1, cells := 0, slots := 0, locals := 21 } : Room) (va_Pc [.ref h0, .int o9] (fun U => U.heap.size = sz ∧ zz_X U ∧ va_P (dC, dI) vwCl [(h0, .inr (7, [.ref ab, .int 4])), (ab, .inl (kb, 440, .inl fb))] U.heap ∧ va_K (dC, dI) vwCl [(kb, .byte)] U ∧ va_D (fun _ => True) [(h0, .inr (7, [.ref ab, .int 4])), (ab, .inl (kb, 440, .inl fb))])) (va_Qv (fun (_ : Unit) => True) (fun (_ : Unit) (t : State) => ∃ (fc : Nat → Int32), va_P (dC, dI) vwCl [(h0, .inr (7, [.ref ab, .int 8])), (ab, .inl (kb, 440, .inl fc))] t.heap ∧ va_K (dC, dI) vwCl [(kb, .byte)] t ∧ va_D (va_A [(h0, .inr (7, [.ref ab, .int 4])), (ab, .inl (kb, 440, .inl fb))] sz) [(h0, .inr (7, [.ref ab, .int 8])), (ab, .inl (kb, 440, .inl fc))]) (va_A [(h0, .inr (7, [.ref ab, .int 4])), (ab, .inl (kb, 440, .inl fb))] sz)) 0 0 (va_A [(h0, .inr (7, [.ref ab, .int 4])), (ab, .inl (kb, 440, .inl fb))] sz) := by
  refine Met.ofW (cc := cX7_putFour) (maxL := 2) (ret := none) (by decide) rfl ?_
  intro p e s m args below meth c s₁ B hml hv
  obtain ⟨rfl, hsz, hzX, hP, hK, hD0⟩ := hv
  have hx := B.exec
  have hb := B.bytes
  have hr := B.returns
  have hts := atoms_spec (ws := wsX7_putFour) B.pre
  have hown : s.vm.findClass RX7 = some m.cls := findClass_of_methodNamed B.named
  have hlocks := B.notSynchronized
  subst hsz
  have hD := hD0.self (sz := s.heap.size)
  generalize hAe : va_A [(h0, .inr (7, [.ref ab, .int 4])), (ab, .inl (kb, 440, .inl fb))] s.heap.size = A at  hD ⊢
  have hA : ∀ q : Nat, s.heap.size ≤ q → A q := fun q h => by rw [← hAe]; exact Or.inr h
  have hS : va_S A s.heap s.heap [] := va_S.rf
  have hP : va_P (dC, dI) vwCl [(h0, .inr (7, [.ref ab, .int 4])), (ab, .inl (kb, 440, .inl fb))] s.heap := hP
  have hl := lv_entry ([.ref h0, .int o9]) (n := 2) (Nat.le_of_ble_eq_true rfl)
  rw [lg_entry_eq]
  generalize (lg_sl ([.ref h0, .int o9]) ++ List.replicate (2 - (lg_sl ([.ref h0, .int o9])).length) Slot.unset).toArray = ls at hl ⊢
  have hl : lv_has ls 2 [(0, .ref h0), (1, .int o9)] := hl
  skip
  refine lv_aload_n hx hb dX7_putFour_0 rfl (lv_at hl 0 rfl) ?_
  refine lv_iload_n hx hb dX7_putFour_1 rfl (lv_at hl 1 rfl) ?_
  refine lv_bipush (v := 24) hx hb dX7_putFour_2 (by decide) ?_
  refine lv_iushr hx hb dX7_putFour_4 rfl ?_
  refine lv_topi (fun v_1 ev_1 => ?_)
  have hPc := hP.sub (ws' := [(h0, .inr (7, [.ref ab, .int 4])), (ab, .inl (kb, 440, .inl fb))]) [0, 1] rfl
  have hDc := hD.sub (ws' := [(h0, .inr (7, [.ref ab, .int 4])), (ab, .inl (kb, 440, .inl fb))]) [0, 1] (by decide) rfl
  have hKc := hK.sub (tys' := [(kb, .byte)]) [0] rfl
  have hFc := va_free (wc := [(h0, .inr (7, [.ref ab, .int 4])), (ab, .inl (kb, 440, .inl fb))]) hD hS hA [0, 1] rfl
  refine va_callv (va_runV (As := [.int v_1]) (rest := []) ⟨hx, hb, hml, hown, hts⟩ (c_put_4 l dC dI h0 ab kb fb v_1 s.heap.size ) (cwV 1 hts gX7_putFour_X7_put rfl rfl rfl (by decide +kernel) ⟨Nat.le_of_ble_eq_true rfl, Nat.le_of_ble_eq_true rfl⟩) ⟨fun a U g mk q => by obtain ⟨q0, q1, qX, qP, qK, qD⟩ := q; exact ⟨q0, q1, zz_X.same (u := U) (U := U.calling g mk a) rfl qX, qP, va_K.moved (u := U) (U := U.calling g mk a) (Vm.Alike.refl U.vm) qK, qD⟩, va_recv hKc hPc (ci := 7) (q0 := 0) rfl rfl, fun U hU hW => ⟨rfl, by rw [hU], zz_X.warm hW hzX, by rw [hU]; exact hPc, va_K.moved hW.alike hKc, hDc.weaken (fun _ _ _ _ => trivial)⟩⟩ rfl rfl hl.1 rfl (lv_room (Nat.le_of_ble_eq_true rfl)) dX7_putFour_5 ⟨Nat.le_of_ble_eq_true rfl, Nat.le_of_ble_eq_true rfl⟩) hS (fun q _ h => hFc q h) hFc (fun u t H1 locs ht hvm hw hB hz1 hk1 hS => ?_)
  obtain ⟨f_2, hP1, hK1, hD1⟩ := hB
  rw [ht] at hP1
  have hK1 := va_K.moved hvm.symm hK1
  obtain ⟨hP, hD⟩ := va_join (wr := []) (w1 := [(h0, .inr (7, [.ref ab, .int 5])), (ab, .inl (kb, 440, .inl f_2))]) hP hD [0, 1] [] rfl rfl (by decide) (by decide) hk1 hFc hP1 hD1
  have hK := (hK.sub (tys' := [(kb, .byte)]) [0] rfl).app (hK1.sub (tys' := []) [] rfl)
  generalize H1 = H at hP hS ⊢
  have hP : va_P (dC, dI) vwCl [(h0, .inr (7, [.ref ab, .int 5])), (ab, .inl (kb, 440, .inl f_2))] H := hP
  have hD : va_D A [(h0, .inr (7, [.ref ab, .int 5])), (ab, .inl (kb, 440, .inl f_2))] := hD
  have hK : va_K (dC, dI) vwCl [(kb, .byte)] s := hK
  refine W.widen (k := 0) (n := 0) (Nat.le_of_ble_eq_true rfl) (Nat.le_of_ble_eq_true rfl) ?_
  refine lv_aload_n hx hb dX7_putFour_8 rfl (lv_at hl 0 rfl) ?_
  refine lv_iload_n hx hb dX7_putFour_9 rfl (lv_at hl 1 rfl) ?_
  refine lv_bipush (v := 16) hx hb dX7_putFour_10 (by decide) ?_
  refine lv_iushr hx hb dX7_putFour_12 rfl ?_
  refine lv_topi (fun v_3 ev_3 => ?_)
  have hPc := hP.sub (ws' := [(h0, .inr (7, [.ref ab, .int 5])), (ab, .inl (kb, 440, .inl f_2))]) [0, 1] rfl
  have hDc := hD.sub (ws' := [(h0, .inr (7, [.ref ab, .int 5])), (ab, .inl (kb, 440, .inl f_2))]) [0, 1] (by decide) rfl
  have hKc := hK.sub (tys' := [(kb, .byte)]) [0] rfl
  have hFc := va_free (wc := [(h0, .inr (7, [.ref ab, .int 5])), (ab, .inl (kb, 440, .inl f_2))]) hD hS hA [0, 1] rfl
  refine va_callv (va_runV (As := [.int v_3]) (rest := []) ⟨hx, hb, hml, hown, hts⟩ (c_put_5 l dC dI h0 ab kb f_2 v_3 H.size ) (cwV 1 hts gX7_putFour_X7_put rfl rfl rfl (by decide +kernel) ⟨Nat.le_of_ble_eq_true rfl, Nat.le_of_ble_eq_true rfl⟩) ⟨fun a U g mk q => by obtain ⟨q0, q1, qX, qP, qK, qD⟩ := q; exact ⟨q0, q1, zz_X.same (u := U) (U := U.calling g mk a) rfl qX, qP, va_K.moved (u := U) (U := U.calling g mk a) (Vm.Alike.refl U.vm) qK, qD⟩, va_recv hKc hPc (ci := 7) (q0 := 0) rfl rfl, fun U hU hW => ⟨rfl, by rw [hU], zz_X.warm hW hzX, by rw [hU]; exact hPc, va_K.moved hW.alike hKc, hDc.weaken (fun _ _ _ _ => trivial)⟩⟩ rfl rfl hl.1 rfl (lv_room (Nat.le_of_ble_eq_true rfl)) dX7_putFour_13 ⟨Nat.le_of_ble_eq_true rfl, Nat.le_of_ble_eq_true rfl⟩) hS (fun q _ h => hFc q h) hFc (fun u t H1 locs ht hvm hw hB hz1 hk1 hS => ?_)
  obtain ⟨f_4, hP1, hK1, hD1⟩ := hB
  rw [ht] at hP1
  have hK1 := va_K.moved hvm.symm hK1
  obtain ⟨hP, hD⟩ := va_join (wr := []) (w1 := [(h0, .inr (7, [.ref ab, .int 6])), (ab, .inl (kb, 440, .inl f_4))]) hP hD [0, 1] [] rfl rfl (by decide) (by decide) hk1 hFc hP1 hD1
  have hK := (hK.sub (tys' := [(kb, .byte)]) [0] rfl).app (hK1.sub (tys' := []) [] rfl)
  generalize H1 = H at hP hS ⊢
  have hP : va_P (dC, dI) vwCl [(h0, .inr (7, [.ref ab, .int 6])), (ab, .inl (kb, 440, .inl f_4))] H := hP
  have hD : va_D A [(h0, .inr (7, [.ref ab, .int 6])), (ab, .inl (kb, 440, .inl f_4))] := hD
  have hK : va_K (dC, dI) vwCl [(kb, .byte)] s := hK
  refine W.widen (k := 0) (n := 0) (Nat.le_of_ble_eq_true rfl) (Nat.le_of_ble_eq_true rfl) ?_
  refine lv_aload_n hx hb dX7_putFour_16 rfl (lv_at hl 0 rfl) ?_
  refine lv_iload_n hx hb dX7_putFour_17 rfl (lv_at hl 1 rfl) ?_
  refine lv_bipush (v := 8) hx hb dX7_putFour_18 (by decide) ?_
  refine lv_iushr hx hb dX7_putFour_20 rfl ?_
  refine lv_topi (fun v_5 ev_5 => ?_)
  have hPc := hP.sub (ws' := [(h0, .inr (7, [.ref ab, .int 6])), (ab, .inl (kb, 440, .inl f_4))]) [0, 1] rfl
  have hDc := hD.sub (ws' := [(h0, .inr (7, [.ref ab, .int 6])), (ab, .inl (kb, 440, .inl f_4))]) [0, 1] (by decide) rfl
  have hKc := hK.sub (tys' := [(kb, .byte)]) [0] rfl
  have hFc := va_free (wc := [(h0, .inr (7, [.ref ab, .int 6])), (ab, .inl (kb, 440, .inl f_4))]) hD hS hA [0, 1] rfl
  refine va_callv (va_runV (As := [.int v_5]) (rest := []) ⟨hx, hb, hml, hown, hts⟩ (c_put_6 l dC dI h0 ab kb f_4 v_5 H.size ) (cwV 1 hts gX7_putFour_X7_put rfl rfl rfl (by decide +kernel) ⟨Nat.le_of_ble_eq_true rfl, Nat.le_of_ble_eq_true rfl⟩) ⟨fun a U g mk q => by obtain ⟨q0, q1, qX, qP, qK, qD⟩ := q; exact ⟨q0, q1, zz_X.same (u := U) (U := U.calling g mk a) rfl qX, qP, va_K.moved (u := U) (U := U.calling g mk a) (Vm.Alike.refl U.vm) qK, qD⟩, va_recv hKc hPc (ci := 7) (q0 := 0) rfl rfl, fun U hU hW => ⟨rfl, by rw [hU], zz_X.warm hW hzX, by rw [hU]; exact hPc, va_K.moved hW.alike hKc, hDc.weaken (fun _ _ _ _ => trivial)⟩⟩ rfl rfl hl.1 rfl (lv_room (Nat.le_of_ble_eq_true rfl)) dX7_putFour_21 ⟨Nat.le_of_ble_eq_true rfl, Nat.le_of_ble_eq_true rfl⟩) hS (fun q _ h => hFc q h) hFc (fun u t H1 locs ht hvm hw hB hz1 hk1 hS => ?_)
  obtain ⟨f_6, hP1, hK1, hD1⟩ := hB
  rw [ht] at hP1
  have hK1 := va_K.moved hvm.symm hK1
  obtain ⟨hP, hD⟩ := va_join (wr := []) (w1 := [(h0, .inr (7, [.ref ab, .int 7])), (ab, .inl (kb, 440, .inl f_6))]) hP hD [0, 1] [] rfl rfl (by decide) (by decide) hk1 hFc hP1 hD1
  have hK := (hK.sub (tys' := [(kb, .byte)]) [0] rfl).app (hK1.sub (tys' := []) [] rfl)
  generalize H1 = H at hP hS ⊢
  have hP : va_P (dC, dI) vwCl [(h0, .inr (7, [.ref ab, .int 7])), (ab, .inl (kb, 440, .inl f_6))] H := hP
  have hD : va_D A [(h0, .inr (7, [.ref ab, .int 7])), (ab, .inl (kb, 440, .inl f_6))] := hD
  have hK : va_K (dC, dI) vwCl [(kb, .byte)] s := hK
  refine W.widen (k := 0) (n := 0) (Nat.le_of_ble_eq_true rfl) (Nat.le_of_ble_eq_true rfl) ?_
  refine lv_aload_n hx hb dX7_putFour_24 rfl (lv_at hl 0 rfl) ?_
  refine lv_iload_n hx hb dX7_putFour_25 rfl (lv_at hl 1 rfl) ?_
  have hPc := hP.sub (ws' := [(h0, .inr (7, [.ref ab, .int 7])), (ab, .inl (kb, 440, .inl f_6))]) [0, 1] rfl
  have hDc := hD.sub (ws' := [(h0, .inr (7, [.ref ab, .int 7])), (ab, .inl (kb, 440, .inl f_6))]) [0, 1] (by decide) rfl
  have hKc := hK.sub (tys' := [(kb, .byte)]) [0] rfl
  have hFc := va_free (wc := [(h0, .inr (7, [.ref ab, .int 7])), (ab, .inl (kb, 440, .inl f_6))]) hD hS hA [0, 1] rfl
  refine va_callv (va_runV (As := [.int o9]) (rest := []) ⟨hx, hb, hml, hown, hts⟩ (c_put_7 l dC dI h0 ab kb f_6 o9 H.size ) (cwV 1 hts gX7_putFour_X7_put rfl rfl rfl (by decide +kernel) ⟨Nat.le_of_ble_eq_true rfl, Nat.le_of_ble_eq_true rfl⟩) ⟨fun a U g mk q => by obtain ⟨q0, q1, qX, qP, qK, qD⟩ := q; exact ⟨q0, q1, zz_X.same (u := U) (U := U.calling g mk a) rfl qX, qP, va_K.moved (u := U) (U := U.calling g mk a) (Vm.Alike.refl U.vm) qK, qD⟩, va_recv hKc hPc (ci := 7) (q0 := 0) rfl rfl, fun U hU hW => ⟨rfl, by rw [hU], zz_X.warm hW hzX, by rw [hU]; exact hPc, va_K.moved hW.alike hKc, hDc.weaken (fun _ _ _ _ => trivial)⟩⟩ rfl rfl hl.1 rfl (lv_room (Nat.le_of_ble_eq_true rfl)) dX7_putFour_26 ⟨Nat.le_of_ble_eq_true rfl, Nat.le_of_ble_eq_true rfl⟩) hS (fun q _ h => hFc q h) hFc (fun u t H1 locs ht hvm hw hB hz1 hk1 hS => ?_)
  obtain ⟨f_7, hP1, hK1, hD1⟩ := hB
  rw [ht] at hP1
  have hK1 := va_K.moved hvm.symm hK1
  obtain ⟨hP, hD⟩ := va_join (wr := []) (w1 := [(h0, .inr (7, [.ref ab, .int 8])), (ab, .inl (kb, 440, .inl f_7))]) hP hD [0, 1] [] rfl rfl (by decide) (by decide) hk1 hFc hP1 hD1
  have hK := (hK.sub (tys' := [(kb, .byte)]) [0] rfl).app (hK1.sub (tys' := []) [] rfl)
  generalize H1 = H at hP hS ⊢
  have hP : va_P (dC, dI) vwCl [(h0, .inr (7, [.ref ab, .int 8])), (ab, .inl (kb, 440, .inl f_7))] H := hP
  have hD : va_D A [(h0, .inr (7, [.ref ab, .int 8])), (ab, .inl (kb, 440, .inl f_7))] := hD
  have hK : va_K (dC, dI) vwCl [(kb, .byte)] s := hK
  refine W.widen (k := 0) (n := 0) (Nat.le_of_ble_eq_true rfl) (Nat.le_of_ble_eq_true rfl) ?_
  have hP9 := hP.sub (ws' := [(h0, .inr (7, [.ref ab, .int 8])), (ab, .inl (kb, 440, .inl f_7))]) [0, 1] rfl
  have hD9 := hD.sub (ws' := [(h0, .inr (7, [.ref ab, .int 8])), (ab, .inl (kb, 440, .inl f_7))]) [0, 1] (by decide) rfl
  have hK9 := hK.sub (tys' := [(kb, .byte)]) [0] rfl
  refine W.widen (k := 0) (n := 0) (Nat.le_of_ble_eq_true rfl) (Nat.le_of_ble_eq_true rfl) ?_
  exact W.vret hx hb hr (fun t ht hW => ⟨⟨(), rfl, trivial, f_7, by rw [ht]; exact hP9, va_K.moved hW.alike hK9, hD9⟩, hS.F ht⟩) hS.2.2 dX7_putFour_29
set_option maxHeartbeats 4000000 in
set_option maxRecDepth 100000 in
theorem c_putFour_8 (l : Launch) (dC : Nat → ClassId) (dI : Nat → Nat → Nat) (h0 : Nat) (ab : Nat) (kb : ClassId) (fb : Nat → Int32) (o9 : Int32) (sz : Nat)  : Met l yX7_putFour wsX7_putFour ({ frames := 1, cells := 0, slots := 0, locals := 21 } : Room) (va_Pc [.ref h0, .int o9] (fun U => U.heap.size = sz ∧ zz_X U ∧ va_P (dC, dI) vwCl [(h0, .inr (7, [.ref ab, .int 8])), (ab, .inl (kb, 440, .inl fb))] U.heap ∧ va_K (dC, dI) vwCl [(kb, .byte)] U ∧ va_D (fun _ => True) [(h0, .inr (7, [.ref ab, .int 8])), (ab, .inl (kb, 440, .inl fb))])) (va_Qv (fun (_ : Unit) => True) (fun (_ : Unit) (t : State) => ∃ (fc : Nat → Int32), va_P (dC, dI) vwCl [(h0, .inr (7, [.ref ab, .int 12])), (ab, .inl (kb, 440, .inl fc))] t.heap ∧ va_K (dC, dI) vwCl [(kb, .byte)] t ∧ va_D (va_A [(h0, .inr (7, [.ref ab, .int 8])), (ab, .inl (kb, 440, .inl fb))] sz) [(h0, .inr (7, [.ref ab, .int 12])), (ab, .inl (kb, 440, .inl fc))]) (va_A [(h0, .inr (7, [.ref ab, .int 8])), (ab, .inl (kb, 440, .inl fb))] sz)) 0 0 (va_A [(h0, .inr (7, [.ref ab, .int 8])), (ab, .inl (kb, 440, .inl fb))] sz) := by
  refine Met.ofW (cc := cX7_putFour) (maxL := 2) (ret := none) (by decide) rfl ?_
  intro p e s m args below meth c s₁ B hml hv
  obtain ⟨rfl, hsz, hzX, hP, hK, hD0⟩ := hv
  have hx := B.exec
  have hb := B.bytes
  have hr := B.returns
  have hts := atoms_spec (ws := wsX7_putFour) B.pre
  have hown : s.vm.findClass RX7 = some m.cls := findClass_of_methodNamed B.named
  have hlocks := B.notSynchronized
  subst hsz
  have hD := hD0.self (sz := s.heap.size)
  generalize hAe : va_A [(h0, .inr (7, [.ref ab, .int 8])), (ab, .inl (kb, 440, .inl fb))] s.heap.size = A at  hD ⊢
  have hA : ∀ q : Nat, s.heap.size ≤ q → A q := fun q h => by rw [← hAe]; exact Or.inr h
  have hS : va_S A s.heap s.heap [] := va_S.rf
  have hP : va_P (dC, dI) vwCl [(h0, .inr (7, [.ref ab, .int 8])), (ab, .inl (kb, 440, .inl fb))] s.heap := hP
  have hl := lv_entry ([.ref h0, .int o9]) (n := 2) (Nat.le_of_ble_eq_true rfl)
  rw [lg_entry_eq]
  generalize (lg_sl ([.ref h0, .int o9]) ++ List.replicate (2 - (lg_sl ([.ref h0, .int o9])).length) Slot.unset).toArray = ls at hl ⊢
  have hl : lv_has ls 2 [(0, .ref h0), (1, .int o9)] := hl
  skip
  refine lv_aload_n hx hb dX7_putFour_0 rfl (lv_at hl 0 rfl) ?_
  refine lv_iload_n hx hb dX7_putFour_1 rfl (lv_at hl 1 rfl) ?_
  refine lv_bipush (v := 24) hx hb dX7_putFour_2 (by decide) ?_
  refine lv_iushr hx hb dX7_putFour_4 rfl ?_
  refine lv_topi (fun v_1 ev_1 => ?_)
  have hPc := hP.sub (ws' := [(h0, .inr (7, [.ref ab, .int 8])), (ab, .inl (kb, 440, .inl fb))]) [0, 1] rfl
  have hDc := hD.sub (ws' := [(h0, .inr (7, [.ref ab, .int 8])), (ab, .inl (kb, 440, .inl fb))]) [0, 1] (by decide) rfl
  have hKc := hK.sub (tys' := [(kb, .byte)]) [0] rfl
  have hFc := va_free (wc := [(h0, .inr (7, [.ref ab, .int 8])), (ab, .inl (kb, 440, .inl fb))]) hD hS hA [0, 1] rfl
  refine va_callv (va_runV (As := [.int v_1]) (rest := []) ⟨hx, hb, hml, hown, hts⟩ (c_put_8 l dC dI h0 ab kb fb v_1 s.heap.size ) (cwV 1 hts gX7_putFour_X7_put rfl rfl rfl (by decide +kernel) ⟨Nat.le_of_ble_eq_true rfl, Nat.le_of_ble_eq_true rfl⟩) ⟨fun a U g mk q => by obtain ⟨q0, q1, qX, qP, qK, qD⟩ := q; exact ⟨q0, q1, zz_X.same (u := U) (U := U.calling g mk a) rfl qX, qP, va_K.moved (u := U) (U := U.calling g mk a) (Vm.Alike.refl U.vm) qK, qD⟩, va_recv hKc hPc (ci := 7) (q0 := 0) rfl rfl, fun U hU hW => ⟨rfl, by rw [hU], zz_X.warm hW hzX, by rw [hU]; exact hPc, va_K.moved hW.alike hKc, hDc.weaken (fun _ _ _ _ => trivial)⟩⟩ rfl rfl hl.1 rfl (lv_room (Nat.le_of_ble_eq_true rfl)) dX7_putFour_5 ⟨Nat.le_of_ble_eq_true rfl, Nat.le_of_ble_eq_true rfl⟩) hS (fun q _ h => hFc q h) hFc (fun u t H1 locs ht hvm hw hB hz1 hk1 hS => ?_)
  obtain ⟨f_2, hP1, hK1, hD1⟩ := hB
  rw [ht] at hP1
  have hK1 := va_K.moved hvm.symm hK1
  obtain ⟨hP, hD⟩ := va_join (wr := []) (w1 := [(h0, .inr (7, [.ref ab, .int 9])), (ab, .inl (kb, 440, .inl f_2))]) hP hD [0, 1] [] rfl rfl (by decide) (by decide) hk1 hFc hP1 hD1
  have hK := (hK.sub (tys' := [(kb, .byte)]) [0] rfl).app (hK1.sub (tys' := []) [] rfl)
  generalize H1 = H at hP hS ⊢
  have hP : va_P (dC, dI) vwCl [(h0, .inr (7, [.ref ab, .int 9])), (ab, .inl (kb, 440, .inl f_2))] H := hP
  have hD : va_D A [(h0, .inr (7, [.ref ab, .int 9])), (ab, .inl (kb, 440, .inl f_2))] := hD
  have hK : va_K (dC, dI) vwCl [(kb, .byte)] s := hK
  refine W.widen (k := 0) (n := 0) (Nat.le_of_ble_eq_true rfl) (Nat.le_of_ble_eq_true rfl) ?_
  refine lv_aload_n hx hb dX7_putFour_8 rfl (lv_at hl 0 rfl) ?_
  refine lv_iload_n hx hb dX7_putFour_9 rfl (lv_at hl 1 rfl) ?_
  refine lv_bipush (v := 16) hx hb dX7_putFour_10 (by decide) ?_
  refine lv_iushr hx hb dX7_putFour_12 rfl ?_
  refine lv_topi (fun v_3 ev_3 => ?_)
  have hPc := hP.sub (ws' := [(h0, .inr (7, [.ref ab, .int 9])), (ab, .inl (kb, 440, .inl f_2))]) [0, 1] rfl
  have hDc := hD.sub (ws' := [(h0, .inr (7, [.ref ab, .int 9])), (ab, .inl (kb, 440, .inl f_2))]) [0, 1] (by decide) rfl
  have hKc := hK.sub (tys' := [(kb, .byte)]) [0] rfl
  have hFc := va_free (wc := [(h0, .inr (7, [.ref ab, .int 9])), (ab, .inl (kb, 440, .inl f_2))]) hD hS hA [0, 1] rfl
  refine va_callv (va_runV (As := [.int v_3]) (rest := []) ⟨hx, hb, hml, hown, hts⟩ (c_put_9 l dC dI h0 ab kb f_2 v_3 H.size ) (cwV 1 hts gX7_putFour_X7_put rfl rfl rfl (by decide +kernel) ⟨Nat.le_of_ble_eq_true rfl, Nat.le_of_ble_eq_true rfl⟩) ⟨fun a U g mk q => by obtain ⟨q0, q1, qX, qP, qK, qD⟩ := q; exact ⟨q0, q1, zz_X.same (u := U) (U := U.calling g mk a) rfl qX, qP, va_K.moved (u := U) (U := U.calling g mk a) (Vm.Alike.refl U.vm) qK, qD⟩, va_recv hKc hPc (ci := 7) (q0 := 0) rfl rfl, fun U hU hW => ⟨rfl, by rw [hU], zz_X.warm hW hzX, by rw [hU]; exact hPc, va_K.moved hW.alike hKc, hDc.weaken (fun _ _ _ _ => trivial)⟩⟩ rfl rfl hl.1 rfl (lv_room (Nat.le_of_ble_eq_true rfl)) dX7_putFour_13 ⟨Nat.le_of_ble_eq_true rfl, Nat.le_of_ble_eq_true rfl⟩) hS (fun q _ h => hFc q h) hFc (fun u t H1 locs ht hvm hw hB hz1 hk1 hS => ?_)
  obtain ⟨f_4, hP1, hK1, hD1⟩ := hB
  rw [ht] at hP1
  have hK1 := va_K.moved hvm.symm hK1
  obtain ⟨hP, hD⟩ := va_join (wr := []) (w1 := [(h0, .inr (7, [.ref ab, .int 10])), (ab, .inl (kb, 440, .inl f_4))]) hP hD [0, 1] [] rfl rfl (by decide) (by decide) hk1 hFc hP1 hD1
  have hK := (hK.sub (tys' := [(kb, .byte)]) [0] rfl).app (hK1.sub (tys' := []) [] rfl)
  generalize H1 = H at hP hS ⊢
  have hP : va_P (dC, dI) vwCl [(h0, .inr (7, [.ref ab, .int 10])), (ab, .inl (kb, 440, .inl f_4))] H := hP
  have hD : va_D A [(h0, .inr (7, [.ref ab, .int 10])), (ab, .inl (kb, 440, .inl f_4))] := hD
  have hK : va_K (dC, dI) vwCl [(kb, .byte)] s := hK
  refine W.widen (k := 0) (n := 0) (Nat.le_of_ble_eq_true rfl) (Nat.le_of_ble_eq_true rfl) ?_
  refine lv_aload_n hx hb dX7_putFour_16 rfl (lv_at hl 0 rfl) ?_
  refine lv_iload_n hx hb dX7_putFour_17 rfl (lv_at hl 1 rfl) ?_
  refine lv_bipush (v := 8) hx hb dX7_putFour_18 (by decide) ?_
  refine lv_iushr hx hb dX7_putFour_20 rfl ?_
  refine lv_topi (fun v_5 ev_5 => ?_)
  have hPc := hP.sub (ws' := [(h0, .inr (7, [.ref ab, .int 10])), (ab, .inl (kb, 440, .inl f_4))]) [0, 1] rfl
  have hDc := hD.sub (ws' := [(h0, .inr (7, [.ref ab, .int 10])), (ab, .inl (kb, 440, .inl f_4))]) [0, 1] (by decide) rfl
  have hKc := hK.sub (tys' := [(kb, .byte)]) [0] rfl
  have hFc := va_free (wc := [(h0, .inr (7, [.ref ab, .int 10])), (ab, .inl (kb, 440, .inl f_4))]) hD hS hA [0, 1] rfl
  refine va_callv (va_runV (As := [.int v_5]) (rest := []) ⟨hx, hb, hml, hown, hts⟩ (c_put_10 l dC dI h0 ab kb f_4 v_5 H.size ) (cwV 1 hts gX7_putFour_X7_put rfl rfl rfl (by decide +kernel) ⟨Nat.le_of_ble_eq_true rfl, Nat.le_of_ble_eq_true rfl⟩) ⟨fun a U g mk q => by obtain ⟨q0, q1, qX, qP, qK, qD⟩ := q; exact ⟨q0, q1, zz_X.same (u := U) (U := U.calling g mk a) rfl qX, qP, va_K.moved (u := U) (U := U.calling g mk a) (Vm.Alike.refl U.vm) qK, qD⟩, va_recv hKc hPc (ci := 7) (q0 := 0) rfl rfl, fun U hU hW => ⟨rfl, by rw [hU], zz_X.warm hW hzX, by rw [hU]; exact hPc, va_K.moved hW.alike hKc, hDc.weaken (fun _ _ _ _ => trivial)⟩⟩ rfl rfl hl.1 rfl (lv_room (Nat.le_of_ble_eq_true rfl)) dX7_putFour_21 ⟨Nat.le_of_ble_eq_true rfl, Nat.le_of_ble_eq_true rfl⟩) hS (fun q _ h => hFc q h) hFc (fun u t H1 locs ht hvm hw hB hz1 hk1 hS => ?_)
  obtain ⟨f_6, hP1, hK1, hD1⟩ := hB
  rw [ht] at hP1
  have hK1 := va_K.moved hvm.symm hK1
  obtain ⟨hP, hD⟩ := va_join (wr := []) (w1 := [(h0, .inr (7, [.ref ab, .int 11])), (ab, .inl (kb, 440, .inl f_6))]) hP hD [0, 1] [] rfl rfl (by decide) (by decide) hk1 hFc hP1 hD1
  have hK := (hK.sub (tys' := [(kb, .byte)]) [0] rfl).app (hK1.sub (tys' := []) [] rfl)
  generalize H1 = H at hP hS ⊢
  have hP : va_P (dC, dI) vwCl [(h0, .inr (7, [.ref ab, .int 11])), (ab, .inl (kb, 440, .inl f_6))] H := hP
  have hD : va_D A [(h0, .inr (7, [.ref ab, .int 11])), (ab, .inl (kb, 440, .inl f_6))] := hD
  have hK : va_K (dC, dI) vwCl [(kb, .byte)] s := hK
  refine W.widen (k := 0) (n := 0) (Nat.le_of_ble_eq_true rfl) (Nat.le_of_ble_eq_true rfl) ?_
  refine lv_aload_n hx hb dX7_putFour_24 rfl (lv_at hl 0 rfl) ?_
  refine lv_iload_n hx hb dX7_putFour_25 rfl (lv_at hl 1 rfl) ?_
  have hPc := hP.sub (ws' := [(h0, .inr (7, [.ref ab, .int 11])), (ab, .inl (kb, 440, .inl f_6))]) [0, 1] rfl
  have hDc := hD.sub (ws' := [(h0, .inr (7, [.ref ab, .int 11])), (ab, .inl (kb, 440, .inl f_6))]) [0, 1] (by decide) rfl
  have hKc := hK.sub (tys' := [(kb, .byte)]) [0] rfl
  have hFc := va_free (wc := [(h0, .inr (7, [.ref ab, .int 11])), (ab, .inl (kb, 440, .inl f_6))]) hD hS hA [0, 1] rfl
  refine va_callv (va_runV (As := [.int o9]) (rest := []) ⟨hx, hb, hml, hown, hts⟩ (c_put_11 l dC dI h0 ab kb f_6 o9 H.size ) (cwV 1 hts gX7_putFour_X7_put rfl rfl rfl (by decide +kernel) ⟨Nat.le_of_ble_eq_true rfl, Nat.le_of_ble_eq_true rfl⟩) ⟨fun a U g mk q => by obtain ⟨q0, q1, qX, qP, qK, qD⟩ := q; exact ⟨q0, q1, zz_X.same (u := U) (U := U.calling g mk a) rfl qX, qP, va_K.moved (u := U) (U := U.calling g mk a) (Vm.Alike.refl U.vm) qK, qD⟩, va_recv hKc hPc (ci := 7) (q0 := 0) rfl rfl, fun U hU hW => ⟨rfl, by rw [hU], zz_X.warm hW hzX, by rw [hU]; exact hPc, va_K.moved hW.alike hKc, hDc.weaken (fun _ _ _ _ => trivial)⟩⟩ rfl rfl hl.1 rfl (lv_room (Nat.le_of_ble_eq_true rfl)) dX7_putFour_26 ⟨Nat.le_of_ble_eq_true rfl, Nat.le_of_ble_eq_true rfl⟩) hS (fun q _ h => hFc q h) hFc (fun u t H1 locs ht hvm hw hB hz1 hk1 hS => ?_)
  obtain ⟨f_7, hP1, hK1, hD1⟩ := hB
  rw [ht] at hP1
  have hK1 := va_K.moved hvm.symm hK1
  obtain ⟨hP, hD⟩ := va_join (wr := []) (w1 := [(h0, .inr (7, [.ref ab, .int 12])), (ab, .inl (kb, 440, .inl f_7))]) hP hD [0, 1] [] rfl rfl (by decide) (by decide) hk1 hFc hP1 hD1
  have hK := (hK.sub (tys' := [(kb, .byte)]) [0] rfl).app (hK1.sub (tys' := []) [] rfl)
  generalize H1 = H at hP hS ⊢
  have hP : va_P (dC, dI) vwCl [(h0, .inr (7, [.ref ab, .int 12])), (ab, .inl (kb, 440, .inl f_7))] H := hP
  have hD : va_D A [(h0, .inr (7, [.ref ab, .int 12])), (ab, .inl (kb, 440, .inl f_7))] := hD
  have hK : va_K (dC, dI) vwCl [(kb, .byte)] s := hK
  refine W.widen (k := 0) (n := 0) (Nat.le_of_ble_eq_true rfl) (Nat.le_of_ble_eq_true rfl) ?_
  have hP9 := hP.sub (ws' := [(h0, .inr (7, [.ref ab, .int 12])), (ab, .inl (kb, 440, .inl f_7))]) [0, 1] rfl
  have hD9 := hD.sub (ws' := [(h0, .inr (7, [.ref ab, .int 12])), (ab, .inl (kb, 440, .inl f_7))]) [0, 1] (by decide) rfl
  have hK9 := hK.sub (tys' := [(kb, .byte)]) [0] rfl
  refine W.widen (k := 0) (n := 0) (Nat.le_of_ble_eq_true rfl) (Nat.le_of_ble_eq_true rfl) ?_
  exact W.vret hx hb hr (fun t ht hW => ⟨⟨(), rfl, trivial, f_7, by rw [ht]; exact hP9, va_K.moved hW.alike hK9, hD9⟩, hS.F ht⟩) hS.2.2 dX7_putFour_29
set_option maxHeartbeats 4000000 in
set_option maxRecDepth 100000 in
theorem c_putFour_12 (l : Launch) (dC : Nat → ClassId) (dI : Nat → Nat → Nat) (h0 : Nat) (ab : Nat) (kb : ClassId) (fb : Nat → Int32) (o9 : Int32) (sz : Nat)  : Met l yX7_putFour wsX7_putFour ({ frames := 1, cells := 0, slots := 0, locals := 21 } : Room) (va_Pc [.ref h0, .int o9] (fun U => U.heap.size = sz ∧ zz_X U ∧ va_P (dC, dI) vwCl [(h0, .inr (7, [.ref ab, .int 12])), (ab, .inl (kb, 440, .inl fb))] U.heap ∧ va_K (dC, dI) vwCl [(kb, .byte)] U ∧ va_D (fun _ => True) [(h0, .inr (7, [.ref ab, .int 12])), (ab, .inl (kb, 440, .inl fb))])) (va_Qv (fun (_ : Unit) => True) (fun (_ : Unit) (t : State) => ∃ (fc : Nat → Int32), va_P (dC, dI) vwCl [(h0, .inr (7, [.ref ab, .int 16])), (ab, .inl (kb, 440, .inl fc))] t.heap ∧ va_K (dC, dI) vwCl [(kb, .byte)] t ∧ va_D (va_A [(h0, .inr (7, [.ref ab, .int 12])), (ab, .inl (kb, 440, .inl fb))] sz) [(h0, .inr (7, [.ref ab, .int 16])), (ab, .inl (kb, 440, .inl fc))]) (va_A [(h0, .inr (7, [.ref ab, .int 12])), (ab, .inl (kb, 440, .inl fb))] sz)) 0 0 (va_A [(h0, .inr (7, [.ref ab, .int 12])), (ab, .inl (kb, 440, .inl fb))] sz) := by
  refine Met.ofW (cc := cX7_putFour) (maxL := 2) (ret := none) (by decide) rfl ?_
  intro p e s m args below meth c s₁ B hml hv
  obtain ⟨rfl, hsz, hzX, hP, hK, hD0⟩ := hv
  have hx := B.exec
  have hb := B.bytes
  have hr := B.returns
  have hts := atoms_spec (ws := wsX7_putFour) B.pre
  have hown : s.vm.findClass RX7 = some m.cls := findClass_of_methodNamed B.named
  have hlocks := B.notSynchronized
  subst hsz
  have hD := hD0.self (sz := s.heap.size)
  generalize hAe : va_A [(h0, .inr (7, [.ref ab, .int 12])), (ab, .inl (kb, 440, .inl fb))] s.heap.size = A at  hD ⊢
  have hA : ∀ q : Nat, s.heap.size ≤ q → A q := fun q h => by rw [← hAe]; exact Or.inr h
  have hS : va_S A s.heap s.heap [] := va_S.rf
  have hP : va_P (dC, dI) vwCl [(h0, .inr (7, [.ref ab, .int 12])), (ab, .inl (kb, 440, .inl fb))] s.heap := hP
  have hl := lv_entry ([.ref h0, .int o9]) (n := 2) (Nat.le_of_ble_eq_true rfl)
  rw [lg_entry_eq]
  generalize (lg_sl ([.ref h0, .int o9]) ++ List.replicate (2 - (lg_sl ([.ref h0, .int o9])).length) Slot.unset).toArray = ls at hl ⊢
  have hl : lv_has ls 2 [(0, .ref h0), (1, .int o9)] := hl
  skip
  refine lv_aload_n hx hb dX7_putFour_0 rfl (lv_at hl 0 rfl) ?_
  refine lv_iload_n hx hb dX7_putFour_1 rfl (lv_at hl 1 rfl) ?_
  refine lv_bipush (v := 24) hx hb dX7_putFour_2 (by decide) ?_
  refine lv_iushr hx hb dX7_putFour_4 rfl ?_
  refine lv_topi (fun v_1 ev_1 => ?_)
  have hPc := hP.sub (ws' := [(h0, .inr (7, [.ref ab, .int 12])), (ab, .inl (kb, 440, .inl fb))]) [0, 1] rfl
  have hDc := hD.sub (ws' := [(h0, .inr (7, [.ref ab, .int 12])), (ab, .inl (kb, 440, .inl fb))]) [0, 1] (by decide) rfl
  have hKc := hK.sub (tys' := [(kb, .byte)]) [0] rfl
  have hFc := va_free (wc := [(h0, .inr (7, [.ref ab, .int 12])), (ab, .inl (kb, 440, .inl fb))]) hD hS hA [0, 1] rfl
  refine va_callv (va_runV (As := [.int v_1]) (rest := []) ⟨hx, hb, hml, hown, hts⟩ (c_put_12 l dC dI h0 ab kb fb v_1 s.heap.size ) (cwV 1 hts gX7_putFour_X7_put rfl rfl rfl (by decide +kernel) ⟨Nat.le_of_ble_eq_true rfl, Nat.le_of_ble_eq_true rfl⟩) ⟨fun a U g mk q => by obtain ⟨q0, q1, qX, qP, qK, qD⟩ := q; exact ⟨q0, q1, zz_X.same (u := U) (U := U.calling g mk a) rfl qX, qP, va_K.moved (u := U) (U := U.calling g mk a) (Vm.Alike.refl U.vm) qK, qD⟩, va_recv hKc hPc (ci := 7) (q0 := 0) rfl rfl, fun U hU hW => ⟨rfl, by rw [hU], zz_X.warm hW hzX, by rw [hU]; exact hPc, va_K.moved hW.alike hKc, hDc.weaken (fun _ _ _ _ => trivial)⟩⟩ rfl rfl hl.1 rfl (lv_room (Nat.le_of_ble_eq_true rfl)) dX7_putFour_5 ⟨Nat.le_of_ble_eq_true rfl, Nat.le_of_ble_eq_true rfl⟩) hS (fun q _ h => hFc q h) hFc (fun u t H1 locs ht hvm hw hB hz1 hk1 hS => ?_)
  obtain ⟨f_2, hP1, hK1, hD1⟩ := hB
  rw [ht] at hP1
  have hK1 := va_K.moved hvm.symm hK1
  obtain ⟨hP, hD⟩ := va_join (wr := []) (w1 := [(h0, .inr (7, [.ref ab, .int 13])), (ab, .inl (kb, 440, .inl f_2))]) hP hD [0, 1] [] rfl rfl (by decide) (by decide) hk1 hFc hP1 hD1
  have hK := (hK.sub (tys' := [(kb, .byte)]) [0] rfl).app (hK1.sub (tys' := []) [] rfl)
  generalize H1 = H at hP hS ⊢
  have hP : va_P (dC, dI) vwCl [(h0, .inr (7, [.ref ab, .int 13])), (ab, .inl (kb, 440, .inl f_2))] H := hP
  have hD : va_D A [(h0, .inr (7, [.ref ab, .int 13])), (ab, .inl (kb, 440, .inl f_2))] := hD
  have hK : va_K (dC, dI) vwCl [(kb, .byte)] s := hK
  refine W.widen (k := 0) (n := 0) (Nat.le_of_ble_eq_true rfl) (Nat.le_of_ble_eq_true rfl) ?_
  refine lv_aload_n hx hb dX7_putFour_8 rfl (lv_at hl 0 rfl) ?_
  refine lv_iload_n hx hb dX7_putFour_9 rfl (lv_at hl 1 rfl) ?_
  refine lv_bipush (v := 16) hx hb dX7_putFour_10 (by decide) ?_
  refine lv_iushr hx hb dX7_putFour_12 rfl ?_
  refine lv_topi (fun v_3 ev_3 => ?_)
  have hPc := hP.sub (ws' := [(h0, .inr (7, [.ref ab, .int 13])), (ab, .inl (kb, 440, .inl f_2))]) [0, 1] rfl
  have hDc := hD.sub (ws' := [(h0, .inr (7, [.ref ab, .int 13])), (ab, .inl (kb, 440, .inl f_2))]) [0, 1] (by decide) rfl
  have hKc := hK.sub (tys' := [(kb, .byte)]) [0] rfl
  have hFc := va_free (wc := [(h0, .inr (7, [.ref ab, .int 13])), (ab, .inl (kb, 440, .inl f_2))]) hD hS hA [0, 1] rfl
  refine va_callv (va_runV (As := [.int v_3]) (rest := []) ⟨hx, hb, hml, hown, hts⟩ (c_put_13 l dC dI h0 ab kb f_2 v_3 H.size ) (cwV 1 hts gX7_putFour_X7_put rfl rfl rfl (by decide +kernel) ⟨Nat.le_of_ble_eq_true rfl, Nat.le_of_ble_eq_true rfl⟩) ⟨fun a U g mk q => by obtain ⟨q0, q1, qX, qP, qK, qD⟩ := q; exact ⟨q0, q1, zz_X.same (u := U) (U := U.calling g mk a) rfl qX, qP, va_K.moved (u := U) (U := U.calling g mk a) (Vm.Alike.refl U.vm) qK, qD⟩, va_recv hKc hPc (ci := 7) (q0 := 0) rfl rfl, fun U hU hW => ⟨rfl, by rw [hU], zz_X.warm hW hzX, by rw [hU]; exact hPc, va_K.moved hW.alike hKc, hDc.weaken (fun _ _ _ _ => trivial)⟩⟩ rfl rfl hl.1 rfl (lv_room (Nat.le_of_ble_eq_true rfl)) dX7_putFour_13 ⟨Nat.le_of_ble_eq_true rfl, Nat.le_of_ble_eq_true rfl⟩) hS (fun q _ h => hFc q h) hFc (fun u t H1 locs ht hvm hw hB hz1 hk1 hS => ?_)
  obtain ⟨f_4, hP1, hK1, hD1⟩ := hB
  rw [ht] at hP1
  have hK1 := va_K.moved hvm.symm hK1
  obtain ⟨hP, hD⟩ := va_join (wr := []) (w1 := [(h0, .inr (7, [.ref ab, .int 14])), (ab, .inl (kb, 440, .inl f_4))]) hP hD [0, 1] [] rfl rfl (by decide) (by decide) hk1 hFc hP1 hD1
  have hK := (hK.sub (tys' := [(kb, .byte)]) [0] rfl).app (hK1.sub (tys' := []) [] rfl)
  generalize H1 = H at hP hS ⊢
  have hP : va_P (dC, dI) vwCl [(h0, .inr (7, [.ref ab, .int 14])), (ab, .inl (kb, 440, .inl f_4))] H := hP
  have hD : va_D A [(h0, .inr (7, [.ref ab, .int 14])), (ab, .inl (kb, 440, .inl f_4))] := hD
  have hK : va_K (dC, dI) vwCl [(kb, .byte)] s := hK
  refine W.widen (k := 0) (n := 0) (Nat.le_of_ble_eq_true rfl) (Nat.le_of_ble_eq_true rfl) ?_
  refine lv_aload_n hx hb dX7_putFour_16 rfl (lv_at hl 0 rfl) ?_
  refine lv_iload_n hx hb dX7_putFour_17 rfl (lv_at hl 1 rfl) ?_
  refine lv_bipush (v := 8) hx hb dX7_putFour_18 (by decide) ?_
  refine lv_iushr hx hb dX7_putFour_20 rfl ?_
  refine lv_topi (fun v_5 ev_5 => ?_)
  have hPc := hP.sub (ws' := [(h0, .inr (7, [.ref ab, .int 14])), (ab, .inl (kb, 440, .inl f_4))]) [0, 1] rfl
  have hDc := hD.sub (ws' := [(h0, .inr (7, [.ref ab, .int 14])), (ab, .inl (kb, 440, .inl f_4))]) [0, 1] (by decide) rfl
  have hKc := hK.sub (tys' := [(kb, .byte)]) [0] rfl
  have hFc := va_free (wc := [(h0, .inr (7, [.ref ab, .int 14])), (ab, .inl (kb, 440, .inl f_4))]) hD hS hA [0, 1] rfl
  refine va_callv (va_runV (As := [.int v_5]) (rest := []) ⟨hx, hb, hml, hown, hts⟩ (c_put_14 l dC dI h0 ab kb f_4 v_5 H.size ) (cwV 1 hts gX7_putFour_X7_put rfl rfl rfl (by decide +kernel) ⟨Nat.le_of_ble_eq_true rfl, Nat.le_of_ble_eq_true rfl⟩) ⟨fun a U g mk q => by obtain ⟨q0, q1, qX, qP, qK, qD⟩ := q; exact ⟨q0, q1, zz_X.same (u := U) (U := U.calling g mk a) rfl qX, qP, va_K.moved (u := U) (U := U.calling g mk a) (Vm.Alike.refl U.vm) qK, qD⟩, va_recv hKc hPc (ci := 7) (q0 := 0) rfl rfl, fun U hU hW => ⟨rfl, by rw [hU], zz_X.warm hW hzX, by rw [hU]; exact hPc, va_K.moved hW.alike hKc, hDc.weaken (fun _ _ _ _ => trivial)⟩⟩ rfl rfl hl.1 rfl (lv_room (Nat.le_of_ble_eq_true rfl)) dX7_putFour_21 ⟨Nat.le_of_ble_eq_true rfl, Nat.le_of_ble_eq_true rfl⟩) hS (fun q _ h => hFc q h) hFc (fun u t H1 locs ht hvm hw hB hz1 hk1 hS => ?_)
  obtain ⟨f_6, hP1, hK1, hD1⟩ := hB
  rw [ht] at hP1
  have hK1 := va_K.moved hvm.symm hK1
  obtain ⟨hP, hD⟩ := va_join (wr := []) (w1 := [(h0, .inr (7, [.ref ab, .int 15])), (ab, .inl (kb, 440, .inl f_6))]) hP hD [0, 1] [] rfl rfl (by decide) (by decide) hk1 hFc hP1 hD1
  have hK := (hK.sub (tys' := [(kb, .byte)]) [0] rfl).app (hK1.sub (tys' := []) [] rfl)
  generalize H1 = H at hP hS ⊢
  have hP : va_P (dC, dI) vwCl [(h0, .inr (7, [.ref ab, .int 15])), (ab, .inl (kb, 440, .inl f_6))] H := hP
  have hD : va_D A [(h0, .inr (7, [.ref ab, .int 15])), (ab, .inl (kb, 440, .inl f_6))] := hD
  have hK : va_K (dC, dI) vwCl [(kb, .byte)] s := hK
  refine W.widen (k := 0) (n := 0) (Nat.le_of_ble_eq_true rfl) (Nat.le_of_ble_eq_true rfl) ?_
  refine lv_aload_n hx hb dX7_putFour_24 rfl (lv_at hl 0 rfl) ?_
  refine lv_iload_n hx hb dX7_putFour_25 rfl (lv_at hl 1 rfl) ?_
  have hPc := hP.sub (ws' := [(h0, .inr (7, [.ref ab, .int 15])), (ab, .inl (kb, 440, .inl f_6))]) [0, 1] rfl
  have hDc := hD.sub (ws' := [(h0, .inr (7, [.ref ab, .int 15])), (ab, .inl (kb, 440, .inl f_6))]) [0, 1] (by decide) rfl
  have hKc := hK.sub (tys' := [(kb, .byte)]) [0] rfl
  have hFc := va_free (wc := [(h0, .inr (7, [.ref ab, .int 15])), (ab, .inl (kb, 440, .inl f_6))]) hD hS hA [0, 1] rfl
  refine va_callv (va_runV (As := [.int o9]) (rest := []) ⟨hx, hb, hml, hown, hts⟩ (c_put_15 l dC dI h0 ab kb f_6 o9 H.size ) (cwV 1 hts gX7_putFour_X7_put rfl rfl rfl (by decide +kernel) ⟨Nat.le_of_ble_eq_true rfl, Nat.le_of_ble_eq_true rfl⟩) ⟨fun a U g mk q => by obtain ⟨q0, q1, qX, qP, qK, qD⟩ := q; exact ⟨q0, q1, zz_X.same (u := U) (U := U.calling g mk a) rfl qX, qP, va_K.moved (u := U) (U := U.calling g mk a) (Vm.Alike.refl U.vm) qK, qD⟩, va_recv hKc hPc (ci := 7) (q0 := 0) rfl rfl, fun U hU hW => ⟨rfl, by rw [hU], zz_X.warm hW hzX, by rw [hU]; exact hPc, va_K.moved hW.alike hKc, hDc.weaken (fun _ _ _ _ => trivial)⟩⟩ rfl rfl hl.1 rfl (lv_room (Nat.le_of_ble_eq_true rfl)) dX7_putFour_26 ⟨Nat.le_of_ble_eq_true rfl, Nat.le_of_ble_eq_true rfl⟩) hS (fun q _ h => hFc q h) hFc (fun u t H1 locs ht hvm hw hB hz1 hk1 hS => ?_)
  obtain ⟨f_7, hP1, hK1, hD1⟩ := hB
  rw [ht] at hP1
  have hK1 := va_K.moved hvm.symm hK1
  obtain ⟨hP, hD⟩ := va_join (wr := []) (w1 := [(h0, .inr (7, [.ref ab, .int 16])), (ab, .inl (kb, 440, .inl f_7))]) hP hD [0, 1] [] rfl rfl (by decide) (by decide) hk1 hFc hP1 hD1
  have hK := (hK.sub (tys' := [(kb, .byte)]) [0] rfl).app (hK1.sub (tys' := []) [] rfl)
  generalize H1 = H at hP hS ⊢
  have hP : va_P (dC, dI) vwCl [(h0, .inr (7, [.ref ab, .int 16])), (ab, .inl (kb, 440, .inl f_7))] H := hP
  have hD : va_D A [(h0, .inr (7, [.ref ab, .int 16])), (ab, .inl (kb, 440, .inl f_7))] := hD
  have hK : va_K (dC, dI) vwCl [(kb, .byte)] s := hK
  refine W.widen (k := 0) (n := 0) (Nat.le_of_ble_eq_true rfl) (Nat.le_of_ble_eq_true rfl) ?_
  have hP9 := hP.sub (ws' := [(h0, .inr (7, [.ref ab, .int 16])), (ab, .inl (kb, 440, .inl f_7))]) [0, 1] rfl
  have hD9 := hD.sub (ws' := [(h0, .inr (7, [.ref ab, .int 16])), (ab, .inl (kb, 440, .inl f_7))]) [0, 1] (by decide) rfl
  have hK9 := hK.sub (tys' := [(kb, .byte)]) [0] rfl
  refine W.widen (k := 0) (n := 0) (Nat.le_of_ble_eq_true rfl) (Nat.le_of_ble_eq_true rfl) ?_
  exact W.vret hx hb hr (fun t ht hW => ⟨⟨(), rfl, trivial, f_7, by rw [ht]; exact hP9, va_K.moved hW.alike hK9, hD9⟩, hS.F ht⟩) hS.2.2 dX7_putFour_29
set_option maxHeartbeats 4000000 in
set_option maxRecDepth 100000 in
theorem c_putFour_16 (l : Launch) (dC : Nat → ClassId) (dI : Nat → Nat → Nat) (h0 : Nat) (ab : Nat) (kb : ClassId) (fb : Nat → Int32) (o9 : Int32) (sz : Nat)  : Met l yX7_putFour wsX7_putFour ({ frames := 1, cells := 0, slots := 0, locals := 21 } : Room) (va_Pc [.ref h0, .int o9] (fun U => U.heap.size = sz ∧ zz_X U ∧ va_P (dC, dI) vwCl [(h0, .inr (7, [.ref ab, .int 16])), (ab, .inl (kb, 440, .inl fb))] U.heap ∧ va_K (dC, dI) vwCl [(kb, .byte)] U ∧ va_D (fun _ => True) [(h0, .inr (7, [.ref ab, .int 16])), (ab, .inl (kb, 440, .inl fb))])) (va_Qv (fun (_ : Unit) => True) (fun (_ : Unit) (t : State) => ∃ (fc : Nat → Int32), va_P (dC, dI) vwCl [(h0, .inr (7, [.ref ab, .int 20])), (ab, .inl (kb, 440, .inl fc))] t.heap ∧ va_K (dC, dI) vwCl [(kb, .byte)] t ∧ va_D (va_A [(h0, .inr (7, [.ref ab, .int 16])), (ab, .inl (kb, 440, .inl fb))] sz) [(h0, .inr (7, [.ref ab, .int 20])), (ab, .inl (kb, 440, .inl fc))]) (va_A [(h0, .inr (7, [.ref ab, .int 16])), (ab, .inl (kb, 440, .inl fb))] sz)) 0 0 (va_A [(h0, .inr (7, [.ref ab, .int 16])), (ab, .inl (kb, 440, .inl fb))] sz) := by
  refine Met.ofW (cc := cX7_putFour) (maxL := 2) (ret := none) (by decide) rfl ?_
  intro p e s m args below meth c s₁ B hml hv
  obtain ⟨rfl, hsz, hzX, hP, hK, hD0⟩ := hv
  have hx := B.exec
  have hb := B.bytes
  have hr := B.returns
  have hts := atoms_spec (ws := wsX7_putFour) B.pre
  have hown : s.vm.findClass RX7 = some m.cls := findClass_of_methodNamed B.named
  have hlocks := B.notSynchronized
  subst hsz
  have hD := hD0.self (sz := s.heap.size)
  generalize hAe : va_A [(h0, .inr (7, [.ref ab, .int 16])), (ab, .inl (kb, 440, .inl fb))] s.heap.size = A at  hD ⊢
  have hA : ∀ q : Nat, s.heap.size ≤ q → A q := fun q h => by rw [← hAe]; exact Or.inr h
  have hS : va_S A s.heap s.heap [] := va_S.rf
  have hP : va_P (dC, dI) vwCl [(h0, .inr (7, [.ref ab, .int 16])), (ab, .inl (kb, 440, .inl fb))] s.heap := hP
  have hl := lv_entry ([.ref h0, .int o9]) (n := 2) (Nat.le_of_ble_eq_true rfl)
  rw [lg_entry_eq]
  generalize (lg_sl ([.ref h0, .int o9]) ++ List.replicate (2 - (lg_sl ([.ref h0, .int o9])).length) Slot.unset).toArray = ls at hl ⊢
  have hl : lv_has ls 2 [(0, .ref h0), (1, .int o9)] := hl
  skip
  refine lv_aload_n hx hb dX7_putFour_0 rfl (lv_at hl 0 rfl) ?_
  refine lv_iload_n hx hb dX7_putFour_1 rfl (lv_at hl 1 rfl) ?_
  refine lv_bipush (v := 24) hx hb dX7_putFour_2 (by decide) ?_
  refine lv_iushr hx hb dX7_putFour_4 rfl ?_
  refine lv_topi (fun v_1 ev_1 => ?_)
  have hPc := hP.sub (ws' := [(h0, .inr (7, [.ref ab, .int 16])), (ab, .inl (kb, 440, .inl fb))]) [0, 1] rfl
  have hDc := hD.sub (ws' := [(h0, .inr (7, [.ref ab, .int 16])), (ab, .inl (kb, 440, .inl fb))]) [0, 1] (by decide) rfl
  have hKc := hK.sub (tys' := [(kb, .byte)]) [0] rfl
  have hFc := va_free (wc := [(h0, .inr (7, [.ref ab, .int 16])), (ab, .inl (kb, 440, .inl fb))]) hD hS hA [0, 1] rfl
  refine va_callv (va_runV (As := [.int v_1]) (rest := []) ⟨hx, hb, hml, hown, hts⟩ (c_put_16 l dC dI h0 ab kb fb v_1 s.heap.size ) (cwV 1 hts gX7_putFour_X7_put rfl rfl rfl (by decide +kernel) ⟨Nat.le_of_ble_eq_true rfl, Nat.le_of_ble_eq_true rfl⟩) ⟨fun a U g mk q => by obtain ⟨q0, q1, qX, qP, qK, qD⟩ := q; exact ⟨q0, q1, zz_X.same (u := U) (U := U.calling g mk a) rfl qX, qP, va_K.moved (u := U) (U := U.calling g mk a) (Vm.Alike.refl U.vm) qK, qD⟩, va_recv hKc hPc (ci := 7) (q0 := 0) rfl rfl, fun U hU hW => ⟨rfl, by rw [hU], zz_X.warm hW hzX, by rw [hU]; exact hPc, va_K.moved hW.alike hKc, hDc.weaken (fun _ _ _ _ => trivial)⟩⟩ rfl rfl hl.1 rfl (lv_room (Nat.le_of_ble_eq_true rfl)) dX7_putFour_5 ⟨Nat.le_of_ble_eq_true rfl, Nat.le_of_ble_eq_true rfl⟩) hS (fun q _ h => hFc q h) hFc (fun u t H1 locs ht hvm hw hB hz1 hk1 hS => ?_)
  obtain ⟨f_2, hP1, hK1, hD1⟩ := hB
  rw [ht] at hP1
  have hK1 := va_K.moved hvm.symm hK1
  obtain ⟨hP, hD⟩ := va_join (wr := []) (w1 := [(h0, .inr (7, [.ref ab, .int 17])), (ab, .inl (kb, 440, .inl f_2))]) hP hD [0, 1] [] rfl rfl (by decide) (by decide) hk1 hFc hP1 hD1
  have hK := (hK.sub (tys' := [(kb, .byte)]) [0] rfl).app (hK1.sub (tys' := []) [] rfl)
  generalize H1 = H at hP hS ⊢
  have hP : va_P (dC, dI) vwCl [(h0, .inr (7, [.ref ab, .int 17])), (ab, .inl (kb, 440, .inl f_2))] H := hP
  have hD : va_D A [(h0, .inr (7, [.ref ab, .int 17])), (ab, .inl (kb, 440, .inl f_2))] := hD
  have hK : va_K (dC, dI) vwCl [(kb, .byte)] s := hK
  refine W.widen (k := 0) (n := 0) (Nat.le_of_ble_eq_true rfl) (Nat.le_of_ble_eq_true rfl) ?_
  refine lv_aload_n hx hb dX7_putFour_8 rfl (lv_at hl 0 rfl) ?_
  refine lv_iload_n hx hb dX7_putFour_9 rfl (lv_at hl 1 rfl) ?_
  refine lv_bipush (v := 16) hx hb dX7_putFour_10 (by decide) ?_
  refine lv_iushr hx hb dX7_putFour_12 rfl ?_
  refine lv_topi (fun v_3 ev_3 => ?_)
  have hPc := hP.sub (ws' := [(h0, .inr (7, [.ref ab, .int 17])), (ab, .inl (kb, 440, .inl f_2))]) [0, 1] rfl
  have hDc := hD.sub (ws' := [(h0, .inr (7, [.ref ab, .int 17])), (ab, .inl (kb, 440, .inl f_2))]) [0, 1] (by decide) rfl
  have hKc := hK.sub (tys' := [(kb, .byte)]) [0] rfl
  have hFc := va_free (wc := [(h0, .inr (7, [.ref ab, .int 17])), (ab, .inl (kb, 440, .inl f_2))]) hD hS hA [0, 1] rfl
  refine va_callv (va_runV (As := [.int v_3]) (rest := []) ⟨hx, hb, hml, hown, hts⟩ (c_put_17 l dC dI h0 ab kb f_2 v_3 H.size ) (cwV 1 hts gX7_putFour_X7_put rfl rfl rfl (by decide +kernel) ⟨Nat.le_of_ble_eq_true rfl, Nat.le_of_ble_eq_true rfl⟩) ⟨fun a U g mk q => by obtain ⟨q0, q1, qX, qP, qK, qD⟩ := q; exact ⟨q0, q1, zz_X.same (u := U) (U := U.calling g mk a) rfl qX, qP, va_K.moved (u := U) (U := U.calling g mk a) (Vm.Alike.refl U.vm) qK, qD⟩, va_recv hKc hPc (ci := 7) (q0 := 0) rfl rfl, fun U hU hW => ⟨rfl, by rw [hU], zz_X.warm hW hzX, by rw [hU]; exact hPc, va_K.moved hW.alike hKc, hDc.weaken (fun _ _ _ _ => trivial)⟩⟩ rfl rfl hl.1 rfl (lv_room (Nat.le_of_ble_eq_true rfl)) dX7_putFour_13 ⟨Nat.le_of_ble_eq_true rfl, Nat.le_of_ble_eq_true rfl⟩) hS (fun q _ h => hFc q h) hFc (fun u t H1 locs ht hvm hw hB hz1 hk1 hS => ?_)
  obtain ⟨f_4, hP1, hK1, hD1⟩ := hB
  rw [ht] at hP1
  have hK1 := va_K.moved hvm.symm hK1
  obtain ⟨hP, hD⟩ := va_join (wr := []) (w1 := [(h0, .inr (7, [.ref ab, .int 18])), (ab, .inl (kb, 440, .inl f_4))]) hP hD [0, 1] [] rfl rfl (by decide) (by decide) hk1 hFc hP1 hD1
  have hK := (hK.sub (tys' := [(kb, .byte)]) [0] rfl).app (hK1.sub (tys' := []) [] rfl)
  generalize H1 = H at hP hS ⊢
  have hP : va_P (dC, dI) vwCl [(h0, .inr (7, [.ref ab, .int 18])), (ab, .inl (kb, 440, .inl f_4))] H := hP
  have hD : va_D A [(h0, .inr (7, [.ref ab, .int 18])), (ab, .inl (kb, 440, .inl f_4))] := hD
  have hK : va_K (dC, dI) vwCl [(kb, .byte)] s := hK
  refine W.widen (k := 0) (n := 0) (Nat.le_of_ble_eq_true rfl) (Nat.le_of_ble_eq_true rfl) ?_
  refine lv_aload_n hx hb dX7_putFour_16 rfl (lv_at hl 0 rfl) ?_
  refine lv_iload_n hx hb dX7_putFour_17 rfl (lv_at hl 1 rfl) ?_
  refine lv_bipush (v := 8) hx hb dX7_putFour_18 (by decide) ?_
  refine lv_iushr hx hb dX7_putFour_20 rfl ?_
  refine lv_topi (fun v_5 ev_5 => ?_)
  have hPc := hP.sub (ws' := [(h0, .inr (7, [.ref ab, .int 18])), (ab, .inl (kb, 440, .inl f_4))]) [0, 1] rfl
  have hDc := hD.sub (ws' := [(h0, .inr (7, [.ref ab, .int 18])), (ab, .inl (kb, 440, .inl f_4))]) [0, 1] (by decide) rfl
  have hKc := hK.sub (tys' := [(kb, .byte)]) [0] rfl
  have hFc := va_free (wc := [(h0, .inr (7, [.ref ab, .int 18])), (ab, .inl (kb, 440, .inl f_4))]) hD hS hA [0, 1] rfl
  refine va_callv (va_runV (As := [.int v_5]) (rest := []) ⟨hx, hb, hml, hown, hts⟩ (c_put_18 l dC dI h0 ab kb f_4 v_5 H.size ) (cwV 1 hts gX7_putFour_X7_put rfl rfl rfl (by decide +kernel) ⟨Nat.le_of_ble_eq_true rfl, Nat.le_of_ble_eq_true rfl⟩) ⟨fun a U g mk q => by obtain ⟨q0, q1, qX, qP, qK, qD⟩ := q; exact ⟨q0, q1, zz_X.same (u := U) (U := U.calling g mk a) rfl qX, qP, va_K.moved (u := U) (U := U.calling g mk a) (Vm.Alike.refl U.vm) qK, qD⟩, va_recv hKc hPc (ci := 7) (q0 := 0) rfl rfl, fun U hU hW => ⟨rfl, by rw [hU], zz_X.warm hW hzX, by rw [hU]; exact hPc, va_K.moved hW.alike hKc, hDc.weaken (fun _ _ _ _ => trivial)⟩⟩ rfl rfl hl.1 rfl (lv_room (Nat.le_of_ble_eq_true rfl)) dX7_putFour_21 ⟨Nat.le_of_ble_eq_true rfl, Nat.le_of_ble_eq_true rfl⟩) hS (fun q _ h => hFc q h) hFc (fun u t H1 locs ht hvm hw hB hz1 hk1 hS => ?_)
  obtain ⟨f_6, hP1, hK1, hD1⟩ := hB
  rw [ht] at hP1
  have hK1 := va_K.moved hvm.symm hK1
  obtain ⟨hP, hD⟩ := va_join (wr := []) (w1 := [(h0, .inr (7, [.ref ab, .int 19])), (ab, .inl (kb, 440, .inl f_6))]) hP hD [0, 1] [] rfl rfl (by decide) (by decide) hk1 hFc hP1 hD1
  have hK := (hK.sub (tys' := [(kb, .byte)]) [0] rfl).app (hK1.sub (tys' := []) [] rfl)
  generalize H1 = H at hP hS ⊢
  have hP : va_P (dC, dI) vwCl [(h0, .inr (7, [.ref ab, .int 19])), (ab, .inl (kb, 440, .inl f_6))] H := hP
  have hD : va_D A [(h0, .inr (7, [.ref ab, .int 19])), (ab, .inl (kb, 440, .inl f_6))] := hD
  have hK : va_K (dC, dI) vwCl [(kb, .byte)] s := hK
  refine W.widen (k := 0) (n := 0) (Nat.le_of_ble_eq_true rfl) (Nat.le_of_ble_eq_true rfl) ?_
  refine lv_aload_n hx hb dX7_putFour_24 rfl (lv_at hl 0 rfl) ?_
  refine lv_iload_n hx hb dX7_putFour_25 rfl (lv_at hl 1 rfl) ?_
  have hPc := hP.sub (ws' := [(h0, .inr (7, [.ref ab, .int 19])), (ab, .inl (kb, 440, .inl f_6))]) [0, 1] rfl
  have hDc := hD.sub (ws' := [(h0, .inr (7, [.ref ab, .int 19])), (ab, .inl (kb, 440, .inl f_6))]) [0, 1] (by decide) rfl
  have hKc := hK.sub (tys' := [(kb, .byte)]) [0] rfl
  have hFc := va_free (wc := [(h0, .inr (7, [.ref ab, .int 19])), (ab, .inl (kb, 440, .inl f_6))]) hD hS hA [0, 1] rfl
  refine va_callv (va_runV (As := [.int o9]) (rest := []) ⟨hx, hb, hml, hown, hts⟩ (c_put_19 l dC dI h0 ab kb f_6 o9 H.size ) (cwV 1 hts gX7_putFour_X7_put rfl rfl rfl (by decide +kernel) ⟨Nat.le_of_ble_eq_true rfl, Nat.le_of_ble_eq_true rfl⟩) ⟨fun a U g mk q => by obtain ⟨q0, q1, qX, qP, qK, qD⟩ := q; exact ⟨q0, q1, zz_X.same (u := U) (U := U.calling g mk a) rfl qX, qP, va_K.moved (u := U) (U := U.calling g mk a) (Vm.Alike.refl U.vm) qK, qD⟩, va_recv hKc hPc (ci := 7) (q0 := 0) rfl rfl, fun U hU hW => ⟨rfl, by rw [hU], zz_X.warm hW hzX, by rw [hU]; exact hPc, va_K.moved hW.alike hKc, hDc.weaken (fun _ _ _ _ => trivial)⟩⟩ rfl rfl hl.1 rfl (lv_room (Nat.le_of_ble_eq_true rfl)) dX7_putFour_26 ⟨Nat.le_of_ble_eq_true rfl, Nat.le_of_ble_eq_true rfl⟩) hS (fun q _ h => hFc q h) hFc (fun u t H1 locs ht hvm hw hB hz1 hk1 hS => ?_)
  obtain ⟨f_7, hP1, hK1, hD1⟩ := hB
  rw [ht] at hP1
  have hK1 := va_K.moved hvm.symm hK1
  obtain ⟨hP, hD⟩ := va_join (wr := []) (w1 := [(h0, .inr (7, [.ref ab, .int 20])), (ab, .inl (kb, 440, .inl f_7))]) hP hD [0, 1] [] rfl rfl (by decide) (by decide) hk1 hFc hP1 hD1
  have hK := (hK.sub (tys' := [(kb, .byte)]) [0] rfl).app (hK1.sub (tys' := []) [] rfl)
  generalize H1 = H at hP hS ⊢
  have hP : va_P (dC, dI) vwCl [(h0, .inr (7, [.ref ab, .int 20])), (ab, .inl (kb, 440, .inl f_7))] H := hP
  have hD : va_D A [(h0, .inr (7, [.ref ab, .int 20])), (ab, .inl (kb, 440, .inl f_7))] := hD
  have hK : va_K (dC, dI) vwCl [(kb, .byte)] s := hK
  refine W.widen (k := 0) (n := 0) (Nat.le_of_ble_eq_true rfl) (Nat.le_of_ble_eq_true rfl) ?_
  have hP9 := hP.sub (ws' := [(h0, .inr (7, [.ref ab, .int 20])), (ab, .inl (kb, 440, .inl f_7))]) [0, 1] rfl
  have hD9 := hD.sub (ws' := [(h0, .inr (7, [.ref ab, .int 20])), (ab, .inl (kb, 440, .inl f_7))]) [0, 1] (by decide) rfl
  have hK9 := hK.sub (tys' := [(kb, .byte)]) [0] rfl
  refine W.widen (k := 0) (n := 0) (Nat.le_of_ble_eq_true rfl) (Nat.le_of_ble_eq_true rfl) ?_
  exact W.vret hx hb hr (fun t ht hW => ⟨⟨(), rfl, trivial, f_7, by rw [ht]; exact hP9, va_K.moved hW.alike hK9, hD9⟩, hS.F ht⟩) hS.2.2 dX7_putFour_29
theorem in_X11_feed_X11 : ∀ w ∈ wsX110, w ∈ wsX11_feed := fun _ h => List.mem_cons_of_mem _ (List.mem_append_left _ (List.mem_append_right _ h))
theorem in_X11_feed_X7 : ∀ w ∈ wsX70, w ∈ wsX11_feed := fun _ h => List.mem_cons_of_mem _ (List.mem_append_right _ h)
set_option maxHeartbeats 4000000 in
set_option maxRecDepth 100000 in
theorem c_feed (l : Launch) (dC : Nat → ClassId) (dI : Nat → Nat → Nat) (x : Nat) (tp : Nat) (ou : Nat) (sa : Nat) (ur : Nat) (tr : Nat) (so : Nat) (ma : Nat) (ta : Nat) (jt : Nat) (fr : Nat) (jo : Nat) (un : Nat) (su : Nat) (tb : Nat) (kb : ClassId) (fb : Nat → Int32) (a1 : Int32) (a2 : Int32) (a3 : Int32) (a4 : Int32) (a5 : Int32) (sz : Nat)  : Met l yX11_feed wsX11_feed ({ frames := 2, cells := 0, slots := 0, locals := 42 } : Room) (va_Pc [.ref x, .int a1, .int a2, .int a3, .int a4, .int a5] (fun U => U.heap.size = sz ∧ zz_X U ∧ va_P (dC, dI) vwCl [(x, .inr (11, [.ref tp, .ref ou, .ref sa, .ref ur, .ref tr, .ref so, .ref ma, .ref ta, .ref jt, .ref fr, .ref jo, .ref un, .ref su, .int 0, .int 0, .int 0])), (tp, .inr (7, [.ref tb, .int 0])), (tb, .inl (kb, 440, .inl fb))] U.heap ∧ va_K (dC, dI) vwCl [(kb, .byte)] U ∧ va_D (fun _ => True) [(x, .inr (11, [.ref tp, .ref ou, .ref sa, .ref ur, .ref tr, .ref so, .ref ma, .ref ta, .ref jt, .ref fr, .ref jo, .ref un, .ref su, .int 0, .int 0, .int 0])), (tp, .inr (7, [.ref tb, .int 0])), (tb, .inl (kb, 440, .inl fb))])) (va_Qi (fun (r : Int32) (_ : Unit) => r = 20) (fun (_ : Unit) (t : State) => va_P (dC, dI) vwCl [] t.heap ∧ va_K (dC, dI) vwCl [] t ∧ va_D (va_A [(x, .inr (11, [.ref tp, .ref ou, .ref sa, .ref ur, .ref tr, .ref so, .ref ma, .ref ta, .ref jt, .ref fr, .ref jo, .ref un, .ref su, .int 0, .int 0, .int 0])), (tp, .inr (7, [.ref tb, .int 0])), (tb, .inl (kb, 440, .inl fb))] sz) []) (va_A [(x, .inr (11, [.ref tp, .ref ou, .ref sa, .ref ur, .ref tr, .ref so, .ref ma, .ref ta, .ref jt, .ref fr, .ref jo, .ref un, .ref su, .int 0, .int 0, .int 0])), (tp, .inr (7, [.ref tb, .int 0])), (tb, .inl (kb, 440, .inl fb))] sz)) 0 0 (va_A [(x, .inr (11, [.ref tp, .ref ou, .ref sa, .ref ur, .ref tr, .ref so, .ref ma, .ref ta, .ref jt, .ref fr, .ref jo, .ref un, .ref su, .int 0, .int 0, .int 0])), (tp, .inr (7, [.ref tb, .int 0])), (tb, .inl (kb, 440, .inl fb))] sz) := by
  refine Met.ofW (cc := cX11_feed) (maxL := 6) (ret := (some .int)) (by decide) rfl ?_
  intro p e s m args below meth c s₁ B hml hv
  obtain ⟨rfl, hsz, hzX, hP, hK, hD0⟩ := hv
  have hx := B.exec
  have hb := B.bytes
  have hr := B.returns
  have hts := atoms_spec (ws := wsX11_feed) B.pre
  have hown : s.vm.findClass RX11 = some m.cls := findClass_of_methodNamed B.named
  have hlocks := B.notSynchronized
  subst hsz
  have hD := hD0.self (sz := s.heap.size)
  generalize hAe : va_A [(x, .inr (11, [.ref tp, .ref ou, .ref sa, .ref ur, .ref tr, .ref so, .ref ma, .ref ta, .ref jt, .ref fr, .ref jo, .ref un, .ref su, .int 0, .int 0, .int 0])), (tp, .inr (7, [.ref tb, .int 0])), (tb, .inl (kb, 440, .inl fb))] s.heap.size = A at  hD ⊢
  have hA : ∀ q : Nat, s.heap.size ≤ q → A q := fun q h => by rw [← hAe]; exact Or.inr h
  have hS : va_S A s.heap s.heap [] := va_S.rf
  have hP : va_P (dC, dI) vwCl [(x, .inr (11, [.ref tp, .ref ou, .ref sa, .ref ur, .ref tr, .ref so, .ref ma, .ref ta, .ref jt, .ref fr, .ref jo, .ref un, .ref su, .int 0, .int 0, .int 0])), (tp, .inr (7, [.ref tb, .int 0])), (tb, .inl (kb, 440, .inl fb))] s.heap := hP
  have hl := lv_entry ([.ref x, .int a1, .int a2, .int a3, .int a4, .int a5]) (n := 6) (Nat.le_of_ble_eq_true rfl)
  rw [lg_entry_eq]
  generalize (lg_sl ([.ref x, .int a1, .int a2, .int a3, .int a4, .int a5]) ++ List.replicate (6 - (lg_sl ([.ref x, .int a1, .int a2, .int a3, .int a4, .int a5])).length) Slot.unset).toArray = ls at hl ⊢
  have hl : lv_has ls 6 [(0, .ref x), (1, .int a1), (2, .int a2), (3, .int a3), (4, .int a4), (5, .int a5)] := hl
  skip
  refine lv_aload_n hx hb dX11_feed_0 rfl (lv_at hl 0 rfl) ?_
  refine va_get (D := (dC, dI)) (ci := 11) (v := .ref tp) (C := RX11) (T := TX11) (N := 16) hx hb hts in_X11_feed_X11 hown hK hP 0 rfl rfl 0 (by decide) (hts (.fieldLink RX11 14 "ClayAccounts" "tape" "LClayAccounts$Text;") (by decide +kernel)) (fun _ h9 => h9) rfl dX11_feed_1 ?_
  refine va_get (D := (dC, dI)) (ci := 7) (v := .int 0) (C := RX7) (T := TX7) (N := 2) hx hb hts in_X11_feed_X7 hown hK hP 1 rfl rfl 1 (by decide) (hts (.fieldLink RX11 100 "ClayAccounts$Text" "size" "I") (by decide +kernel)) (fun _ h9 => h9) rfl dX11_feed_4 ?_
  refine lv_bipush (v := 20) hx hb dX11_feed_7 (by decide) ?_
  refine lv_iadd hx hb dX11_feed_9 ?_
  refine zz_top (y := 20) (by decide) ?_
  refine lv_sipush (v := 440) hx hb dX11_feed_10 (by decide) ?_
  refine lv_icmp_le (tgt := 18) hx hb dX11_feed_13 (by decide) (fun c9 => ?_) (fun c9 => absurd (by decide) c9)
  refine lv_aload_n hx hb dX11_feed_18 rfl (lv_at hl 0 rfl) ?_
  refine va_get (D := (dC, dI)) (ci := 11) (v := .ref tp) (C := RX11) (T := TX11) (N := 16) hx hb hts in_X11_feed_X11 hown hK hP 0 rfl rfl 0 (by decide) (hts (.fieldLink RX11 14 "ClayAccounts" "tape" "LClayAccounts$Text;") (by decide +kernel)) (fun _ h9 => h9) rfl dX11_feed_19 ?_
  refine lv_iload_n hx hb dX11_feed_22 rfl (lv_at hl 1 rfl) ?_
  have hPc := hP.sub (ws' := [(tp, .inr (7, [.ref tb, .int 0])), (tb, .inl (kb, 440, .inl fb))]) [1, 2] rfl
  have hDc := hD.sub (ws' := [(tp, .inr (7, [.ref tb, .int 0])), (tb, .inl (kb, 440, .inl fb))]) [1, 2] (by decide) rfl
  have hKc := hK.sub (tys' := [(kb, .byte)]) [0] rfl
  have hFc := va_free (wc := [(tp, .inr (7, [.ref tb, .int 0])), (tb, .inl (kb, 440, .inl fb))]) hD hS hA [1, 2] rfl
  refine va_callv (va_runV (As := [.int a1]) (rest := []) ⟨hx, hb, hml, hown, hts⟩ (c_putFour_0 l dC dI tp tb kb fb a1 s.heap.size ) (cwV 1 hts gX11_feed_X7_putFour rfl rfl rfl (by decide +kernel) ⟨Nat.le_of_ble_eq_true rfl, Nat.le_of_ble_eq_true rfl⟩) ⟨fun a U g mk q => by obtain ⟨q0, q1, qX, qP, qK, qD⟩ := q; exact ⟨q0, q1, zz_X.same (u := U) (U := U.calling g mk a) rfl qX, qP, va_K.moved (u := U) (U := U.calling g mk a) (Vm.Alike.refl U.vm) qK, qD⟩, va_recv hKc hPc (ci := 7) (q0 := 0) rfl rfl, fun U hU hW => ⟨rfl, by rw [hU], zz_X.warm hW hzX, by rw [hU]; exact hPc, va_K.moved hW.alike hKc, hDc.weaken (fun _ _ _ _ => trivial)⟩⟩ rfl rfl hl.1 rfl (lv_room (Nat.le_of_ble_eq_true rfl)) dX11_feed_23 ⟨Nat.le_of_ble_eq_true rfl, Nat.le_of_ble_eq_true rfl⟩) hS (fun q _ h => hFc q h) hFc (fun u t H1 locs ht hvm hw hB hz1 hk1 hS => ?_)
  obtain ⟨f_1, hP1, hK1, hD1⟩ := hB
  rw [ht] at hP1
  have hK1 := va_K.moved hvm.symm hK1
  obtain ⟨hP, hD⟩ := va_join (wr := [(x, .inr (11, [.ref tp, .ref ou, .ref sa, .ref ur, .ref tr, .ref so, .ref ma, .ref ta, .ref jt, .ref fr, .ref jo, .ref un, .ref su, .int 0, .int 0, .int 0]))]) (w1 := [(tp, .inr (7, [.ref tb, .int 4])), (tb, .inl (kb, 440, .inl f_1))]) hP hD [1, 2] [0] rfl rfl (by decide) (by decide) hk1 hFc hP1 hD1
  have hK := (hK.sub (tys' := [(kb, .byte)]) [0] rfl).app (hK1.sub (tys' := []) [] rfl)
  generalize H1 = H at hP hS ⊢
  have hP : va_P (dC, dI) vwCl [(x, .inr (11, [.ref tp, .ref ou, .ref sa, .ref ur, .ref tr, .ref so, .ref ma, .ref ta, .ref jt, .ref fr, .ref jo, .ref un, .ref su, .int 0, .int 0, .int 0])), (tp, .inr (7, [.ref tb, .int 4])), (tb, .inl (kb, 440, .inl f_1))] H := hP
  have hD : va_D A [(x, .inr (11, [.ref tp, .ref ou, .ref sa, .ref ur, .ref tr, .ref so, .ref ma, .ref ta, .ref jt, .ref fr, .ref jo, .ref un, .ref su, .int 0, .int 0, .int 0])), (tp, .inr (7, [.ref tb, .int 4])), (tb, .inl (kb, 440, .inl f_1))] := hD
  have hK : va_K (dC, dI) vwCl [(kb, .byte)] s := hK
  refine W.widen (k := 0) (n := 0) (Nat.le_of_ble_eq_true rfl) (Nat.le_of_ble_eq_true rfl) ?_
  refine lv_aload_n hx hb dX11_feed_26 rfl (lv_at hl 0 rfl) ?_
  refine va_get (D := (dC, dI)) (ci := 11) (v := .ref tp) (C := RX11) (T := TX11) (N := 16) hx hb hts in_X11_feed_X11 hown hK hP 0 rfl rfl 0 (by decide) (hts (.fieldLink RX11 14 "ClayAccounts" "tape" "LClayAccounts$Text;") (by decide +kernel)) (fun _ h9 => h9) rfl dX11_feed_27 ?_
  refine lv_iload_n hx hb dX11_feed_30 rfl (lv_at hl 2 rfl) ?_
  have hPc := hP.sub (ws' := [(tp, .inr (7, [.ref tb, .int 4])), (tb, .inl (kb, 440, .inl f_1))]) [1, 2] rfl
  have hDc := hD.sub (ws' := [(tp, .inr (7, [.ref tb, .int 4])), (tb, .inl (kb, 440, .inl f_1))]) [1, 2] (by decide) rfl
  have hKc := hK.sub (tys' := [(kb, .byte)]) [0] rfl
  have hFc := va_free (wc := [(tp, .inr (7, [.ref tb, .int 4])), (tb, .inl (kb, 440, .inl f_1))]) hD hS hA [1, 2] rfl
  refine va_callv (va_runV (As := [.int a2]) (rest := []) ⟨hx, hb, hml, hown, hts⟩ (c_putFour_4 l dC dI tp tb kb f_1 a2 H.size ) (cwV 1 hts gX11_feed_X7_putFour rfl rfl rfl (by decide +kernel) ⟨Nat.le_of_ble_eq_true rfl, Nat.le_of_ble_eq_true rfl⟩) ⟨fun a U g mk q => by obtain ⟨q0, q1, qX, qP, qK, qD⟩ := q; exact ⟨q0, q1, zz_X.same (u := U) (U := U.calling g mk a) rfl qX, qP, va_K.moved (u := U) (U := U.calling g mk a) (Vm.Alike.refl U.vm) qK, qD⟩, va_recv hKc hPc (ci := 7) (q0 := 0) rfl rfl, fun U hU hW => ⟨rfl, by rw [hU], zz_X.warm hW hzX, by rw [hU]; exact hPc, va_K.moved hW.alike hKc, hDc.weaken (fun _ _ _ _ => trivial)⟩⟩ rfl rfl hl.1 rfl (lv_room (Nat.le_of_ble_eq_true rfl)) dX11_feed_31 ⟨Nat.le_of_ble_eq_true rfl, Nat.le_of_ble_eq_true rfl⟩) hS (fun q _ h => hFc q h) hFc (fun u t H1 locs ht hvm hw hB hz1 hk1 hS => ?_)
  obtain ⟨f_2, hP1, hK1, hD1⟩ := hB
  rw [ht] at hP1
  have hK1 := va_K.moved hvm.symm hK1
  obtain ⟨hP, hD⟩ := va_join (wr := [(x, .inr (11, [.ref tp, .ref ou, .ref sa, .ref ur, .ref tr, .ref so, .ref ma, .ref ta, .ref jt, .ref fr, .ref jo, .ref un, .ref su, .int 0, .int 0, .int 0]))]) (w1 := [(tp, .inr (7, [.ref tb, .int 8])), (tb, .inl (kb, 440, .inl f_2))]) hP hD [1, 2] [0] rfl rfl (by decide) (by decide) hk1 hFc hP1 hD1
  have hK := (hK.sub (tys' := [(kb, .byte)]) [0] rfl).app (hK1.sub (tys' := []) [] rfl)
  generalize H1 = H at hP hS ⊢
  have hP : va_P (dC, dI) vwCl [(x, .inr (11, [.ref tp, .ref ou, .ref sa, .ref ur, .ref tr, .ref so, .ref ma, .ref ta, .ref jt, .ref fr, .ref jo, .ref un, .ref su, .int 0, .int 0, .int 0])), (tp, .inr (7, [.ref tb, .int 8])), (tb, .inl (kb, 440, .inl f_2))] H := hP
  have hD : va_D A [(x, .inr (11, [.ref tp, .ref ou, .ref sa, .ref ur, .ref tr, .ref so, .ref ma, .ref ta, .ref jt, .ref fr, .ref jo, .ref un, .ref su, .int 0, .int 0, .int 0])), (tp, .inr (7, [.ref tb, .int 8])), (tb, .inl (kb, 440, .inl f_2))] := hD
  have hK : va_K (dC, dI) vwCl [(kb, .byte)] s := hK
  refine W.widen (k := 0) (n := 0) (Nat.le_of_ble_eq_true rfl) (Nat.le_of_ble_eq_true rfl) ?_
  refine lv_aload_n hx hb dX11_feed_34 rfl (lv_at hl 0 rfl) ?_
  refine va_get (D := (dC, dI)) (ci := 11) (v := .ref tp) (C := RX11) (T := TX11) (N := 16) hx hb hts in_X11_feed_X11 hown hK hP 0 rfl rfl 0 (by decide) (hts (.fieldLink RX11 14 "ClayAccounts" "tape" "LClayAccounts$Text;") (by decide +kernel)) (fun _ h9 => h9) rfl dX11_feed_35 ?_
  refine lv_iload_n hx hb dX11_feed_38 rfl (lv_at hl 3 rfl) ?_
  have hPc := hP.sub (ws' := [(tp, .inr (7, [.ref tb, .int 8])), (tb, .inl (kb, 440, .inl f_2))]) [1, 2] rfl
  have hDc := hD.sub (ws' := [(tp, .inr (7, [.ref tb, .int 8])), (tb, .inl (kb, 440, .inl f_2))]) [1, 2] (by decide) rfl
  have hKc := hK.sub (tys' := [(kb, .byte)]) [0] rfl
  have hFc := va_free (wc := [(tp, .inr (7, [.ref tb, .int 8])), (tb, .inl (kb, 440, .inl f_2))]) hD hS hA [1, 2] rfl
  refine va_callv (va_runV (As := [.int a3]) (rest := []) ⟨hx, hb, hml, hown, hts⟩ (c_putFour_8 l dC dI tp tb kb f_2 a3 H.size ) (cwV 1 hts gX11_feed_X7_putFour rfl rfl rfl (by decide +kernel) ⟨Nat.le_of_ble_eq_true rfl, Nat.le_of_ble_eq_true rfl⟩) ⟨fun a U g mk q => by obtain ⟨q0, q1, qX, qP, qK, qD⟩ := q; exact ⟨q0, q1, zz_X.same (u := U) (U := U.calling g mk a) rfl qX, qP, va_K.moved (u := U) (U := U.calling g mk a) (Vm.Alike.refl U.vm) qK, qD⟩, va_recv hKc hPc (ci := 7) (q0 := 0) rfl rfl, fun U hU hW => ⟨rfl, by rw [hU], zz_X.warm hW hzX, by rw [hU]; exact hPc, va_K.moved hW.alike hKc, hDc.weaken (fun _ _ _ _ => trivial)⟩⟩ rfl rfl hl.1 rfl (lv_room (Nat.le_of_ble_eq_true rfl)) dX11_feed_39 ⟨Nat.le_of_ble_eq_true rfl, Nat.le_of_ble_eq_true rfl⟩) hS (fun q _ h => hFc q h) hFc (fun u t H1 locs ht hvm hw hB hz1 hk1 hS => ?_)
  obtain ⟨f_3, hP1, hK1, hD1⟩ := hB
  rw [ht] at hP1
  have hK1 := va_K.moved hvm.symm hK1
  obtain ⟨hP, hD⟩ := va_join (wr := [(x, .inr (11, [.ref tp, .ref ou, .ref sa, .ref ur, .ref tr, .ref so, .ref ma, .ref ta, .ref jt, .ref fr, .ref jo, .ref un, .ref su, .int 0, .int 0, .int 0]))]) (w1 := [(tp, .inr (7, [.ref tb, .int 12])), (tb, .inl (kb, 440, .inl f_3))]) hP hD [1, 2] [0] rfl rfl (by decide) (by decide) hk1 hFc hP1 hD1
  have hK := (hK.sub (tys' := [(kb, .byte)]) [0] rfl).app (hK1.sub (tys' := []) [] rfl)
  generalize H1 = H at hP hS ⊢
  have hP : va_P (dC, dI) vwCl [(x, .inr (11, [.ref tp, .ref ou, .ref sa, .ref ur, .ref tr, .ref so, .ref ma, .ref ta, .ref jt, .ref fr, .ref jo, .ref un, .ref su, .int 0, .int 0, .int 0])), (tp, .inr (7, [.ref tb, .int 12])), (tb, .inl (kb, 440, .inl f_3))] H := hP
  have hD : va_D A [(x, .inr (11, [.ref tp, .ref ou, .ref sa, .ref ur, .ref tr, .ref so, .ref ma, .ref ta, .ref jt, .ref fr, .ref jo, .ref un, .ref su, .int 0, .int 0, .int 0])), (tp, .inr (7, [.ref tb, .int 12])), (tb, .inl (kb, 440, .inl f_3))] := hD
  have hK : va_K (dC, dI) vwCl [(kb, .byte)] s := hK
  refine W.widen (k := 0) (n := 0) (Nat.le_of_ble_eq_true rfl) (Nat.le_of_ble_eq_true rfl) ?_
  refine lv_aload_n hx hb dX11_feed_42 rfl (lv_at hl 0 rfl) ?_
  refine va_get (D := (dC, dI)) (ci := 11) (v := .ref tp) (C := RX11) (T := TX11) (N := 16) hx hb hts in_X11_feed_X11 hown hK hP 0 rfl rfl 0 (by decide) (hts (.fieldLink RX11 14 "ClayAccounts" "tape" "LClayAccounts$Text;") (by decide +kernel)) (fun _ h9 => h9) rfl dX11_feed_43 ?_
  refine lv_iload hx hb dX11_feed_46 (lv_at hl 4 rfl) ?_
  have hPc := hP.sub (ws' := [(tp, .inr (7, [.ref tb, .int 12])), (tb, .inl (kb, 440, .inl f_3))]) [1, 2] rfl
  have hDc := hD.sub (ws' := [(tp, .inr (7, [.ref tb, .int 12])), (tb, .inl (kb, 440, .inl f_3))]) [1, 2] (by decide) rfl
  have hKc := hK.sub (tys' := [(kb, .byte)]) [0] rfl
  have hFc := va_free (wc := [(tp, .inr (7, [.ref tb, .int 12])), (tb, .inl (kb, 440, .inl f_3))]) hD hS hA [1, 2] rfl
  refine va_callv (va_runV (As := [.int a4]) (rest := []) ⟨hx, hb, hml, hown, hts⟩ (c_putFour_12 l dC dI tp tb kb f_3 a4 H.size ) (cwV 1 hts gX11_feed_X7_putFour rfl rfl rfl (by decide +kernel) ⟨Nat.le_of_ble_eq_true rfl, Nat.le_of_ble_eq_true rfl⟩) ⟨fun a U g mk q => by obtain ⟨q0, q1, qX, qP, qK, qD⟩ := q; exact ⟨q0, q1, zz_X.same (u := U) (U := U.calling g mk a) rfl qX, qP, va_K.moved (u := U) (U := U.calling g mk a) (Vm.Alike.refl U.vm) qK, qD⟩, va_recv hKc hPc (ci := 7) (q0 := 0) rfl rfl, fun U hU hW => ⟨rfl, by rw [hU], zz_X.warm hW hzX, by rw [hU]; exact hPc, va_K.moved hW.alike hKc, hDc.weaken (fun _ _ _ _ => trivial)⟩⟩ rfl rfl hl.1 rfl (lv_room (Nat.le_of_ble_eq_true rfl)) dX11_feed_48 ⟨Nat.le_of_ble_eq_true rfl, Nat.le_of_ble_eq_true rfl⟩) hS (fun q _ h => hFc q h) hFc (fun u t H1 locs ht hvm hw hB hz1 hk1 hS => ?_)
  obtain ⟨f_4, hP1, hK1, hD1⟩ := hB
  rw [ht] at hP1
  have hK1 := va_K.moved hvm.symm hK1
  obtain ⟨hP, hD⟩ := va_join (wr := [(x, .inr (11, [.ref tp, .ref ou, .ref sa, .ref ur, .ref tr, .ref so, .ref ma, .ref ta, .ref jt, .ref fr, .ref jo, .ref un, .ref su, .int 0, .int 0, .int 0]))]) (w1 := [(tp, .inr (7, [.ref tb, .int 16])), (tb, .inl (kb, 440, .inl f_4))]) hP hD [1, 2] [0] rfl rfl (by decide) (by decide) hk1 hFc hP1 hD1
  have hK := (hK.sub (tys' := [(kb, .byte)]) [0] rfl).app (hK1.sub (tys' := []) [] rfl)
  generalize H1 = H at hP hS ⊢
  have hP : va_P (dC, dI) vwCl [(x, .inr (11, [.ref tp, .ref ou, .ref sa, .ref ur, .ref tr, .ref so, .ref ma, .ref ta, .ref jt, .ref fr, .ref jo, .ref un, .ref su, .int 0, .int 0, .int 0])), (tp, .inr (7, [.ref tb, .int 16])), (tb, .inl (kb, 440, .inl f_4))] H := hP
  have hD : va_D A [(x, .inr (11, [.ref tp, .ref ou, .ref sa, .ref ur, .ref tr, .ref so, .ref ma, .ref ta, .ref jt, .ref fr, .ref jo, .ref un, .ref su, .int 0, .int 0, .int 0])), (tp, .inr (7, [.ref tb, .int 16])), (tb, .inl (kb, 440, .inl f_4))] := hD
  have hK : va_K (dC, dI) vwCl [(kb, .byte)] s := hK
  refine W.widen (k := 0) (n := 0) (Nat.le_of_ble_eq_true rfl) (Nat.le_of_ble_eq_true rfl) ?_
  refine lv_aload_n hx hb dX11_feed_51 rfl (lv_at hl 0 rfl) ?_
  refine va_get (D := (dC, dI)) (ci := 11) (v := .ref tp) (C := RX11) (T := TX11) (N := 16) hx hb hts in_X11_feed_X11 hown hK hP 0 rfl rfl 0 (by decide) (hts (.fieldLink RX11 14 "ClayAccounts" "tape" "LClayAccounts$Text;") (by decide +kernel)) (fun _ h9 => h9) rfl dX11_feed_52 ?_
  refine lv_iload hx hb dX11_feed_55 (lv_at hl 5 rfl) ?_
  have hPc := hP.sub (ws' := [(tp, .inr (7, [.ref tb, .int 16])), (tb, .inl (kb, 440, .inl f_4))]) [1, 2] rfl
  have hDc := hD.sub (ws' := [(tp, .inr (7, [.ref tb, .int 16])), (tb, .inl (kb, 440, .inl f_4))]) [1, 2] (by decide) rfl
  have hKc := hK.sub (tys' := [(kb, .byte)]) [0] rfl
  have hFc := va_free (wc := [(tp, .inr (7, [.ref tb, .int 16])), (tb, .inl (kb, 440, .inl f_4))]) hD hS hA [1, 2] rfl
  refine va_callv (va_runV (As := [.int a5]) (rest := []) ⟨hx, hb, hml, hown, hts⟩ (c_putFour_16 l dC dI tp tb kb f_4 a5 H.size ) (cwV 1 hts gX11_feed_X7_putFour rfl rfl rfl (by decide +kernel) ⟨Nat.le_of_ble_eq_true rfl, Nat.le_of_ble_eq_true rfl⟩) ⟨fun a U g mk q => by obtain ⟨q0, q1, qX, qP, qK, qD⟩ := q; exact ⟨q0, q1, zz_X.same (u := U) (U := U.calling g mk a) rfl qX, qP, va_K.moved (u := U) (U := U.calling g mk a) (Vm.Alike.refl U.vm) qK, qD⟩, va_recv hKc hPc (ci := 7) (q0 := 0) rfl rfl, fun U hU hW => ⟨rfl, by rw [hU], zz_X.warm hW hzX, by rw [hU]; exact hPc, va_K.moved hW.alike hKc, hDc.weaken (fun _ _ _ _ => trivial)⟩⟩ rfl rfl hl.1 rfl (lv_room (Nat.le_of_ble_eq_true rfl)) dX11_feed_57 ⟨Nat.le_of_ble_eq_true rfl, Nat.le_of_ble_eq_true rfl⟩) hS (fun q _ h => hFc q h) hFc (fun u t H1 locs ht hvm hw hB hz1 hk1 hS => ?_)
  obtain ⟨f_5, hP1, hK1, hD1⟩ := hB
  rw [ht] at hP1
  have hK1 := va_K.moved hvm.symm hK1
  obtain ⟨hP, hD⟩ := va_join (wr := [(x, .inr (11, [.ref tp, .ref ou, .ref sa, .ref ur, .ref tr, .ref so, .ref ma, .ref ta, .ref jt, .ref fr, .ref jo, .ref un, .ref su, .int 0, .int 0, .int 0]))]) (w1 := [(tp, .inr (7, [.ref tb, .int 20])), (tb, .inl (kb, 440, .inl f_5))]) hP hD [1, 2] [0] rfl rfl (by decide) (by decide) hk1 hFc hP1 hD1
  have hK := (hK.sub (tys' := [(kb, .byte)]) [0] rfl).app (hK1.sub (tys' := []) [] rfl)
  generalize H1 = H at hP hS ⊢
  have hP : va_P (dC, dI) vwCl [(x, .inr (11, [.ref tp, .ref ou, .ref sa, .ref ur, .ref tr, .ref so, .ref ma, .ref ta, .ref jt, .ref fr, .ref jo, .ref un, .ref su, .int 0, .int 0, .int 0])), (tp, .inr (7, [.ref tb, .int 20])), (tb, .inl (kb, 440, .inl f_5))] H := hP
  have hD : va_D A [(x, .inr (11, [.ref tp, .ref ou, .ref sa, .ref ur, .ref tr, .ref so, .ref ma, .ref ta, .ref jt, .ref fr, .ref jo, .ref un, .ref su, .int 0, .int 0, .int 0])), (tp, .inr (7, [.ref tb, .int 20])), (tb, .inl (kb, 440, .inl f_5))] := hD
  have hK : va_K (dC, dI) vwCl [(kb, .byte)] s := hK
  refine W.widen (k := 0) (n := 0) (Nat.le_of_ble_eq_true rfl) (Nat.le_of_ble_eq_true rfl) ?_
  refine lv_aload_n hx hb dX11_feed_60 rfl (lv_at hl 0 rfl) ?_
  refine va_get (D := (dC, dI)) (ci := 11) (v := .ref tp) (C := RX11) (T := TX11) (N := 16) hx hb hts in_X11_feed_X11 hown hK hP 0 rfl rfl 0 (by decide) (hts (.fieldLink RX11 14 "ClayAccounts" "tape" "LClayAccounts$Text;") (by decide +kernel)) (fun _ h9 => h9) rfl dX11_feed_61 ?_
  refine va_get (D := (dC, dI)) (ci := 7) (v := .int 20) (C := RX7) (T := TX7) (N := 2) hx hb hts in_X11_feed_X7 hown hK hP 1 rfl rfl 1 (by decide) (hts (.fieldLink RX11 100 "ClayAccounts$Text" "size" "I") (by decide +kernel)) (fun _ h9 => h9) rfl dX11_feed_64 ?_
  have hP9 := hP.sub (ws' := []) [] rfl
  have hD9 := hD.sub (ws' := []) [] (by decide) rfl
  have hK9 := hK.sub (tys' := []) [] rfl
  refine W.widen (k := 0) (n := 0) (Nat.le_of_ble_eq_true rfl) (Nat.le_of_ble_eq_true rfl) ?_
  exact W.iret (v := 20) hx hb hr (fun t ht hW => ⟨⟨20, (), rfl, rfl, by rw [ht]; exact hP9, va_K.moved hW.alike hK9, hD9⟩, hS.F ht⟩) hS.2.2 dX11_feed_67
theorem in_X11_end_X11 : ∀ w ∈ wsX110, w ∈ wsX11_end := fun _ h => List.mem_cons_of_mem _ (List.mem_append_left _ (List.mem_append_right _ h))
theorem in_X11_end_X7 : ∀ w ∈ wsX70, w ∈ wsX11_end := fun _ h => List.mem_cons_of_mem _ (List.mem_append_right _ h)
set_option maxHeartbeats 4000000 in
set_option maxRecDepth 100000 in
theorem c_end (l : Launch) (dC : Nat → ClassId) (dI : Nat → Nat → Nat) (x : Nat) (tp : Nat) (ou : Nat) (sa : Nat) (ur : Nat) (tr : Nat) (so : Nat) (ma : Nat) (ta : Nat) (jt : Nat) (fr : Nat) (jo : Nat) (un : Nat) (su : Nat) (tb : Nat) (n1 : Int32) (sz : Nat)  : Met l yX11_end wsX11_end ({ frames := 0, cells := 0, slots := 0, locals := 0 } : Room) (va_Pc [.ref x, .int n1] (fun U => U.heap.size = sz ∧ zz_X U ∧ va_P (dC, dI) vwCl [(x, .inr (11, [.ref tp, .ref ou, .ref sa, .ref ur, .ref tr, .ref so, .ref ma, .ref ta, .ref jt, .ref fr, .ref jo, .ref un, .ref su, .int 0, .int 0, .int 0])), (tp, .inr (7, [.ref tb, .int 0]))] U.heap ∧ va_K (dC, dI) vwCl [] U ∧ va_D (fun _ => True) [(x, .inr (11, [.ref tp, .ref ou, .ref sa, .ref ur, .ref tr, .ref so, .ref ma, .ref ta, .ref jt, .ref fr, .ref jo, .ref un, .ref su, .int 0, .int 0, .int 0])), (tp, .inr (7, [.ref tb, .int 0]))])) (va_Qi (fun (r : Int32) (_ : Unit) => r = zz_end n1) (fun (_ : Unit) (t : State) => va_P (dC, dI) vwCl [] t.heap ∧ va_K (dC, dI) vwCl [] t ∧ va_D (va_A [(x, .inr (11, [.ref tp, .ref ou, .ref sa, .ref ur, .ref tr, .ref so, .ref ma, .ref ta, .ref jt, .ref fr, .ref jo, .ref un, .ref su, .int 0, .int 0, .int 0])), (tp, .inr (7, [.ref tb, .int 0]))] sz) []) (va_A [(x, .inr (11, [.ref tp, .ref ou, .ref sa, .ref ur, .ref tr, .ref so, .ref ma, .ref ta, .ref jt, .ref fr, .ref jo, .ref un, .ref su, .int 0, .int 0, .int 0])), (tp, .inr (7, [.ref tb, .int 0]))] sz)) 0 0 (va_A [(x, .inr (11, [.ref tp, .ref ou, .ref sa, .ref ur, .ref tr, .ref so, .ref ma, .ref ta, .ref jt, .ref fr, .ref jo, .ref un, .ref su, .int 0, .int 0, .int 0])), (tp, .inr (7, [.ref tb, .int 0]))] sz) := by
  refine Met.ofW (cc := cX11_end) (maxL := 2) (ret := (some .boolean)) (by decide) rfl ?_
  intro p e s m args below meth c s₁ B hml hv
  obtain ⟨rfl, hsz, hzX, hP, hK, hD0⟩ := hv
  have hx := B.exec
  have hb := B.bytes
  have hr := B.returns
  have hts := atoms_spec (ws := wsX11_end) B.pre
  have hown : s.vm.findClass RX11 = some m.cls := findClass_of_methodNamed B.named
  have hlocks := B.notSynchronized
  subst hsz
  have hD := hD0.self (sz := s.heap.size)
  generalize hAe : va_A [(x, .inr (11, [.ref tp, .ref ou, .ref sa, .ref ur, .ref tr, .ref so, .ref ma, .ref ta, .ref jt, .ref fr, .ref jo, .ref un, .ref su, .int 0, .int 0, .int 0])), (tp, .inr (7, [.ref tb, .int 0]))] s.heap.size = A at  hD ⊢
  have hA : ∀ q : Nat, s.heap.size ≤ q → A q := fun q h => by rw [← hAe]; exact Or.inr h
  have hS : va_S A s.heap s.heap [] := va_S.rf
  have hP : va_P (dC, dI) vwCl [(x, .inr (11, [.ref tp, .ref ou, .ref sa, .ref ur, .ref tr, .ref so, .ref ma, .ref ta, .ref jt, .ref fr, .ref jo, .ref un, .ref su, .int 0, .int 0, .int 0])), (tp, .inr (7, [.ref tb, .int 0]))] s.heap := hP
  have hl := lv_entry ([.ref x, .int n1]) (n := 2) (Nat.le_of_ble_eq_true rfl)
  rw [lg_entry_eq]
  generalize (lg_sl ([.ref x, .int n1]) ++ List.replicate (2 - (lg_sl ([.ref x, .int n1])).length) Slot.unset).toArray = ls at hl ⊢
  have hl : lv_has ls 2 [(0, .ref x), (1, .int n1)] := hl
  skip
  refine lv_iload_n hx hb dX11_end_0 rfl (lv_at hl 1 rfl) ?_
  refine lv_if_lt (tgt := 15) hx hb dX11_end_1 (by decide) (fun c_1 => ?_) (fun c_1 => ?_)
  · refine lv_iconst (v := 0) hx hb dX11_end_15 (by decide) ?_
    have hP9 := hP.sub (ws' := []) [] rfl
    have hD9 := hD.sub (ws' := []) [] (by decide) rfl
    have hK9 := hK.sub (tys' := []) [] rfl
    refine W.widen (k := 0) (n := 0) (Nat.le_of_ble_eq_true rfl) (Nat.le_of_ble_eq_true rfl) ?_
    exact W.zret (v := 0) hx hb hr rfl (fun t ht hW => ⟨⟨0, (), rfl, (by simp [zz_end, c_1]), by rw [ht]; exact hP9, va_K.moved hW.alike hK9, hD9⟩, hS.F ht⟩) hS.2.2 dX11_end_16
  · refine lv_iload_n hx hb dX11_end_4 rfl (lv_at hl 1 rfl) ?_
    refine lv_aload_n hx hb dX11_end_5 rfl (lv_at hl 0 rfl) ?_
    refine va_get (D := (dC, dI)) (ci := 11) (v := .ref tp) (C := RX11) (T := TX11) (N := 16) hx hb hts in_X11_end_X11 hown hK hP 0 rfl rfl 0 (by decide) (hts (.fieldLink RX11 14 "ClayAccounts" "tape" "LClayAccounts$Text;") (by decide +kernel)) (fun _ h9 => h9) rfl dX11_end_6 ?_
    refine va_get (D := (dC, dI)) (ci := 7) (v := .int 0) (C := RX7) (T := TX7) (N := 2) hx hb hts in_X11_end_X7 hown hK hP 1 rfl rfl 1 (by decide) (hts (.fieldLink RX11 100 "ClayAccounts$Text" "size" "I") (by decide +kernel)) (fun _ h9 => h9) rfl dX11_end_9 ?_
    refine lv_icmp_le (tgt := 17) hx hb dX11_end_12 (by decide) (fun c_2 => ?_) (fun c_2 => ?_)
    · refine lv_aload_n hx hb dX11_end_17 rfl (lv_at hl 0 rfl) ?_
      refine va_get (D := (dC, dI)) (ci := 11) (v := .ref tp) (C := RX11) (T := TX11) (N := 16) hx hb hts in_X11_end_X11 hown hK hP 0 rfl rfl 0 (by decide) (hts (.fieldLink RX11 14 "ClayAccounts" "tape" "LClayAccounts$Text;") (by decide +kernel)) (fun _ h9 => h9) rfl dX11_end_18 ?_
      refine lv_iload_n hx hb dX11_end_21 rfl (lv_at hl 1 rfl) ?_
      refine va_put (D := (dC, dI)) (ci := 7) (v := .int n1) (ty := .int) (C := RX7) (T := TX7) (N := 2) hx hb hts in_X11_end_X7 tyX7 tyX7_ok nmX7 hown hK hP hD hS 1 rfl rfl 1 (by decide) (hts (.fieldLink RX11 100 "ClayAccounts$Text" "size" "I") (by decide +kernel)) (fun _ h9 => h9) rfl (by decide +kernel) rfl rfl (Nat.le_of_ble_eq_true rfl) dX11_end_22 (fun H locs hP hD hS => ?_)
      have hP : va_P (dC, dI) vwCl [(x, .inr (11, [.ref tp, .ref ou, .ref sa, .ref ur, .ref tr, .ref so, .ref ma, .ref ta, .ref jt, .ref fr, .ref jo, .ref un, .ref su, .int 0, .int 0, .int 0])), (tp, .inr (7, [.ref tb, .int n1]))] H := hP
      have hD : va_D A [(x, .inr (11, [.ref tp, .ref ou, .ref sa, .ref ur, .ref tr, .ref so, .ref ma, .ref ta, .ref jt, .ref fr, .ref jo, .ref un, .ref su, .int 0, .int 0, .int 0])), (tp, .inr (7, [.ref tb, .int n1]))] := hD
      refine lv_iconst (v := 1) hx hb dX11_end_25 (by decide) ?_
      have hP9 := hP.sub (ws' := []) [] rfl
      have hD9 := hD.sub (ws' := []) [] (by decide) rfl
      have hK9 := hK.sub (tys' := []) [] rfl
      refine W.widen (k := 0) (n := 0) (Nat.le_of_ble_eq_true rfl) (Nat.le_of_ble_eq_true rfl) ?_
      exact W.zret (v := 1) hx hb hr rfl (fun t ht hW => ⟨⟨1, (), rfl, (by simp [zz_end, c_1, c_2]), by rw [ht]; exact hP9, va_K.moved hW.alike hK9, hD9⟩, hS.F ht⟩) hS.2.2 dX11_end_26
    · refine lv_iconst (v := 0) hx hb dX11_end_15 (by decide) ?_
      have hP9 := hP.sub (ws' := []) [] rfl
      have hD9 := hD.sub (ws' := []) [] (by decide) rfl
      have hK9 := hK.sub (tys' := []) [] rfl
      refine W.widen (k := 0) (n := 0) (Nat.le_of_ble_eq_true rfl) (Nat.le_of_ble_eq_true rfl) ?_
      exact W.zret (v := 0) hx hb hr rfl (fun t ht hW => ⟨⟨0, (), rfl, (by simp [zz_end, c_1, c_2]), by rw [ht]; exact hP9, va_K.moved hW.alike hK9, hD9⟩, hS.F ht⟩) hS.2.2 dX11_end_16
theorem in_X11_isSystem_X11 : ∀ w ∈ wsX110, w ∈ wsX11_isSystem := fun _ h => List.mem_cons_of_mem _ (List.mem_append_left _ (List.mem_append_right _ h))
theorem in_X11_isSystem_X9 : ∀ w ∈ wsX90, w ∈ wsX11_isSystem := fun _ h => List.mem_cons_of_mem _ (List.mem_append_right _ h)
set_option maxHeartbeats 4000000 in
set_option maxRecDepth 100000 in
theorem c_isSystem (l : Launch) (dC : Nat → ClassId) (dI : Nat → Nat → Nat) (x : Nat) (tp : Nat) (ou : Nat) (sa : Nat) (ur : Nat) (tr : Nat) (so : Nat) (ma : Nat) (ta : Nat) (jt : Nat) (fr : Nat) (jo : Nat) (un : Nat) (su : Nat) (u1 : Nat) (u2 : Nat) (u3 : Nat) (u4 : Nat) (u5 : Nat) (u6 : Nat) (n1 : Int32) (sz : Nat)  : Met l yX11_isSystem wsX11_isSystem ({ frames := 0, cells := 0, slots := 0, locals := 0 } : Room) (va_Pc [.ref x, .int n1] (fun U => U.heap.size = sz ∧ zz_X U ∧ va_P (dC, dI) vwCl [(x, .inr (11, [.ref tp, .ref ou, .ref sa, .ref ur, .ref tr, .ref so, .ref ma, .ref ta, .ref jt, .ref fr, .ref jo, .ref un, .ref su, .int 0, .int 0, .int 0])), (un, .inr (9, [.ref u1, .ref u2, .ref u3, .ref u4, .ref u5, .ref u6, .int 0]))] U.heap ∧ va_K (dC, dI) vwCl [] U ∧ va_D (fun _ => True) [(x, .inr (11, [.ref tp, .ref ou, .ref sa, .ref ur, .ref tr, .ref so, .ref ma, .ref ta, .ref jt, .ref fr, .ref jo, .ref un, .ref su, .int 0, .int 0, .int 0])), (un, .inr (9, [.ref u1, .ref u2, .ref u3, .ref u4, .ref u5, .ref u6, .int 0]))])) (va_Qi (fun (r : Int32) (_ : Unit) => r = 0) (fun (_ : Unit) (t : State) => va_P (dC, dI) vwCl [(x, .inr (11, [.ref tp, .ref ou, .ref sa, .ref ur, .ref tr, .ref so, .ref ma, .ref ta, .ref jt, .ref fr, .ref jo, .ref un, .ref su, .int 0, .int 0, .int 0])), (un, .inr (9, [.ref u1, .ref u2, .ref u3, .ref u4, .ref u5, .ref u6, .int 0]))] t.heap ∧ va_K (dC, dI) vwCl [] t ∧ va_D (va_A [(x, .inr (11, [.ref tp, .ref ou, .ref sa, .ref ur, .ref tr, .ref so, .ref ma, .ref ta, .ref jt, .ref fr, .ref jo, .ref un, .ref su, .int 0, .int 0, .int 0])), (un, .inr (9, [.ref u1, .ref u2, .ref u3, .ref u4, .ref u5, .ref u6, .int 0]))] sz) [(x, .inr (11, [.ref tp, .ref ou, .ref sa, .ref ur, .ref tr, .ref so, .ref ma, .ref ta, .ref jt, .ref fr, .ref jo, .ref un, .ref su, .int 0, .int 0, .int 0])), (un, .inr (9, [.ref u1, .ref u2, .ref u3, .ref u4, .ref u5, .ref u6, .int 0]))]) (va_A [(x, .inr (11, [.ref tp, .ref ou, .ref sa, .ref ur, .ref tr, .ref so, .ref ma, .ref ta, .ref jt, .ref fr, .ref jo, .ref un, .ref su, .int 0, .int 0, .int 0])), (un, .inr (9, [.ref u1, .ref u2, .ref u3, .ref u4, .ref u5, .ref u6, .int 0]))] sz)) 0 0 (va_A [(x, .inr (11, [.ref tp, .ref ou, .ref sa, .ref ur, .ref tr, .ref so, .ref ma, .ref ta, .ref jt, .ref fr, .ref jo, .ref un, .ref su, .int 0, .int 0, .int 0])), (un, .inr (9, [.ref u1, .ref u2, .ref u3, .ref u4, .ref u5, .ref u6, .int 0]))] sz) := by
  refine Met.ofW (cc := cX11_isSystem) (maxL := 2) (ret := (some .boolean)) (by decide) rfl ?_
  intro p e s m args below meth c s₁ B hml hv
  obtain ⟨rfl, hsz, hzX, hP, hK, hD0⟩ := hv
  have hx := B.exec
  have hb := B.bytes
  have hr := B.returns
  have hts := atoms_spec (ws := wsX11_isSystem) B.pre
  have hown : s.vm.findClass RX11 = some m.cls := findClass_of_methodNamed B.named
  have hlocks := B.notSynchronized
  subst hsz
  have hD := hD0.self (sz := s.heap.size)
  generalize hAe : va_A [(x, .inr (11, [.ref tp, .ref ou, .ref sa, .ref ur, .ref tr, .ref so, .ref ma, .ref ta, .ref jt, .ref fr, .ref jo, .ref un, .ref su, .int 0, .int 0, .int 0])), (un, .inr (9, [.ref u1, .ref u2, .ref u3, .ref u4, .ref u5, .ref u6, .int 0]))] s.heap.size = A at  hD ⊢
  have hA : ∀ q : Nat, s.heap.size ≤ q → A q := fun q h => by rw [← hAe]; exact Or.inr h
  have hS : va_S A s.heap s.heap [] := va_S.rf
  have hP : va_P (dC, dI) vwCl [(x, .inr (11, [.ref tp, .ref ou, .ref sa, .ref ur, .ref tr, .ref so, .ref ma, .ref ta, .ref jt, .ref fr, .ref jo, .ref un, .ref su, .int 0, .int 0, .int 0])), (un, .inr (9, [.ref u1, .ref u2, .ref u3, .ref u4, .ref u5, .ref u6, .int 0]))] s.heap := hP
  have hl := lv_entry ([.ref x, .int n1]) (n := 2) (Nat.le_of_ble_eq_true rfl)
  rw [lg_entry_eq]
  generalize (lg_sl ([.ref x, .int n1]) ++ List.replicate (2 - (lg_sl ([.ref x, .int n1])).length) Slot.unset).toArray = ls at hl ⊢
  have hl : lv_has ls 2 [(0, .ref x), (1, .int n1)] := hl
  skip
  refine lv_iload_n hx hb dX11_isSystem_0 rfl (lv_at hl 1 rfl) ?_
  refine lv_if_lt (tgt := 19) hx hb dX11_isSystem_1 (by decide) (fun c_1 => ?_) (fun c_1 => ?_)
  · refine lv_iconst (v := 0) hx hb dX11_isSystem_19 (by decide) ?_
    have hP9 := hP.sub (ws' := [(x, .inr (11, [.ref tp, .ref ou, .ref sa, .ref ur, .ref tr, .ref so, .ref ma, .ref ta, .ref jt, .ref fr, .ref jo, .ref un, .ref su, .int 0, .int 0, .int 0])), (un, .inr (9, [.ref u1, .ref u2, .ref u3, .ref u4, .ref u5, .ref u6, .int 0]))]) [0, 1] rfl
    have hD9 := hD.sub (ws' := [(x, .inr (11, [.ref tp, .ref ou, .ref sa, .ref ur, .ref tr, .ref so, .ref ma, .ref ta, .ref jt, .ref fr, .ref jo, .ref un, .ref su, .int 0, .int 0, .int 0])), (un, .inr (9, [.ref u1, .ref u2, .ref u3, .ref u4, .ref u5, .ref u6, .int 0]))]) [0, 1] (by decide) rfl
    have hK9 := hK.sub (tys' := []) [] rfl
    refine W.widen (k := 0) (n := 0) (Nat.le_of_ble_eq_true rfl) (Nat.le_of_ble_eq_true rfl) ?_
    exact W.zret (v := 0) hx hb hr rfl (fun t ht hW => ⟨⟨0, (), rfl, rfl, by rw [ht]; exact hP9, va_K.moved hW.alike hK9, hD9⟩, hS.F ht⟩) hS.2.2 dX11_isSystem_20
  · refine lv_iload_n hx hb dX11_isSystem_4 rfl (lv_at hl 1 rfl) ?_
    refine lv_aload_n hx hb dX11_isSystem_5 rfl (lv_at hl 0 rfl) ?_
    refine va_get (D := (dC, dI)) (ci := 11) (v := .ref un) (C := RX11) (T := TX11) (N := 16) hx hb hts in_X11_isSystem_X11 hown hK hP 0 rfl rfl 11 (by decide) (hts (.fieldLink RX11 76 "ClayAccounts" "units" "LClayAccounts$Units;") (by decide +kernel)) (fun _ h9 => h9) rfl dX11_isSystem_6 ?_
    refine va_get (D := (dC, dI)) (ci := 9) (v := .int 0) (C := RX9) (T := TX9) (N := 7) hx hb hts in_X11_isSystem_X9 hown hK hP 1 rfl rfl 6 (by decide) (hts (.fieldLink RX11 128 "ClayAccounts$Units" "systemCount" "I") (by decide +kernel)) (fun _ h9 => h9) rfl dX11_isSystem_9 ?_
    refine lv_icmp_ge (tgt := 19) hx hb dX11_isSystem_12 (by decide) (fun c_2 => ?_) (fun c_2 => ?_)
    · refine lv_iconst (v := 0) hx hb dX11_isSystem_19 (by decide) ?_
      have hP9 := hP.sub (ws' := [(x, .inr (11, [.ref tp, .ref ou, .ref sa, .ref ur, .ref tr, .ref so, .ref ma, .ref ta, .ref jt, .ref fr, .ref jo, .ref un, .ref su, .int 0, .int 0, .int 0])), (un, .inr (9, [.ref u1, .ref u2, .ref u3, .ref u4, .ref u5, .ref u6, .int 0]))]) [0, 1] rfl
      have hD9 := hD.sub (ws' := [(x, .inr (11, [.ref tp, .ref ou, .ref sa, .ref ur, .ref tr, .ref so, .ref ma, .ref ta, .ref jt, .ref fr, .ref jo, .ref un, .ref su, .int 0, .int 0, .int 0])), (un, .inr (9, [.ref u1, .ref u2, .ref u3, .ref u4, .ref u5, .ref u6, .int 0]))]) [0, 1] (by decide) rfl
      have hK9 := hK.sub (tys' := []) [] rfl
      refine W.widen (k := 0) (n := 0) (Nat.le_of_ble_eq_true rfl) (Nat.le_of_ble_eq_true rfl) ?_
      exact W.zret (v := 0) hx hb hr rfl (fun t ht hW => ⟨⟨0, (), rfl, rfl, by rw [ht]; exact hP9, va_K.moved hW.alike hK9, hD9⟩, hS.F ht⟩) hS.2.2 dX11_isSystem_20
    · exact absurd (Int32.not_lt.mp c_1) c_2
theorem in_X11_isTablet_X11 : ∀ w ∈ wsX110, w ∈ wsX11_isTablet := fun _ h => List.mem_cons_of_mem _ (List.mem_append_right _ h)
set_option maxHeartbeats 4000000 in
set_option maxRecDepth 100000 in
theorem c_isTablet (l : Launch) (dC : Nat → ClassId) (dI : Nat → Nat → Nat) (x : Nat) (tp : Nat) (ou : Nat) (sa : Nat) (ur : Nat) (tr : Nat) (so : Nat) (ma : Nat) (ta : Nat) (jt : Nat) (fr : Nat) (jo : Nat) (un : Nat) (su : Nat) (n1 : Int32) (sz : Nat)  : Met l yX11_isTablet wsX11_isTablet ({ frames := 0, cells := 0, slots := 0, locals := 0 } : Room) (va_Pc [.ref x, .int n1] (fun U => U.heap.size = sz ∧ zz_X U ∧ va_P (dC, dI) vwCl [(x, .inr (11, [.ref tp, .ref ou, .ref sa, .ref ur, .ref tr, .ref so, .ref ma, .ref ta, .ref jt, .ref fr, .ref jo, .ref un, .ref su, .int 0, .int 0, .int 0]))] U.heap ∧ va_K (dC, dI) vwCl [] U ∧ va_D (fun _ => True) [(x, .inr (11, [.ref tp, .ref ou, .ref sa, .ref ur, .ref tr, .ref so, .ref ma, .ref ta, .ref jt, .ref fr, .ref jo, .ref un, .ref su, .int 0, .int 0, .int 0]))])) (va_Qi (fun (r : Int32) (_ : Unit) => r = 0) (fun (_ : Unit) (t : State) => va_P (dC, dI) vwCl [(x, .inr (11, [.ref tp, .ref ou, .ref sa, .ref ur, .ref tr, .ref so, .ref ma, .ref ta, .ref jt, .ref fr, .ref jo, .ref un, .ref su, .int 0, .int 0, .int 0]))] t.heap ∧ va_K (dC, dI) vwCl [] t ∧ va_D (va_A [(x, .inr (11, [.ref tp, .ref ou, .ref sa, .ref ur, .ref tr, .ref so, .ref ma, .ref ta, .ref jt, .ref fr, .ref jo, .ref un, .ref su, .int 0, .int 0, .int 0]))] sz) [(x, .inr (11, [.ref tp, .ref ou, .ref sa, .ref ur, .ref tr, .ref so, .ref ma, .ref ta, .ref jt, .ref fr, .ref jo, .ref un, .ref su, .int 0, .int 0, .int 0]))]) (va_A [(x, .inr (11, [.ref tp, .ref ou, .ref sa, .ref ur, .ref tr, .ref so, .ref ma, .ref ta, .ref jt, .ref fr, .ref jo, .ref un, .ref su, .int 0, .int 0, .int 0]))] sz)) 0 0 (va_A [(x, .inr (11, [.ref tp, .ref ou, .ref sa, .ref ur, .ref tr, .ref so, .ref ma, .ref ta, .ref jt, .ref fr, .ref jo, .ref un, .ref su, .int 0, .int 0, .int 0]))] sz) := by
  refine Met.ofW (cc := cX11_isTablet) (maxL := 2) (ret := (some .boolean)) (by decide) rfl ?_
  intro p e s m args below meth c s₁ B hml hv
  obtain ⟨rfl, hsz, hzX, hP, hK, hD0⟩ := hv
  have hx := B.exec
  have hb := B.bytes
  have hr := B.returns
  have hts := atoms_spec (ws := wsX11_isTablet) B.pre
  have hown : s.vm.findClass RX11 = some m.cls := findClass_of_methodNamed B.named
  have hlocks := B.notSynchronized
  subst hsz
  have hD := hD0.self (sz := s.heap.size)
  generalize hAe : va_A [(x, .inr (11, [.ref tp, .ref ou, .ref sa, .ref ur, .ref tr, .ref so, .ref ma, .ref ta, .ref jt, .ref fr, .ref jo, .ref un, .ref su, .int 0, .int 0, .int 0]))] s.heap.size = A at  hD ⊢
  have hA : ∀ q : Nat, s.heap.size ≤ q → A q := fun q h => by rw [← hAe]; exact Or.inr h
  have hS : va_S A s.heap s.heap [] := va_S.rf
  have hP : va_P (dC, dI) vwCl [(x, .inr (11, [.ref tp, .ref ou, .ref sa, .ref ur, .ref tr, .ref so, .ref ma, .ref ta, .ref jt, .ref fr, .ref jo, .ref un, .ref su, .int 0, .int 0, .int 0]))] s.heap := hP
  have hl := lv_entry ([.ref x, .int n1]) (n := 2) (Nat.le_of_ble_eq_true rfl)
  rw [lg_entry_eq]
  generalize (lg_sl ([.ref x, .int n1]) ++ List.replicate (2 - (lg_sl ([.ref x, .int n1])).length) Slot.unset).toArray = ls at hl ⊢
  have hl : lv_has ls 2 [(0, .ref x), (1, .int n1)] := hl
  skip
  refine lv_iload_n hx hb dX11_isTablet_0 rfl (lv_at hl 1 rfl) ?_
  refine lv_if_lt (tgt := 16) hx hb dX11_isTablet_1 (by decide) (fun c_1 => ?_) (fun c_1 => ?_)
  · refine lv_iconst (v := 0) hx hb dX11_isTablet_16 (by decide) ?_
    have hP9 := hP.sub (ws' := [(x, .inr (11, [.ref tp, .ref ou, .ref sa, .ref ur, .ref tr, .ref so, .ref ma, .ref ta, .ref jt, .ref fr, .ref jo, .ref un, .ref su, .int 0, .int 0, .int 0]))]) [0] rfl
    have hD9 := hD.sub (ws' := [(x, .inr (11, [.ref tp, .ref ou, .ref sa, .ref ur, .ref tr, .ref so, .ref ma, .ref ta, .ref jt, .ref fr, .ref jo, .ref un, .ref su, .int 0, .int 0, .int 0]))]) [0] (by decide) rfl
    have hK9 := hK.sub (tys' := []) [] rfl
    refine W.widen (k := 0) (n := 0) (Nat.le_of_ble_eq_true rfl) (Nat.le_of_ble_eq_true rfl) ?_
    exact W.zret (v := 0) hx hb hr rfl (fun t ht hW => ⟨⟨0, (), rfl, rfl, by rw [ht]; exact hP9, va_K.moved hW.alike hK9, hD9⟩, hS.F ht⟩) hS.2.2 dX11_isTablet_17
  · refine lv_iload_n hx hb dX11_isTablet_4 rfl (lv_at hl 1 rfl) ?_
    refine lv_aload_n hx hb dX11_isTablet_5 rfl (lv_at hl 0 rfl) ?_
    refine va_get (D := (dC, dI)) (ci := 11) (v := .int 0) (C := RX11) (T := TX11) (N := 16) hx hb hts in_X11_isTablet_X11 hown hK hP 0 rfl rfl 13 (by decide) (hts (.fieldLink RX11 90 "ClayAccounts" "tabletCount" "I") (by decide +kernel)) (fun _ h9 => h9) rfl dX11_isTablet_6 ?_
    refine lv_icmp_ge (tgt := 16) hx hb dX11_isTablet_9 (by decide) (fun c_2 => ?_) (fun c_2 => ?_)
    · refine lv_iconst (v := 0) hx hb dX11_isTablet_16 (by decide) ?_
      have hP9 := hP.sub (ws' := [(x, .inr (11, [.ref tp, .ref ou, .ref sa, .ref ur, .ref tr, .ref so, .ref ma, .ref ta, .ref jt, .ref fr, .ref jo, .ref un, .ref su, .int 0, .int 0, .int 0]))]) [0] rfl
      have hD9 := hD.sub (ws' := [(x, .inr (11, [.ref tp, .ref ou, .ref sa, .ref ur, .ref tr, .ref so, .ref ma, .ref ta, .ref jt, .ref fr, .ref jo, .ref un, .ref su, .int 0, .int 0, .int 0]))]) [0] (by decide) rfl
      have hK9 := hK.sub (tys' := []) [] rfl
      refine W.widen (k := 0) (n := 0) (Nat.le_of_ble_eq_true rfl) (Nat.le_of_ble_eq_true rfl) ?_
      exact W.zret (v := 0) hx hb hr rfl (fun t ht hW => ⟨⟨0, (), rfl, rfl, by rw [ht]; exact hP9, va_K.moved hW.alike hK9, hD9⟩, hS.F ht⟩) hS.2.2 dX11_isTablet_17
    · exact absurd (Int32.not_lt.mp c_1) c_2
set_option maxHeartbeats 4000000 in
set_option maxRecDepth 100000 in
theorem c_isLine (l : Launch) (dC : Nat → ClassId) (dI : Nat → Nat → Nat) (x : Nat) (tp : Nat) (ou : Nat) (sa : Nat) (ur : Nat) (tr : Nat) (so : Nat) (ma : Nat) (ta : Nat) (jt : Nat) (fr : Nat) (jo : Nat) (un : Nat) (su : Nat) (n1 : Int32) (n2 : Int32) (sz : Nat)  : Met l yX11_isLine wsX11_isLine ({ frames := 1, cells := 0, slots := 0, locals := 21 } : Room) (va_Pc [.ref x, .int n1, .int n2] (fun U => U.heap.size = sz ∧ zz_X U ∧ va_P (dC, dI) vwCl [(x, .inr (11, [.ref tp, .ref ou, .ref sa, .ref ur, .ref tr, .ref so, .ref ma, .ref ta, .ref jt, .ref fr, .ref jo, .ref un, .ref su, .int 0, .int 0, .int 0]))] U.heap ∧ va_K (dC, dI) vwCl [] U ∧ va_D (fun _ => True) [(x, .inr (11, [.ref tp, .ref ou, .ref sa, .ref ur, .ref tr, .ref so, .ref ma, .ref ta, .ref jt, .ref fr, .ref jo, .ref un, .ref su, .int 0, .int 0, .int 0]))])) (va_Qi (fun (r : Int32) (_ : Unit) => r = 0) (fun (_ : Unit) (t : State) => va_P (dC, dI) vwCl [(x, .inr (11, [.ref tp, .ref ou, .ref sa, .ref ur, .ref tr, .ref so, .ref ma, .ref ta, .ref jt, .ref fr, .ref jo, .ref un, .ref su, .int 0, .int 0, .int 0]))] t.heap ∧ va_K (dC, dI) vwCl [] t ∧ va_D (va_A [(x, .inr (11, [.ref tp, .ref ou, .ref sa, .ref ur, .ref tr, .ref so, .ref ma, .ref ta, .ref jt, .ref fr, .ref jo, .ref un, .ref su, .int 0, .int 0, .int 0]))] sz) [(x, .inr (11, [.ref tp, .ref ou, .ref sa, .ref ur, .ref tr, .ref so, .ref ma, .ref ta, .ref jt, .ref fr, .ref jo, .ref un, .ref su, .int 0, .int 0, .int 0]))]) (va_A [(x, .inr (11, [.ref tp, .ref ou, .ref sa, .ref ur, .ref tr, .ref so, .ref ma, .ref ta, .ref jt, .ref fr, .ref jo, .ref un, .ref su, .int 0, .int 0, .int 0]))] sz)) 0 0 (va_A [(x, .inr (11, [.ref tp, .ref ou, .ref sa, .ref ur, .ref tr, .ref so, .ref ma, .ref ta, .ref jt, .ref fr, .ref jo, .ref un, .ref su, .int 0, .int 0, .int 0]))] sz) := by
  refine Met.ofW (cc := cX11_isLine) (maxL := 3) (ret := (some .boolean)) (by decide) rfl ?_
  intro p e s m args below meth c s₁ B hml hv
  obtain ⟨rfl, hsz, hzX, hP, hK, hD0⟩ := hv
  have hx := B.exec
  have hb := B.bytes
  have hr := B.returns
  have hts := atoms_spec (ws := wsX11_isLine) B.pre
  have hown : s.vm.findClass RX11 = some m.cls := findClass_of_methodNamed B.named
  have hlocks := B.notSynchronized
  subst hsz
  have hD := hD0.self (sz := s.heap.size)
  generalize hAe : va_A [(x, .inr (11, [.ref tp, .ref ou, .ref sa, .ref ur, .ref tr, .ref so, .ref ma, .ref ta, .ref jt, .ref fr, .ref jo, .ref un, .ref su, .int 0, .int 0, .int 0]))] s.heap.size = A at  hD ⊢
  have hA : ∀ q : Nat, s.heap.size ≤ q → A q := fun q h => by rw [← hAe]; exact Or.inr h
  have hS : va_S A s.heap s.heap [] := va_S.rf
  have hP : va_P (dC, dI) vwCl [(x, .inr (11, [.ref tp, .ref ou, .ref sa, .ref ur, .ref tr, .ref so, .ref ma, .ref ta, .ref jt, .ref fr, .ref jo, .ref un, .ref su, .int 0, .int 0, .int 0]))] s.heap := hP
  have hl := lv_entry ([.ref x, .int n1, .int n2]) (n := 3) (Nat.le_of_ble_eq_true rfl)
  rw [lg_entry_eq]
  generalize (lg_sl ([.ref x, .int n1, .int n2]) ++ List.replicate (3 - (lg_sl ([.ref x, .int n1, .int n2])).length) Slot.unset).toArray = ls at hl ⊢
  have hl : lv_has ls 3 [(0, .ref x), (1, .int n1), (2, .int n2)] := hl
  skip
  refine lv_aload_n hx hb dX11_isLine_0 rfl (lv_at hl 0 rfl) ?_
  refine lv_iload_n hx hb dX11_isLine_1 rfl (lv_at hl 1 rfl) ?_
  have hPc := hP.sub (ws' := [(x, .inr (11, [.ref tp, .ref ou, .ref sa, .ref ur, .ref tr, .ref so, .ref ma, .ref ta, .ref jt, .ref fr, .ref jo, .ref un, .ref su, .int 0, .int 0, .int 0]))]) [0] rfl
  have hDc := hD.sub (ws' := [(x, .inr (11, [.ref tp, .ref ou, .ref sa, .ref ur, .ref tr, .ref so, .ref ma, .ref ta, .ref jt, .ref fr, .ref jo, .ref un, .ref su, .int 0, .int 0, .int 0]))]) [0] (by decide) rfl
  have hKc := hK.sub (tys' := []) [] rfl
  have hFc := va_free (wc := [(x, .inr (11, [.ref tp, .ref ou, .ref sa, .ref ur, .ref tr, .ref so, .ref ma, .ref ta, .ref jt, .ref fr, .ref jo, .ref un, .ref su, .int 0, .int 0, .int 0]))]) hD hS hA [0] rfl
  refine va_calli (va_runV (As := [.int n1]) (rest := []) ⟨hx, hb, hml, hown, hts⟩ (c_isTablet l dC dI x tp ou sa ur tr so ma ta jt fr jo un su n1 s.heap.size ) (cwV 1 hts gX11_isLine_X11_isTablet rfl rfl rfl (by decide +kernel) ⟨Nat.le_of_ble_eq_true rfl, Nat.le_of_ble_eq_true rfl⟩) ⟨fun a U g mk q => by obtain ⟨q0, q1, qX, qP, qK, qD⟩ := q; exact ⟨q0, q1, zz_X.same (u := U) (U := U.calling g mk a) rfl qX, qP, va_K.moved (u := U) (U := U.calling g mk a) (Vm.Alike.refl U.vm) qK, qD⟩, va_recv hKc hPc (ci := 11) (q0 := 0) rfl rfl, fun U hU hW => ⟨rfl, by rw [hU], zz_X.warm hW hzX, by rw [hU]; exact hPc, va_K.moved hW.alike hKc, hDc.weaken (fun _ _ _ _ => trivial)⟩⟩ rfl rfl hl.1 rfl (lv_room (Nat.le_of_ble_eq_true rfl)) dX11_isLine_2 ⟨Nat.le_of_ble_eq_true rfl, Nat.le_of_ble_eq_true rfl⟩) hS (fun q _ h => hFc q h) hFc (fun r9 u t H1 locs ht hvm hw hB hz1 hk1 hS => ?_)
  obtain ⟨hP1, hK1, hD1⟩ := hB
  rw [ht] at hP1
  have hK1 := va_K.moved hvm.symm hK1
  obtain ⟨hP, hD⟩ := va_join (wr := []) (w1 := [(x, .inr (11, [.ref tp, .ref ou, .ref sa, .ref ur, .ref tr, .ref so, .ref ma, .ref ta, .ref jt, .ref fr, .ref jo, .ref un, .ref su, .int 0, .int 0, .int 0]))]) hP hD [0] [] rfl rfl (by decide) (by decide) hk1 hFc hP1 hD1
  have hK := (hK.sub (tys' := []) [] rfl).app (hK1.sub (tys' := []) [] rfl)
  generalize H1 = H at hP hS ⊢
  have hP : va_P (dC, dI) vwCl [(x, .inr (11, [.ref tp, .ref ou, .ref sa, .ref ur, .ref tr, .ref so, .ref ma, .ref ta, .ref jt, .ref fr, .ref jo, .ref un, .ref su, .int 0, .int 0, .int 0]))] H := hP
  have hD : va_D A [(x, .inr (11, [.ref tp, .ref ou, .ref sa, .ref ur, .ref tr, .ref so, .ref ma, .ref ta, .ref jt, .ref fr, .ref jo, .ref un, .ref su, .int 0, .int 0, .int 0]))] := hD
  have hK : va_K (dC, dI) vwCl [] s := hK
  obtain rfl : r9 = 0 := hw
  refine W.widen (k := 0) (n := 0) (Nat.le_of_ble_eq_true rfl) (Nat.le_of_ble_eq_true rfl) ?_
  refine lv_if_eq (tgt := 29) hx hb dX11_isLine_5 (by decide) (fun c9 => ?_) (fun c9 => absurd (by decide) c9)
  refine lv_iconst (v := 0) hx hb dX11_isLine_29 (by decide) ?_
  have hP9 := hP.sub (ws' := [(x, .inr (11, [.ref tp, .ref ou, .ref sa, .ref ur, .ref tr, .ref so, .ref ma, .ref ta, .ref jt, .ref fr, .ref jo, .ref un, .ref su, .int 0, .int 0, .int 0]))]) [0] rfl
  have hD9 := hD.sub (ws' := [(x, .inr (11, [.ref tp, .ref ou, .ref sa, .ref ur, .ref tr, .ref so, .ref ma, .ref ta, .ref jt, .ref fr, .ref jo, .ref un, .ref su, .int 0, .int 0, .int 0]))]) [0] (by decide) rfl
  have hK9 := hK.sub (tys' := []) [] rfl
  refine W.widen (k := 0) (n := 0) (Nat.le_of_ble_eq_true rfl) (Nat.le_of_ble_eq_true rfl) ?_
  exact W.zret (v := 0) hx hb hr rfl (fun t ht hW => ⟨⟨0, (), rfl, rfl, by rw [ht]; exact hP9, va_K.moved hW.alike hK9, hD9⟩, hS.F ht⟩) hS.2.2 dX11_isLine_30
theorem in_X11_isFragment_X11 : ∀ w ∈ wsX110, w ∈ wsX11_isFragment := fun _ h => List.mem_cons_of_mem _ (List.mem_append_right _ h)
set_option maxHeartbeats 4000000 in
set_option maxRecDepth 100000 in
theorem c_isFragment (l : Launch) (dC : Nat → ClassId) (dI : Nat → Nat → Nat) (x : Nat) (tp : Nat) (ou : Nat) (sa : Nat) (ur : Nat) (tr : Nat) (so : Nat) (ma : Nat) (ta : Nat) (jt : Nat) (fr : Nat) (jo : Nat) (un : Nat) (su : Nat) (n1 : Int32) (sz : Nat)  : Met l yX11_isFragment wsX11_isFragment ({ frames := 0, cells := 0, slots := 0, locals := 0 } : Room) (va_Pc [.ref x, .int n1] (fun U => U.heap.size = sz ∧ zz_X U ∧ va_P (dC, dI) vwCl [(x, .inr (11, [.ref tp, .ref ou, .ref sa, .ref ur, .ref tr, .ref so, .ref ma, .ref ta, .ref jt, .ref fr, .ref jo, .ref un, .ref su, .int 0, .int 0, .int 0]))] U.heap ∧ va_K (dC, dI) vwCl [] U ∧ va_D (fun _ => True) [(x, .inr (11, [.ref tp, .ref ou, .ref sa, .ref ur, .ref tr, .ref so, .ref ma, .ref ta, .ref jt, .ref fr, .ref jo, .ref un, .ref su, .int 0, .int 0, .int 0]))])) (va_Qi (fun (r : Int32) (_ : Unit) => r = 0) (fun (_ : Unit) (t : State) => va_P (dC, dI) vwCl [(x, .inr (11, [.ref tp, .ref ou, .ref sa, .ref ur, .ref tr, .ref so, .ref ma, .ref ta, .ref jt, .ref fr, .ref jo, .ref un, .ref su, .int 0, .int 0, .int 0]))] t.heap ∧ va_K (dC, dI) vwCl [] t ∧ va_D (va_A [(x, .inr (11, [.ref tp, .ref ou, .ref sa, .ref ur, .ref tr, .ref so, .ref ma, .ref ta, .ref jt, .ref fr, .ref jo, .ref un, .ref su, .int 0, .int 0, .int 0]))] sz) [(x, .inr (11, [.ref tp, .ref ou, .ref sa, .ref ur, .ref tr, .ref so, .ref ma, .ref ta, .ref jt, .ref fr, .ref jo, .ref un, .ref su, .int 0, .int 0, .int 0]))]) (va_A [(x, .inr (11, [.ref tp, .ref ou, .ref sa, .ref ur, .ref tr, .ref so, .ref ma, .ref ta, .ref jt, .ref fr, .ref jo, .ref un, .ref su, .int 0, .int 0, .int 0]))] sz)) 0 0 (va_A [(x, .inr (11, [.ref tp, .ref ou, .ref sa, .ref ur, .ref tr, .ref so, .ref ma, .ref ta, .ref jt, .ref fr, .ref jo, .ref un, .ref su, .int 0, .int 0, .int 0]))] sz) := by
  refine Met.ofW (cc := cX11_isFragment) (maxL := 2) (ret := (some .boolean)) (by decide) rfl ?_
  intro p e s m args below meth c s₁ B hml hv
  obtain ⟨rfl, hsz, hzX, hP, hK, hD0⟩ := hv
  have hx := B.exec
  have hb := B.bytes
  have hr := B.returns
  have hts := atoms_spec (ws := wsX11_isFragment) B.pre
  have hown : s.vm.findClass RX11 = some m.cls := findClass_of_methodNamed B.named
  have hlocks := B.notSynchronized
  subst hsz
  have hD := hD0.self (sz := s.heap.size)
  generalize hAe : va_A [(x, .inr (11, [.ref tp, .ref ou, .ref sa, .ref ur, .ref tr, .ref so, .ref ma, .ref ta, .ref jt, .ref fr, .ref jo, .ref un, .ref su, .int 0, .int 0, .int 0]))] s.heap.size = A at  hD ⊢
  have hA : ∀ q : Nat, s.heap.size ≤ q → A q := fun q h => by rw [← hAe]; exact Or.inr h
  have hS : va_S A s.heap s.heap [] := va_S.rf
  have hP : va_P (dC, dI) vwCl [(x, .inr (11, [.ref tp, .ref ou, .ref sa, .ref ur, .ref tr, .ref so, .ref ma, .ref ta, .ref jt, .ref fr, .ref jo, .ref un, .ref su, .int 0, .int 0, .int 0]))] s.heap := hP
  have hl := lv_entry ([.ref x, .int n1]) (n := 2) (Nat.le_of_ble_eq_true rfl)
  rw [lg_entry_eq]
  generalize (lg_sl ([.ref x, .int n1]) ++ List.replicate (2 - (lg_sl ([.ref x, .int n1])).length) Slot.unset).toArray = ls at hl ⊢
  have hl : lv_has ls 2 [(0, .ref x), (1, .int n1)] := hl
  skip
  refine lv_iload_n hx hb dX11_isFragment_0 rfl (lv_at hl 1 rfl) ?_
  refine lv_if_lt (tgt := 16) hx hb dX11_isFragment_1 (by decide) (fun c_1 => ?_) (fun c_1 => ?_)
  · refine lv_iconst (v := 0) hx hb dX11_isFragment_16 (by decide) ?_
    have hP9 := hP.sub (ws' := [(x, .inr (11, [.ref tp, .ref ou, .ref sa, .ref ur, .ref tr, .ref so, .ref ma, .ref ta, .ref jt, .ref fr, .ref jo, .ref un, .ref su, .int 0, .int 0, .int 0]))]) [0] rfl
    have hD9 := hD.sub (ws' := [(x, .inr (11, [.ref tp, .ref ou, .ref sa, .ref ur, .ref tr, .ref so, .ref ma, .ref ta, .ref jt, .ref fr, .ref jo, .ref un, .ref su, .int 0, .int 0, .int 0]))]) [0] (by decide) rfl
    have hK9 := hK.sub (tys' := []) [] rfl
    refine W.widen (k := 0) (n := 0) (Nat.le_of_ble_eq_true rfl) (Nat.le_of_ble_eq_true rfl) ?_
    exact W.zret (v := 0) hx hb hr rfl (fun t ht hW => ⟨⟨0, (), rfl, rfl, by rw [ht]; exact hP9, va_K.moved hW.alike hK9, hD9⟩, hS.F ht⟩) hS.2.2 dX11_isFragment_17
  · refine lv_iload_n hx hb dX11_isFragment_4 rfl (lv_at hl 1 rfl) ?_
    refine lv_aload_n hx hb dX11_isFragment_5 rfl (lv_at hl 0 rfl) ?_
    refine va_get (D := (dC, dI)) (ci := 11) (v := .int 0) (C := RX11) (T := TX11) (N := 16) hx hb hts in_X11_isFragment_X11 hown hK hP 0 rfl rfl 14 (by decide) (hts (.fieldLink RX11 94 "ClayAccounts" "fragmentCount" "I") (by decide +kernel)) (fun _ h9 => h9) rfl dX11_isFragment_6 ?_
    refine lv_icmp_ge (tgt := 16) hx hb dX11_isFragment_9 (by decide) (fun c_2 => ?_) (fun c_2 => ?_)
    · refine lv_iconst (v := 0) hx hb dX11_isFragment_16 (by decide) ?_
      have hP9 := hP.sub (ws' := [(x, .inr (11, [.ref tp, .ref ou, .ref sa, .ref ur, .ref tr, .ref so, .ref ma, .ref ta, .ref jt, .ref fr, .ref jo, .ref un, .ref su, .int 0, .int 0, .int 0]))]) [0] rfl
      have hD9 := hD.sub (ws' := [(x, .inr (11, [.ref tp, .ref ou, .ref sa, .ref ur, .ref tr, .ref so, .ref ma, .ref ta, .ref jt, .ref fr, .ref jo, .ref un, .ref su, .int 0, .int 0, .int 0]))]) [0] (by decide) rfl
      have hK9 := hK.sub (tys' := []) [] rfl
      refine W.widen (k := 0) (n := 0) (Nat.le_of_ble_eq_true rfl) (Nat.le_of_ble_eq_true rfl) ?_
      exact W.zret (v := 0) hx hb hr rfl (fun t ht hW => ⟨⟨0, (), rfl, rfl, by rw [ht]; exact hP9, va_K.moved hW.alike hK9, hD9⟩, hS.F ht⟩) hS.2.2 dX11_isFragment_17
    · exact absurd (Int32.not_lt.mp c_1) c_2
set_option maxHeartbeats 4000000 in
set_option maxRecDepth 100000 in
theorem c_isEdge (l : Launch) (dC : Nat → ClassId) (dI : Nat → Nat → Nat) (n1 : Int32) (sz : Nat)  : Met l yX11_isEdge wsX11_isEdge ({ frames := 0, cells := 0, slots := 0, locals := 0 } : Room) (va_Pc [.int n1] (fun U => U.heap.size = sz ∧ zz_X U ∧ va_P (dC, dI) vwCl [] U.heap ∧ va_K (dC, dI) vwCl [] U ∧ va_D (fun _ => True) [])) (va_Qi (fun (r : Int32) (_ : Unit) => r = zz_edge n1) (fun (_ : Unit) (t : State) => va_P (dC, dI) vwCl [] t.heap ∧ va_K (dC, dI) vwCl [] t ∧ va_D (va_A [] sz) []) (va_A [] sz)) 0 0 (va_A [] sz) := by
  refine Met.ofW (cc := cX11_isEdge) (maxL := 1) (ret := (some .boolean)) (by decide) rfl ?_
  intro p e s m args below meth c s₁ B hml hv
  obtain ⟨rfl, hsz, hzX, hP, hK, hD0⟩ := hv
  have hx := B.exec
  have hb := B.bytes
  have hr := B.returns
  have hts := atoms_spec (ws := wsX11_isEdge) B.pre
  have hown : s.vm.findClass RX11 = some m.cls := findClass_of_methodNamed B.named
  have hlocks := B.notSynchronized
  subst hsz
  have hD := hD0.self (sz := s.heap.size)
  generalize hAe : va_A [] s.heap.size = A at  hD ⊢
  have hA : ∀ q : Nat, s.heap.size ≤ q → A q := fun q h => by rw [← hAe]; exact Or.inr h
  have hS : va_S A s.heap s.heap [] := va_S.rf
  have hP : va_P (dC, dI) vwCl [] s.heap := hP
  have hl := lv_entry ([.int n1]) (n := 1) (Nat.le_of_ble_eq_true rfl)
  rw [lg_entry_eq]
  generalize (lg_sl ([.int n1]) ++ List.replicate (1 - (lg_sl ([.int n1])).length) Slot.unset).toArray = ls at hl ⊢
  have hl : lv_has ls 1 [(0, .int n1)] := hl
  skip
  refine lv_iload_n hx hb dX11_isEdge_0 rfl (lv_at hl 0 rfl) ?_
  refine lv_if_lt (tgt := 15) hx hb dX11_isEdge_1 (by decide) (fun c_1 => ?_) (fun c_1 => ?_)
  · refine lv_iconst (v := 0) hx hb dX11_isEdge_15 (by decide) ?_
    have hP9 := hP.sub (ws' := []) [] rfl
    have hD9 := hD.sub (ws' := []) [] (by decide) rfl
    have hK9 := hK.sub (tys' := []) [] rfl
    refine W.widen (k := 0) (n := 0) (Nat.le_of_ble_eq_true rfl) (Nat.le_of_ble_eq_true rfl) ?_
    exact W.zret (v := 0) hx hb hr rfl (fun t ht hW => ⟨⟨0, (), rfl, (by simp [zz_edge, c_1]), by rw [ht]; exact hP9, va_K.moved hW.alike hK9, hD9⟩, hS.F ht⟩) hS.2.2 dX11_isEdge_16
  · refine lv_iload_n hx hb dX11_isEdge_4 rfl (lv_at hl 0 rfl) ?_
    refine lv_ldcw (v := 99999999) hx hb hown (hts (.constant RX11 263 (99999999)) (by decide +kernel)) dX11_isEdge_5 ?_
    refine lv_icmp_gt (tgt := 15) hx hb dX11_isEdge_8 (by decide) (fun c_2 => ?_) (fun c_2 => ?_)
    · refine lv_iconst (v := 0) hx hb dX11_isEdge_15 (by decide) ?_
      have hP9 := hP.sub (ws' := []) [] rfl
      have hD9 := hD.sub (ws' := []) [] (by decide) rfl
      have hK9 := hK.sub (tys' := []) [] rfl
      refine W.widen (k := 0) (n := 0) (Nat.le_of_ble_eq_true rfl) (Nat.le_of_ble_eq_true rfl) ?_
      exact W.zret (v := 0) hx hb hr rfl (fun t ht hW => ⟨⟨0, (), rfl, (by simp [zz_edge, c_1, c_2]), by rw [ht]; exact hP9, va_K.moved hW.alike hK9, hD9⟩, hS.F ht⟩) hS.2.2 dX11_isEdge_16
    · refine lv_iconst (v := 1) hx hb dX11_isEdge_11 (by decide) ?_
      refine lv_goto (tgt := 16) hx hb dX11_isEdge_12 (by decide) ?_
      have hP9 := hP.sub (ws' := []) [] rfl
      have hD9 := hD.sub (ws' := []) [] (by decide) rfl
      have hK9 := hK.sub (tys' := []) [] rfl
      refine W.widen (k := 0) (n := 0) (Nat.le_of_ble_eq_true rfl) (Nat.le_of_ble_eq_true rfl) ?_
      exact W.zret (v := 1) hx hb hr rfl (fun t ht hW => ⟨⟨1, (), rfl, (by simp [zz_edge, c_1, c_2]), by rw [ht]; exact hP9, va_K.moved hW.alike hK9, hD9⟩, hS.F ht⟩) hS.2.2 dX11_isEdge_16
theorem in_X8_begin_X8 : ∀ w ∈ wsX80, w ∈ wsX8_begin := fun _ h => List.mem_cons_of_mem _ (List.mem_append_right _ h)
set_option maxHeartbeats 4000000 in
set_option maxRecDepth 100000 in
theorem c_begin (l : Launch) (dC : Nat → ClassId) (dI : Nat → Nat → Nat) (tk : Nat) (tt : Nat) (tp : Nat) (sz : Nat)  : Met l yX8_begin wsX8_begin ({ frames := 0, cells := 0, slots := 0, locals := 0 } : Room) (va_Pc [.ref tk, .ref tp, .int 400, .int 0] (fun U => U.heap.size = sz ∧ zz_X U ∧ va_P (dC, dI) vwCl [(tk, .inr (8, [.int 0, .int 0, .long 0, .int 0, .int 0, .int 0, .int 0, .ref tt, .int 0, .int 0, .int 0]))] U.heap ∧ va_K (dC, dI) vwCl [] U ∧ va_D (fun _ => True) [(tk, .inr (8, [.int 0, .int 0, .long 0, .int 0, .int 0, .int 0, .int 0, .ref tt, .int 0, .int 0, .int 0]))])) (va_Qv (fun (_ : Unit) => True) (fun (_ : Unit) (t : State) => va_P (dC, dI) vwCl [(tk, .inr (8, [.int 0, .int 0, .long 0, .int 0, .int 0, .int 0, .int 0, .ref tp, .int 400, .int 0, .int 0]))] t.heap ∧ va_K (dC, dI) vwCl [] t ∧ va_D (va_A [(tk, .inr (8, [.int 0, .int 0, .long 0, .int 0, .int 0, .int 0, .int 0, .ref tt, .int 0, .int 0, .int 0]))] sz) [(tk, .inr (8, [.int 0, .int 0, .long 0, .int 0, .int 0, .int 0, .int 0, .ref tp, .int 400, .int 0, .int 0]))]) (va_A [(tk, .inr (8, [.int 0, .int 0, .long 0, .int 0, .int 0, .int 0, .int 0, .ref tt, .int 0, .int 0, .int 0]))] sz)) 0 0 (va_A [(tk, .inr (8, [.int 0, .int 0, .long 0, .int 0, .int 0, .int 0, .int 0, .ref tt, .int 0, .int 0, .int 0]))] sz) := by
  refine Met.ofW (cc := cX8_begin) (maxL := 4) (ret := none) (by decide) rfl ?_
  intro p e s m args below meth c s₁ B hml hv
  obtain ⟨rfl, hsz, hzX, hP, hK, hD0⟩ := hv
  have hx := B.exec
  have hb := B.bytes
  have hr := B.returns
  have hts := atoms_spec (ws := wsX8_begin) B.pre
  have hown : s.vm.findClass RX8 = some m.cls := findClass_of_methodNamed B.named
  have hlocks := B.notSynchronized
  subst hsz
  have hD := hD0.self (sz := s.heap.size)
  generalize hAe : va_A [(tk, .inr (8, [.int 0, .int 0, .long 0, .int 0, .int 0, .int 0, .int 0, .ref tt, .int 0, .int 0, .int 0]))] s.heap.size = A at  hD ⊢
  have hA : ∀ q : Nat, s.heap.size ≤ q → A q := fun q h => by rw [← hAe]; exact Or.inr h
  have hS : va_S A s.heap s.heap [] := va_S.rf
  have hP : va_P (dC, dI) vwCl [(tk, .inr (8, [.int 0, .int 0, .long 0, .int 0, .int 0, .int 0, .int 0, .ref tt, .int 0, .int 0, .int 0]))] s.heap := hP
  have hl := lv_entry ([.ref tk, .ref tp, .int 400, .int 0]) (n := 4) (Nat.le_of_ble_eq_true rfl)
  rw [lg_entry_eq]
  generalize (lg_sl ([.ref tk, .ref tp, .int 400, .int 0]) ++ List.replicate (4 - (lg_sl ([.ref tk, .ref tp, .int 400, .int 0])).length) Slot.unset).toArray = ls at hl ⊢
  have hl : lv_has ls 4 [(0, .ref tk), (1, .ref tp), (2, .int 400), (3, .int 0)] := hl
  skip
  refine lv_aload_n hx hb dX8_begin_0 rfl (lv_at hl 0 rfl) ?_
  refine lv_aload_n hx hb dX8_begin_1 rfl (lv_at hl 1 rfl) ?_
  refine va_put (D := (dC, dI)) (ci := 8) (v := .ref tp) (ty := .object "ClayAccounts$Text") (C := RX8) (T := TX8) (N := 11) hx hb hts in_X8_begin_X8 tyX8 tyX8_ok nmX8 hown hK hP hD hS 0 rfl rfl 7 (by decide) (hts (.fieldLink RX8 14 "ClayAccounts$Tokens" "text" "LClayAccounts$Text;") (by decide +kernel)) (fun _ h9 => h9) rfl (by decide +kernel) rfl rfl (Nat.le_of_ble_eq_true rfl) dX8_begin_2 (fun H locs hP hD hS => ?_)
  have hP : va_P (dC, dI) vwCl [(tk, .inr (8, [.int 0, .int 0, .long 0, .int 0, .int 0, .int 0, .int 0, .ref tp, .int 0, .int 0, .int 0]))] H := hP
  have hD : va_D A [(tk, .inr (8, [.int 0, .int 0, .long 0, .int 0, .int 0, .int 0, .int 0, .ref tp, .int 0, .int 0, .int 0]))] := hD
  refine lv_aload_n hx hb dX8_begin_5 rfl (lv_at hl 0 rfl) ?_
  refine lv_iload_n hx hb dX8_begin_6 rfl (lv_at hl 2 rfl) ?_
  refine va_put (D := (dC, dI)) (ci := 8) (v := .int 400) (ty := .int) (C := RX8) (T := TX8) (N := 11) hx hb hts in_X8_begin_X8 tyX8 tyX8_ok nmX8 hown hK hP hD hS 0 rfl rfl 8 (by decide) (hts (.fieldLink RX8 20 "ClayAccounts$Tokens" "most" "I") (by decide +kernel)) (fun _ h9 => h9) rfl (by decide +kernel) rfl rfl (Nat.le_of_ble_eq_true rfl) dX8_begin_7 (fun H locs hP hD hS => ?_)
  have hP : va_P (dC, dI) vwCl [(tk, .inr (8, [.int 0, .int 0, .long 0, .int 0, .int 0, .int 0, .int 0, .ref tp, .int 400, .int 0, .int 0]))] H := hP
  have hD : va_D A [(tk, .inr (8, [.int 0, .int 0, .long 0, .int 0, .int 0, .int 0, .int 0, .ref tp, .int 400, .int 0, .int 0]))] := hD
  refine lv_aload_n hx hb dX8_begin_10 rfl (lv_at hl 0 rfl) ?_
  refine lv_iload_n hx hb dX8_begin_11 rfl (lv_at hl 3 rfl) ?_
  refine va_put (D := (dC, dI)) (ci := 8) (v := .int 0) (ty := .boolean) (C := RX8) (T := TX8) (N := 11) hx hb hts in_X8_begin_X8 tyX8 tyX8_ok nmX8 hown hK hP hD hS 0 rfl rfl 9 (by decide) (hts (.fieldLink RX8 24 "ClayAccounts$Tokens" "withBroken" "Z") (by decide +kernel)) (fun _ h9 => h9) rfl (by decide +kernel) rfl rfl (Nat.le_of_ble_eq_true rfl) dX8_begin_12 (fun H locs hP hD hS => ?_)
  have hP : va_P (dC, dI) vwCl [(tk, .inr (8, [.int 0, .int 0, .long 0, .int 0, .int 0, .int 0, .int 0, .ref tp, .int 400, .int 0, .int 0]))] H := hP
  have hD : va_D A [(tk, .inr (8, [.int 0, .int 0, .long 0, .int 0, .int 0, .int 0, .int 0, .ref tp, .int 400, .int 0, .int 0]))] := hD
  refine lv_aload_n hx hb dX8_begin_15 rfl (lv_at hl 0 rfl) ?_
  refine lv_iconst (v := 0) hx hb dX8_begin_16 (by decide) ?_
  refine va_put (D := (dC, dI)) (ci := 8) (v := .int 0) (ty := .int) (C := RX8) (T := TX8) (N := 11) hx hb hts in_X8_begin_X8 tyX8 tyX8_ok nmX8 hown hK hP hD hS 0 rfl rfl 10 (by decide) (hts (.fieldLink RX8 28 "ClayAccounts$Tokens" "at" "I") (by decide +kernel)) (fun _ h9 => h9) rfl (by decide +kernel) rfl rfl (Nat.le_of_ble_eq_true rfl) dX8_begin_17 (fun H locs hP hD hS => ?_)
  have hP : va_P (dC, dI) vwCl [(tk, .inr (8, [.int 0, .int 0, .long 0, .int 0, .int 0, .int 0, .int 0, .ref tp, .int 400, .int 0, .int 0]))] H := hP
  have hD : va_D A [(tk, .inr (8, [.int 0, .int 0, .long 0, .int 0, .int 0, .int 0, .int 0, .ref tp, .int 400, .int 0, .int 0]))] := hD
  refine lv_aload_n hx hb dX8_begin_20 rfl (lv_at hl 0 rfl) ?_
  refine lv_iconst (v := 0) hx hb dX8_begin_21 (by decide) ?_
  refine va_put (D := (dC, dI)) (ci := 8) (v := .int 0) (ty := .int) (C := RX8) (T := TX8) (N := 11) hx hb hts in_X8_begin_X8 tyX8 tyX8_ok nmX8 hown hK hP hD hS 0 rfl rfl 5 (by decide) (hts (.fieldLink RX8 31 "ClayAccounts$Tokens" "fault" "I") (by decide +kernel)) (fun _ h9 => h9) rfl (by decide +kernel) rfl rfl (Nat.le_of_ble_eq_true rfl) dX8_begin_22 (fun H locs hP hD hS => ?_)
  have hP : va_P (dC, dI) vwCl [(tk, .inr (8, [.int 0, .int 0, .long 0, .int 0, .int 0, .int 0, .int 0, .ref tp, .int 400, .int 0, .int 0]))] H := hP
  have hD : va_D A [(tk, .inr (8, [.int 0, .int 0, .long 0, .int 0, .int 0, .int 0, .int 0, .ref tp, .int 400, .int 0, .int 0]))] := hD
  refine lv_aload_n hx hb dX8_begin_25 rfl (lv_at hl 0 rfl) ?_
  refine lv_iconst (v := 0) hx hb dX8_begin_26 (by decide) ?_
  refine va_put (D := (dC, dI)) (ci := 8) (v := .int 0) (ty := .int) (C := RX8) (T := TX8) (N := 11) hx hb hts in_X8_begin_X8 tyX8 tyX8_ok nmX8 hown hK hP hD hS 0 rfl rfl 6 (by decide) (hts (.fieldLink RX8 34 "ClayAccounts$Tokens" "faultPlace" "I") (by decide +kernel)) (fun _ h9 => h9) rfl (by decide +kernel) rfl rfl (Nat.le_of_ble_eq_true rfl) dX8_begin_27 (fun H locs hP hD hS => ?_)
  have hP : va_P (dC, dI) vwCl [(tk, .inr (8, [.int 0, .int 0, .long 0, .int 0, .int 0, .int 0, .int 0, .ref tp, .int 400, .int 0, .int 0]))] H := hP
  have hD : va_D A [(tk, .inr (8, [.int 0, .int 0, .long 0, .int 0, .int 0, .int 0, .int 0, .ref tp, .int 400, .int 0, .int 0]))] := hD
  have hP9 := hP.sub (ws' := [(tk, .inr (8, [.int 0, .int 0, .long 0, .int 0, .int 0, .int 0, .int 0, .ref tp, .int 400, .int 0, .int 0]))]) [0] rfl
  have hD9 := hD.sub (ws' := [(tk, .inr (8, [.int 0, .int 0, .long 0, .int 0, .int 0, .int 0, .int 0, .ref tp, .int 400, .int 0, .int 0]))]) [0] (by decide) rfl
  have hK9 := hK.sub (tys' := []) [] rfl
  refine W.widen (k := 0) (n := 0) (Nat.le_of_ble_eq_true rfl) (Nat.le_of_ble_eq_true rfl) ?_
  exact W.vret hx hb hr (fun t ht hW => ⟨⟨(), rfl, trivial, by rw [ht]; exact hP9, va_K.moved hW.alike hK9, hD9⟩, hS.F ht⟩) hS.2.2 dX8_begin_30
theorem in_X8_refuse_X8 : ∀ w ∈ wsX80, w ∈ wsX8_refuse := fun _ h => List.mem_cons_of_mem _ (List.mem_append_right _ h)
set_option maxHeartbeats 4000000 in
set_option maxRecDepth 100000 in
theorem c_refuse (l : Launch) (dC : Nat → ClassId) (dI : Nat → Nat → Nat) (tk : Nat) (tp : Nat) (sz : Nat)  : Met l yX8_refuse wsX8_refuse ({ frames := 0, cells := 0, slots := 0, locals := 0 } : Room) (va_Pc [.ref tk, .int 1, .int 0] (fun U => U.heap.size = sz ∧ zz_X U ∧ va_P (dC, dI) vwCl [(tk, .inr (8, [.int 0, .int 0, .long 0, .int 0, .int 0, .int 0, .int 0, .ref tp, .int 400, .int 0, .int 0]))] U.heap ∧ va_K (dC, dI) vwCl [] U ∧ va_D (fun _ => True) [(tk, .inr (8, [.int 0, .int 0, .long 0, .int 0, .int 0, .int 0, .int 0, .ref tp, .int 400, .int 0, .int 0]))])) (va_Qi (fun (r : Int32) (_ : Unit) => r = 0) (fun (_ : Unit) (t : State) => va_P (dC, dI) vwCl [(tk, .inr (8, [.int 0, .int 0, .long 0, .int 0, .int 0, .int 1, .int 0, .ref tp, .int 400, .int 0, .int 0]))] t.heap ∧ va_K (dC, dI) vwCl [] t ∧ va_D (va_A [(tk, .inr (8, [.int 0, .int 0, .long 0, .int 0, .int 0, .int 0, .int 0, .ref tp, .int 400, .int 0, .int 0]))] sz) [(tk, .inr (8, [.int 0, .int 0, .long 0, .int 0, .int 0, .int 1, .int 0, .ref tp, .int 400, .int 0, .int 0]))]) (va_A [(tk, .inr (8, [.int 0, .int 0, .long 0, .int 0, .int 0, .int 0, .int 0, .ref tp, .int 400, .int 0, .int 0]))] sz)) 0 0 (va_A [(tk, .inr (8, [.int 0, .int 0, .long 0, .int 0, .int 0, .int 0, .int 0, .ref tp, .int 400, .int 0, .int 0]))] sz) := by
  refine Met.ofW (cc := cX8_refuse) (maxL := 3) (ret := (some .boolean)) (by decide) rfl ?_
  intro p e s m args below meth c s₁ B hml hv
  obtain ⟨rfl, hsz, hzX, hP, hK, hD0⟩ := hv
  have hx := B.exec
  have hb := B.bytes
  have hr := B.returns
  have hts := atoms_spec (ws := wsX8_refuse) B.pre
  have hown : s.vm.findClass RX8 = some m.cls := findClass_of_methodNamed B.named
  have hlocks := B.notSynchronized
  subst hsz
  have hD := hD0.self (sz := s.heap.size)
  generalize hAe : va_A [(tk, .inr (8, [.int 0, .int 0, .long 0, .int 0, .int 0, .int 0, .int 0, .ref tp, .int 400, .int 0, .int 0]))] s.heap.size = A at  hD ⊢
  have hA : ∀ q : Nat, s.heap.size ≤ q → A q := fun q h => by rw [← hAe]; exact Or.inr h
  have hS : va_S A s.heap s.heap [] := va_S.rf
  have hP : va_P (dC, dI) vwCl [(tk, .inr (8, [.int 0, .int 0, .long 0, .int 0, .int 0, .int 0, .int 0, .ref tp, .int 400, .int 0, .int 0]))] s.heap := hP
  have hl := lv_entry ([.ref tk, .int 1, .int 0]) (n := 3) (Nat.le_of_ble_eq_true rfl)
  rw [lg_entry_eq]
  generalize (lg_sl ([.ref tk, .int 1, .int 0]) ++ List.replicate (3 - (lg_sl ([.ref tk, .int 1, .int 0])).length) Slot.unset).toArray = ls at hl ⊢
  have hl : lv_has ls 3 [(0, .ref tk), (1, .int 1), (2, .int 0)] := hl
  skip
  refine lv_aload_n hx hb dX8_refuse_0 rfl (lv_at hl 0 rfl) ?_
  refine lv_iload_n hx hb dX8_refuse_1 rfl (lv_at hl 1 rfl) ?_
  refine va_put (D := (dC, dI)) (ci := 8) (v := .int 1) (ty := .int) (C := RX8) (T := TX8) (N := 11) hx hb hts in_X8_refuse_X8 tyX8 tyX8_ok nmX8 hown hK hP hD hS 0 rfl rfl 5 (by decide) (hts (.fieldLink RX8 31 "ClayAccounts$Tokens" "fault" "I") (by decide +kernel)) (fun _ h9 => h9) rfl (by decide +kernel) rfl rfl (Nat.le_of_ble_eq_true rfl) dX8_refuse_2 (fun H locs hP hD hS => ?_)
  have hP : va_P (dC, dI) vwCl [(tk, .inr (8, [.int 0, .int 0, .long 0, .int 0, .int 0, .int 1, .int 0, .ref tp, .int 400, .int 0, .int 0]))] H := hP
  have hD : va_D A [(tk, .inr (8, [.int 0, .int 0, .long 0, .int 0, .int 0, .int 1, .int 0, .ref tp, .int 400, .int 0, .int 0]))] := hD
  refine lv_aload_n hx hb dX8_refuse_5 rfl (lv_at hl 0 rfl) ?_
  refine lv_iload_n hx hb dX8_refuse_6 rfl (lv_at hl 2 rfl) ?_
  refine va_put (D := (dC, dI)) (ci := 8) (v := .int 0) (ty := .int) (C := RX8) (T := TX8) (N := 11) hx hb hts in_X8_refuse_X8 tyX8 tyX8_ok nmX8 hown hK hP hD hS 0 rfl rfl 6 (by decide) (hts (.fieldLink RX8 34 "ClayAccounts$Tokens" "faultPlace" "I") (by decide +kernel)) (fun _ h9 => h9) rfl (by decide +kernel) rfl rfl (Nat.le_of_ble_eq_true rfl) dX8_refuse_7 (fun H locs hP hD hS => ?_)
  have hP : va_P (dC, dI) vwCl [(tk, .inr (8, [.int 0, .int 0, .long 0, .int 0, .int 0, .int 1, .int 0, .ref tp, .int 400, .int 0, .int 0]))] H := hP
  have hD : va_D A [(tk, .inr (8, [.int 0, .int 0, .long 0, .int 0, .int 0, .int 1, .int 0, .ref tp, .int 400, .int 0, .int 0]))] := hD
  refine lv_iconst (v := 0) hx hb dX8_refuse_10 (by decide) ?_
  have hP9 := hP.sub (ws' := [(tk, .inr (8, [.int 0, .int 0, .long 0, .int 0, .int 0, .int 1, .int 0, .ref tp, .int 400, .int 0, .int 0]))]) [0] rfl
  have hD9 := hD.sub (ws' := [(tk, .inr (8, [.int 0, .int 0, .long 0, .int 0, .int 0, .int 1, .int 0, .ref tp, .int 400, .int 0, .int 0]))]) [0] (by decide) rfl
  have hK9 := hK.sub (tys' := []) [] rfl
  refine W.widen (k := 0) (n := 0) (Nat.le_of_ble_eq_true rfl) (Nat.le_of_ble_eq_true rfl) ?_
  exact W.zret (v := 0) hx hb hr rfl (fun t ht hW => ⟨⟨0, (), rfl, rfl, by rw [ht]; exact hP9, va_K.moved hW.alike hK9, hD9⟩, hS.F ht⟩) hS.2.2 dX8_refuse_11
theorem in_X8_endsWell_X8 : ∀ w ∈ wsX80, w ∈ wsX8_endsWell := fun _ h => List.mem_cons_of_mem _ (List.mem_append_left _ (List.mem_append_right _ h))
set_option maxHeartbeats 4000000 in
set_option maxRecDepth 100000 in
theorem c_endsWell (l : Launch) (dC : Nat → ClassId) (dI : Nat → Nat → Nat) (tk : Nat) (tp : Nat) (sz : Nat)  : Met l yX8_endsWell wsX8_endsWell ({ frames := 1, cells := 0, slots := 0, locals := 22 } : Room) (va_Pc [.ref tk, .int 0] (fun U => U.heap.size = sz ∧ zz_X U ∧ va_P (dC, dI) vwCl [(tk, .inr (8, [.int 0, .int 0, .long 0, .int 0, .int 0, .int 0, .int 0, .ref tp, .int 400, .int 0, .int 0]))] U.heap ∧ va_K (dC, dI) vwCl [] U ∧ va_D (fun _ => True) [(tk, .inr (8, [.int 0, .int 0, .long 0, .int 0, .int 0, .int 0, .int 0, .ref tp, .int 400, .int 0, .int 0]))])) (va_Qi (fun (r : Int32) (_ : Unit) => r = 0) (fun (_ : Unit) (t : State) => va_P (dC, dI) vwCl [(tk, .inr (8, [.int 0, .int 0, .long 0, .int 0, .int 0, .int 1, .int 0, .ref tp, .int 400, .int 0, .int 0]))] t.heap ∧ va_K (dC, dI) vwCl [] t ∧ va_D (va_A [(tk, .inr (8, [.int 0, .int 0, .long 0, .int 0, .int 0, .int 0, .int 0, .ref tp, .int 400, .int 0, .int 0]))] sz) [(tk, .inr (8, [.int 0, .int 0, .long 0, .int 0, .int 0, .int 1, .int 0, .ref tp, .int 400, .int 0, .int 0]))]) (va_A [(tk, .inr (8, [.int 0, .int 0, .long 0, .int 0, .int 0, .int 0, .int 0, .ref tp, .int 400, .int 0, .int 0]))] sz)) 0 0 (va_A [(tk, .inr (8, [.int 0, .int 0, .long 0, .int 0, .int 0, .int 0, .int 0, .ref tp, .int 400, .int 0, .int 0]))] sz) := by
  refine Met.ofW (cc := cX8_endsWell) (maxL := 2) (ret := (some .boolean)) (by decide) rfl ?_
  intro p e s m args below meth c s₁ B hml hv
  obtain ⟨rfl, hsz, hzX, hP, hK, hD0⟩ := hv
  have hx := B.exec
  have hb := B.bytes
  have hr := B.returns
  have hts := atoms_spec (ws := wsX8_endsWell) B.pre
  have hown : s.vm.findClass RX8 = some m.cls := findClass_of_methodNamed B.named
  have hlocks := B.notSynchronized
  subst hsz
  have hD := hD0.self (sz := s.heap.size)
  generalize hAe : va_A [(tk, .inr (8, [.int 0, .int 0, .long 0, .int 0, .int 0, .int 0, .int 0, .ref tp, .int 400, .int 0, .int 0]))] s.heap.size = A at  hD ⊢
  have hA : ∀ q : Nat, s.heap.size ≤ q → A q := fun q h => by rw [← hAe]; exact Or.inr h
  have hS : va_S A s.heap s.heap [] := va_S.rf
  have hP : va_P (dC, dI) vwCl [(tk, .inr (8, [.int 0, .int 0, .long 0, .int 0, .int 0, .int 0, .int 0, .ref tp, .int 400, .int 0, .int 0]))] s.heap := hP
  have hl := lv_entry ([.ref tk, .int 0]) (n := 2) (Nat.le_of_ble_eq_true rfl)
  rw [lg_entry_eq]
  generalize (lg_sl ([.ref tk, .int 0]) ++ List.replicate (2 - (lg_sl ([.ref tk, .int 0])).length) Slot.unset).toArray = ls at hl ⊢
  have hl : lv_has ls 2 [(0, .ref tk), (1, .int 0)] := hl
  skip
  refine lv_iload_n hx hb dX8_endsWell_0 rfl (lv_at hl 1 rfl) ?_
  refine lv_if_le (tgt := 18) hx hb dX8_endsWell_1 (by decide) (fun c9 => ?_) (fun c9 => absurd (by decide) c9)
  refine lv_aload_n hx hb dX8_endsWell_18 rfl (lv_at hl 0 rfl) ?_
  refine lv_iconst (v := 1) hx hb dX8_endsWell_19 (by decide) ?_
  refine lv_aload_n hx hb dX8_endsWell_20 rfl (lv_at hl 0 rfl) ?_
  refine va_get (D := (dC, dI)) (ci := 8) (v := .int 0) (C := RX8) (T := TX8) (N := 11) hx hb hts in_X8_endsWell_X8 hown hK hP 0 rfl rfl 1 (by decide) (hts (.fieldLink RX8 40 "ClayAccounts$Tokens" "place" "I") (by decide +kernel)) (fun _ h9 => h9) rfl dX8_endsWell_21 ?_
  have hPc := hP.sub (ws' := [(tk, .inr (8, [.int 0, .int 0, .long 0, .int 0, .int 0, .int 0, .int 0, .ref tp, .int 400, .int 0, .int 0]))]) [0] rfl
  have hDc := hD.sub (ws' := [(tk, .inr (8, [.int 0, .int 0, .long 0, .int 0, .int 0, .int 0, .int 0, .ref tp, .int 400, .int 0, .int 0]))]) [0] (by decide) rfl
  have hKc := hK.sub (tys' := []) [] rfl
  have hFc := va_free (wc := [(tk, .inr (8, [.int 0, .int 0, .long 0, .int 0, .int 0, .int 0, .int 0, .ref tp, .int 400, .int 0, .int 0]))]) hD hS hA [0] rfl
  refine va_calli (va_runV (As := [.int 1, .int 0]) (rest := []) ⟨hx, hb, hml, hown, hts⟩ (c_refuse l dC dI tk tp s.heap.size ) (cwV 2 hts gX8_endsWell_X8_refuse rfl rfl rfl (by decide +kernel) ⟨Nat.le_of_ble_eq_true rfl, Nat.le_of_ble_eq_true rfl⟩) ⟨fun a U g mk q => by obtain ⟨q0, q1, qX, qP, qK, qD⟩ := q; exact ⟨q0, q1, zz_X.same (u := U) (U := U.calling g mk a) rfl qX, qP, va_K.moved (u := U) (U := U.calling g mk a) (Vm.Alike.refl U.vm) qK, qD⟩, va_recv hKc hPc (ci := 8) (q0 := 0) rfl rfl, fun U hU hW => ⟨rfl, by rw [hU], zz_X.warm hW hzX, by rw [hU]; exact hPc, va_K.moved hW.alike hKc, hDc.weaken (fun _ _ _ _ => trivial)⟩⟩ rfl rfl hl.1 rfl (lv_room (Nat.le_of_ble_eq_true rfl)) dX8_endsWell_24 ⟨Nat.le_of_ble_eq_true rfl, Nat.le_of_ble_eq_true rfl⟩) hS (fun q _ h => hFc q h) hFc (fun r9 u t H1 locs ht hvm hw hB hz1 hk1 hS => ?_)
  obtain ⟨hP1, hK1, hD1⟩ := hB
  rw [ht] at hP1
  have hK1 := va_K.moved hvm.symm hK1
  obtain ⟨hP, hD⟩ := va_join (wr := []) (w1 := [(tk, .inr (8, [.int 0, .int 0, .long 0, .int 0, .int 0, .int 1, .int 0, .ref tp, .int 400, .int 0, .int 0]))]) hP hD [0] [] rfl rfl (by decide) (by decide) hk1 hFc hP1 hD1
  have hK := (hK.sub (tys' := []) [] rfl).app (hK1.sub (tys' := []) [] rfl)
  generalize H1 = H at hP hS ⊢
  have hP : va_P (dC, dI) vwCl [(tk, .inr (8, [.int 0, .int 0, .long 0, .int 0, .int 0, .int 1, .int 0, .ref tp, .int 400, .int 0, .int 0]))] H := hP
  have hD : va_D A [(tk, .inr (8, [.int 0, .int 0, .long 0, .int 0, .int 0, .int 1, .int 0, .ref tp, .int 400, .int 0, .int 0]))] := hD
  have hK : va_K (dC, dI) vwCl [] s := hK
  obtain rfl : r9 = 0 := hw
  refine W.widen (k := 0) (n := 0) (Nat.le_of_ble_eq_true rfl) (Nat.le_of_ble_eq_true rfl) ?_
  refine lv_if_eq (tgt := 34) hx hb dX8_endsWell_27 (by decide) (fun c9 => ?_) (fun c9 => absurd (by decide) c9)
  refine lv_iconst (v := 0) hx hb dX8_endsWell_34 (by decide) ?_
  have hP9 := hP.sub (ws' := [(tk, .inr (8, [.int 0, .int 0, .long 0, .int 0, .int 0, .int 1, .int 0, .ref tp, .int 400, .int 0, .int 0]))]) [0] rfl
  have hD9 := hD.sub (ws' := [(tk, .inr (8, [.int 0, .int 0, .long 0, .int 0, .int 0, .int 1, .int 0, .ref tp, .int 400, .int 0, .int 0]))]) [0] (by decide) rfl
  have hK9 := hK.sub (tys' := []) [] rfl
  refine W.widen (k := 0) (n := 0) (Nat.le_of_ble_eq_true rfl) (Nat.le_of_ble_eq_true rfl) ?_
  exact W.zret (v := 0) hx hb hr rfl (fun t ht hW => ⟨⟨0, (), rfl, rfl, by rw [ht]; exact hP9, va_K.moved hW.alike hK9, hD9⟩, hS.F ht⟩) hS.2.2 dX8_endsWell_35
theorem in_X8_advance_X7 : ∀ w ∈ wsX70, w ∈ wsX8_advance := fun _ h => List.mem_cons_of_mem _ (List.mem_append_right _ h)
theorem in_X8_advance_X8 : ∀ w ∈ wsX80, w ∈ wsX8_advance := fun _ h => List.mem_cons_of_mem _ (List.mem_append_left _ (List.mem_append_right _ h))
set_option maxHeartbeats 4000000 in
set_option maxRecDepth 100000 in
theorem c_advance (l : Launch) (dC : Nat → ClassId) (dI : Nat → Nat → Nat) (tk : Nat) (tp : Nat) (tb : Nat) (sz : Nat)  : Met l yX8_advance wsX8_advance ({ frames := 1, cells := 0, slots := 0, locals := 17 } : Room) (va_Pc [.ref tk] (fun U => U.heap.size = sz ∧ zz_X U ∧ va_P (dC, dI) vwCl [(tk, .inr (8, [.int 0, .int 0, .long 0, .int 0, .int 0, .int 0, .int 0, .ref tp, .int 400, .int 0, .int 0])), (tp, .inr (7, [.ref tb, .int 0]))] U.heap ∧ va_K (dC, dI) vwCl [] U ∧ va_D (fun _ => True) [(tk, .inr (8, [.int 0, .int 0, .long 0, .int 0, .int 0, .int 0, .int 0, .ref tp, .int 400, .int 0, .int 0])), (tp, .inr (7, [.ref tb, .int 0]))])) (va_Qv (fun (_ : Unit) => True) (fun (_ : Unit) (t : State) => va_P (dC, dI) vwCl [(tk, .inr (8, [.int 0, .int 0, .long 0, .int 0, .int 0, .int 0, .int 0, .ref tp, .int 400, .int 0, .int 0])), (tp, .inr (7, [.ref tb, .int 0]))] t.heap ∧ va_K (dC, dI) vwCl [] t ∧ va_D (va_A [(tk, .inr (8, [.int 0, .int 0, .long 0, .int 0, .int 0, .int 0, .int 0, .ref tp, .int 400, .int 0, .int 0])), (tp, .inr (7, [.ref tb, .int 0]))] sz) [(tk, .inr (8, [.int 0, .int 0, .long 0, .int 0, .int 0, .int 0, .int 0, .ref tp, .int 400, .int 0, .int 0])), (tp, .inr (7, [.ref tb, .int 0]))]) (va_A [(tk, .inr (8, [.int 0, .int 0, .long 0, .int 0, .int 0, .int 0, .int 0, .ref tp, .int 400, .int 0, .int 0])), (tp, .inr (7, [.ref tb, .int 0]))] sz)) 0 0 (va_A [(tk, .inr (8, [.int 0, .int 0, .long 0, .int 0, .int 0, .int 0, .int 0, .ref tp, .int 400, .int 0, .int 0])), (tp, .inr (7, [.ref tb, .int 0]))] sz) := by
  refine Met.ofW (cc := cX8_advance) (maxL := 3) (ret := none) (by decide) rfl ?_
  intro p e s m args below meth c s₁ B hml hv
  obtain ⟨rfl, hsz, hzX, hP, hK, hD0⟩ := hv
  have hx := B.exec
  have hb := B.bytes
  have hr := B.returns
  have hts := atoms_spec (ws := wsX8_advance) B.pre
  have hown : s.vm.findClass RX8 = some m.cls := findClass_of_methodNamed B.named
  have hlocks := B.notSynchronized
  subst hsz
  have hD := hD0.self (sz := s.heap.size)
  generalize hAe : va_A [(tk, .inr (8, [.int 0, .int 0, .long 0, .int 0, .int 0, .int 0, .int 0, .ref tp, .int 400, .int 0, .int 0])), (tp, .inr (7, [.ref tb, .int 0]))] s.heap.size = A at  hD ⊢
  have hA : ∀ q : Nat, s.heap.size ≤ q → A q := fun q h => by rw [← hAe]; exact Or.inr h
  have hS : va_S A s.heap s.heap [] := va_S.rf
  have hP : va_P (dC, dI) vwCl [(tk, .inr (8, [.int 0, .int 0, .long 0, .int 0, .int 0, .int 0, .int 0, .ref tp, .int 400, .int 0, .int 0])), (tp, .inr (7, [.ref tb, .int 0]))] s.heap := hP
  have hl := lv_entry ([.ref tk]) (n := 3) (Nat.le_of_ble_eq_true rfl)
  rw [lg_entry_eq]
  generalize (lg_sl ([.ref tk]) ++ List.replicate (3 - (lg_sl ([.ref tk])).length) Slot.unset).toArray = ls at hl ⊢
  have hl : lv_has ls 3 [(0, .ref tk)] := hl
  skip
  refine lv_aload_n hx hb dX8_advance_0 rfl (lv_at hl 0 rfl) ?_
  refine va_get (D := (dC, dI)) (ci := 8) (v := .ref tp) (C := RX8) (T := TX8) (N := 11) hx hb hts in_X8_advance_X8 hown hK hP 0 rfl rfl 7 (by decide) (hts (.fieldLink RX8 14 "ClayAccounts$Tokens" "text" "LClayAccounts$Text;") (by decide +kernel)) (fun _ h9 => h9) rfl dX8_advance_1 ?_
  refine va_get (D := (dC, dI)) (ci := 7) (v := .int 0) (C := RX7) (T := TX7) (N := 2) hx hb hts in_X8_advance_X7 hown hK hP 1 rfl rfl 1 (by decide) (hts (.fieldLink RX8 43 "ClayAccounts$Text" "size" "I") (by decide +kernel)) (fun _ h9 => h9) rfl dX8_advance_4 ?_
  refine lv_aload_n hx hb dX8_advance_7 rfl (lv_at hl 0 rfl) ?_
  refine va_get (D := (dC, dI)) (ci := 8) (v := .int 400) (C := RX8) (T := TX8) (N := 11) hx hb hts in_X8_advance_X8 hown hK hP 0 rfl rfl 8 (by decide) (hts (.fieldLink RX8 20 "ClayAccounts$Tokens" "most" "I") (by decide +kernel)) (fun _ h9 => h9) rfl dX8_advance_8 ?_
  refine va_mmin hx hb (by rw [hml]; exact hl.1.symm) hown (hts (.methodLink RX8 50 Lib.Math.min.name) (by decide +kernel)) (hts (.static Lib.Math.min.name) (by decide +kernel)) (hts (.initialized "java/lang/Math") (by decide +kernel)) (hts (.code Lib.Math.min.name Lib.Math.min.code 2 (some .int)) (by decide +kernel)) (Nat.le_of_ble_eq_true rfl) (Nat.le_of_ble_eq_true rfl) (Nat.le_of_ble_eq_true rfl) (Nat.le_of_ble_eq_true rfl) dX8_advance_11 ?_
  refine zz_top (y := 0) (by decide) ?_
  refine lv_istore_n (lv' := [(1, .int 0), (0, .ref tk)]) hx hb dX8_advance_14 rfl hl (by decide) rfl (fun ls hl => ?_)
  refine lv_aload_n hx hb dX8_advance_15 rfl (lv_at hl 1 rfl) ?_
  refine va_get (D := (dC, dI)) (ci := 8) (v := .int 0) (C := RX8) (T := TX8) (N := 11) hx hb hts in_X8_advance_X8 hown hK hP 0 rfl rfl 10 (by decide) (hts (.fieldLink RX8 28 "ClayAccounts$Tokens" "at" "I") (by decide +kernel)) (fun _ h9 => h9) rfl dX8_advance_16 ?_
  refine lv_iload_n hx hb dX8_advance_19 rfl (lv_at hl 0 rfl) ?_
  refine lv_icmp_ge (tgt := 53) hx hb dX8_advance_20 (by decide) (fun c9 => ?_) (fun c9 => absurd (by decide) c9)
  refine lv_aload_n hx hb dX8_advance_53 rfl (lv_at hl 1 rfl) ?_
  refine va_get (D := (dC, dI)) (ci := 8) (v := .int 0) (C := RX8) (T := TX8) (N := 11) hx hb hts in_X8_advance_X8 hown hK hP 0 rfl rfl 10 (by decide) (hts (.fieldLink RX8 28 "ClayAccounts$Tokens" "at" "I") (by decide +kernel)) (fun _ h9 => h9) rfl dX8_advance_54 ?_
  refine lv_iload_n hx hb dX8_advance_57 rfl (lv_at hl 0 rfl) ?_
  refine lv_icmp_lt (tgt := 72) hx hb dX8_advance_58 (by decide) (fun c9 => absurd c9 (by decide)) (fun c9 => ?_)
  refine lv_aload_n hx hb dX8_advance_61 rfl (lv_at hl 1 rfl) ?_
  refine lv_iconst (v := 0) hx hb dX8_advance_62 (by decide) ?_
  refine va_put (D := (dC, dI)) (ci := 8) (v := .int 0) (ty := .int) (C := RX8) (T := TX8) (N := 11) hx hb hts in_X8_advance_X8 tyX8 tyX8_ok nmX8 hown hK hP hD hS 0 rfl rfl 0 (by decide) (hts (.fieldLink RX8 37 "ClayAccounts$Tokens" "kind" "I") (by decide +kernel)) (fun _ h9 => h9) rfl (by decide +kernel) rfl rfl (Nat.le_of_ble_eq_true rfl) dX8_advance_63 (fun H locs hP hD hS => ?_)
  have hP : va_P (dC, dI) vwCl [(tk, .inr (8, [.int 0, .int 0, .long 0, .int 0, .int 0, .int 0, .int 0, .ref tp, .int 400, .int 0, .int 0])), (tp, .inr (7, [.ref tb, .int 0]))] H := hP
  have hD : va_D A [(tk, .inr (8, [.int 0, .int 0, .long 0, .int 0, .int 0, .int 0, .int 0, .ref tp, .int 400, .int 0, .int 0])), (tp, .inr (7, [.ref tb, .int 0]))] := hD
  refine lv_aload_n hx hb dX8_advance_66 rfl (lv_at hl 1 rfl) ?_
  refine lv_iload_n hx hb dX8_advance_67 rfl (lv_at hl 0 rfl) ?_
  refine va_put (D := (dC, dI)) (ci := 8) (v := .int 0) (ty := .int) (C := RX8) (T := TX8) (N := 11) hx hb hts in_X8_advance_X8 tyX8 tyX8_ok nmX8 hown hK hP hD hS 0 rfl rfl 1 (by decide) (hts (.fieldLink RX8 40 "ClayAccounts$Tokens" "place" "I") (by decide +kernel)) (fun _ h9 => h9) rfl (by decide +kernel) rfl rfl (Nat.le_of_ble_eq_true rfl) dX8_advance_68 (fun H locs hP hD hS => ?_)
  have hP : va_P (dC, dI) vwCl [(tk, .inr (8, [.int 0, .int 0, .long 0, .int 0, .int 0, .int 0, .int 0, .ref tp, .int 400, .int 0, .int 0])), (tp, .inr (7, [.ref tb, .int 0]))] H := hP
  have hD : va_D A [(tk, .inr (8, [.int 0, .int 0, .long 0, .int 0, .int 0, .int 0, .int 0, .ref tp, .int 400, .int 0, .int 0])), (tp, .inr (7, [.ref tb, .int 0]))] := hD
  have hP9 := hP.sub (ws' := [(tk, .inr (8, [.int 0, .int 0, .long 0, .int 0, .int 0, .int 0, .int 0, .ref tp, .int 400, .int 0, .int 0])), (tp, .inr (7, [.ref tb, .int 0]))]) [0, 1] rfl
  have hD9 := hD.sub (ws' := [(tk, .inr (8, [.int 0, .int 0, .long 0, .int 0, .int 0, .int 0, .int 0, .ref tp, .int 400, .int 0, .int 0])), (tp, .inr (7, [.ref tb, .int 0]))]) [0, 1] (by decide) rfl
  have hK9 := hK.sub (tys' := []) [] rfl
  refine W.widen (k := 0) (n := 0) (Nat.le_of_ble_eq_true rfl) (Nat.le_of_ble_eq_true rfl) ?_
  exact W.vret hx hb hr (fun t ht hW => ⟨⟨(), rfl, trivial, by rw [ht]; exact hP9, va_K.moved hW.alike hK9, hD9⟩, hS.F ht⟩) hS.2.2 dX8_advance_71
theorem in_X9_clear_X9 : ∀ w ∈ wsX90, w ∈ wsX9_clear := fun _ h => List.mem_cons_of_mem _ (List.mem_append_right _ h)
set_option maxHeartbeats 4000000 in
set_option maxRecDepth 100000 in
theorem c_Uclear (l : Launch) (dC : Nat → ClassId) (dI : Nat → Nat → Nat) (su : Nat) (s1 : Nat) (s2 : Nat) (s3 : Nat) (s4 : Nat) (s5 : Nat) (s6 : Nat) (k1 : ClassId) (k2 : ClassId) (k3 : ClassId) (f1 : Nat → Int64) (f2 : Nat → Int32) (f3 : Nat → Int64) (sz : Nat)  : Met l yX9_clear wsX9_clear ({ frames := 1, cells := 0, slots := 0, locals := 24 } : Room) (va_Pc [.ref su] (fun U => U.heap.size = sz ∧ zz_X U ∧ va_P (dC, dI) vwCl [(su, .inr (9, [.ref s1, .ref s2, .ref s3, .ref s4, .ref s5, .ref s6, .int 0])), (s1, .inl (k1, 3, .inr (.inl f1))), (s2, .inl (k2, 3, .inl f2)), (s3, .inl (k3, 15, .inr (.inl f3)))] U.heap ∧ va_K (dC, dI) vwCl [(k1, .long), (k2, .int), (k3, .long)] U ∧ va_D (fun _ => True) [(su, .inr (9, [.ref s1, .ref s2, .ref s3, .ref s4, .ref s5, .ref s6, .int 0])), (s1, .inl (k1, 3, .inr (.inl f1))), (s2, .inl (k2, 3, .inl f2)), (s3, .inl (k3, 15, .inr (.inl f3)))])) (va_Qv (fun (_ : Unit) => True) (fun (_ : Unit) (t : State) => va_P (dC, dI) vwCl [(su, .inr (9, [.ref s1, .ref s2, .ref s3, .ref s4, .ref s5, .ref s6, .int 0]))] t.heap ∧ va_K (dC, dI) vwCl [] t ∧ va_D (va_A [(su, .inr (9, [.ref s1, .ref s2, .ref s3, .ref s4, .ref s5, .ref s6, .int 0])), (s1, .inl (k1, 3, .inr (.inl f1))), (s2, .inl (k2, 3, .inl f2)), (s3, .inl (k3, 15, .inr (.inl f3)))] sz) [(su, .inr (9, [.ref s1, .ref s2, .ref s3, .ref s4, .ref s5, .ref s6, .int 0]))]) (va_A [(su, .inr (9, [.ref s1, .ref s2, .ref s3, .ref s4, .ref s5, .ref s6, .int 0])), (s1, .inl (k1, 3, .inr (.inl f1))), (s2, .inl (k2, 3, .inl f2)), (s3, .inl (k3, 15, .inr (.inl f3)))] sz)) 0 0 (va_A [(su, .inr (9, [.ref s1, .ref s2, .ref s3, .ref s4, .ref s5, .ref s6, .int 0])), (s1, .inl (k1, 3, .inr (.inl f1))), (s2, .inl (k2, 3, .inl f2)), (s3, .inl (k3, 15, .inr (.inl f3)))] sz) := by
  refine Met.ofW (cc := cX9_clear) (maxL := 1) (ret := none) (by decide) rfl ?_
  intro p e s m args below meth c s₁ B hml hv
  obtain ⟨rfl, hsz, hzX, hP, hK, hD0⟩ := hv
  have hx := B.exec
  have hb := B.bytes
  have hr := B.returns
  have hts := atoms_spec (ws := wsX9_clear) B.pre
  have hown : s.vm.findClass RX9 = some m.cls := findClass_of_methodNamed B.named
  have hlocks := B.notSynchronized
  subst hsz
  have hD := hD0.self (sz := s.heap.size)
  generalize hAe : va_A [(su, .inr (9, [.ref s1, .ref s2, .ref s3, .ref s4, .ref s5, .ref s6, .int 0])), (s1, .inl (k1, 3, .inr (.inl f1))), (s2, .inl (k2, 3, .inl f2)), (s3, .inl (k3, 15, .inr (.inl f3)))] s.heap.size = A at  hD ⊢
  have hA : ∀ q : Nat, s.heap.size ≤ q → A q := fun q h => by rw [← hAe]; exact Or.inr h
  have hS : va_S A s.heap s.heap [] := va_S.rf
  have hP : va_P (dC, dI) vwCl [(su, .inr (9, [.ref s1, .ref s2, .ref s3, .ref s4, .ref s5, .ref s6, .int 0])), (s1, .inl (k1, 3, .inr (.inl f1))), (s2, .inl (k2, 3, .inl f2)), (s3, .inl (k3, 15, .inr (.inl f3)))] s.heap := hP
  have hl := lv_entry ([.ref su]) (n := 1) (Nat.le_of_ble_eq_true rfl)
  rw [lg_entry_eq]
  generalize (lg_sl ([.ref su]) ++ List.replicate (1 - (lg_sl ([.ref su])).length) Slot.unset).toArray = ls at hl ⊢
  have hl : lv_has ls 1 [(0, .ref su)] := hl
  skip
  refine lv_aload_n hx hb dX9_clear_0 rfl (lv_at hl 0 rfl) ?_
  refine lv_iconst (v := 0) hx hb dX9_clear_1 (by decide) ?_
  refine va_put (D := (dC, dI)) (ci := 9) (v := .int 0) (ty := .int) (C := RX9) (T := TX9) (N := 7) hx hb hts in_X9_clear_X9 tyX9 tyX9_ok nmX9 hown hK hP hD hS 0 rfl rfl 6 (by decide) (hts (.fieldLink RX9 31 "ClayAccounts$Units" "systemCount" "I") (by decide +kernel)) (fun _ h9 => h9) rfl (by decide +kernel) rfl rfl (Nat.le_of_ble_eq_true rfl) dX9_clear_2 (fun H locs hP hD hS => ?_)
  have hP : va_P (dC, dI) vwCl [(su, .inr (9, [.ref s1, .ref s2, .ref s3, .ref s4, .ref s5, .ref s6, .int 0])), (s1, .inl (k1, 3, .inr (.inl f1))), (s2, .inl (k2, 3, .inl f2)), (s3, .inl (k3, 15, .inr (.inl f3)))] H := hP
  have hD : va_D A [(su, .inr (9, [.ref s1, .ref s2, .ref s3, .ref s4, .ref s5, .ref s6, .int 0])), (s1, .inl (k1, 3, .inr (.inl f1))), (s2, .inl (k2, 3, .inl f2)), (s3, .inl (k3, 15, .inr (.inl f3)))] := hD
  refine lv_aload_n hx hb dX9_clear_5 rfl (lv_at hl 0 rfl) ?_
  refine va_get (D := (dC, dI)) (ci := 9) (v := .ref s1) (C := RX9) (T := TX9) (N := 7) hx hb hts in_X9_clear_X9 hown hK hP 0 rfl rfl 0 (by decide) (hts (.fieldLink RX9 9 "ClayAccounts$Units" "systemNames" "[J") (by decide +kernel)) (fun _ h9 => h9) rfl dX9_clear_6 ?_
  refine lv_lconst (v := 0) hx hb dX9_clear_9 (by decide) ?_
  have hPc := hP.sub (ws' := [(s1, .inl (k1, 3, .inr (.inl f1)))]) [1] rfl
  have hDc := hD.sub (ws' := [(s1, .inl (k1, 3, .inr (.inl f1)))]) [1] (by decide) rfl
  have hKc := hK.sub (tys' := [(k1, .long)]) [0] rfl
  have hFc := va_free (wc := [(s1, .inl (k1, 3, .inr (.inl f1)))]) hD hS hA [1] rfl
  refine va_callv (va_runS (As := [.ref s1, .long 0]) (rest := []) ⟨hx, hb, hml, hown, hts⟩ (c_fill_l l dC dI s1 k1 3 f1 0 H.size (by decide)) (va_cwS 2 hts gX9_clear_J7_fill_d0a16 rfl rfl rfl (by decide +kernel) ⟨Nat.le_of_ble_eq_true rfl, Nat.le_of_ble_eq_true rfl⟩) ⟨fun a U g mk q => by obtain ⟨q0, q1, qX, qP, qK, qD⟩ := q; exact ⟨q0, q1, zz_X.same (u := U) (U := U.calling g mk a) rfl qX, qP, va_K.moved (u := U) (U := U.calling g mk a) (Vm.Alike.refl U.vm) qK, qD⟩, fun U hU hW => ⟨rfl, by rw [hU], zz_X.warm hW hzX, by rw [hU]; exact hPc, va_K.moved hW.alike hKc, hDc.weaken (fun _ _ _ _ => trivial)⟩⟩ rfl rfl hl.1 rfl (lv_room (Nat.le_of_ble_eq_true rfl)) dX9_clear_10 ⟨Nat.le_of_ble_eq_true rfl, Nat.le_of_ble_eq_true rfl⟩) hS (fun q _ h => hFc q h) hFc (fun u t H1 locs ht hvm hw hB hz1 hk1 hS => ?_)
  obtain ⟨f_1, hP1, hK1, hD1⟩ := hB
  rw [ht] at hP1
  have hK1 := va_K.moved hvm.symm hK1
  obtain ⟨hP, hD⟩ := va_join (wr := [(su, .inr (9, [.ref s1, .ref s2, .ref s3, .ref s4, .ref s5, .ref s6, .int 0])), (s2, .inl (k2, 3, .inl f2)), (s3, .inl (k3, 15, .inr (.inl f3)))]) (w1 := [(s1, .inl (k1, 3, .inr (.inl f_1)))]) hP hD [1] [0, 2, 3] rfl rfl (by decide) (by decide) hk1 hFc hP1 hD1
  have hK := (hK.sub (tys' := [(k1, .long), (k2, .int), (k3, .long)]) [0, 1, 2] rfl).app (hK1.sub (tys' := []) [] rfl)
  generalize H1 = H at hP hS ⊢
  have hP : va_P (dC, dI) vwCl [(su, .inr (9, [.ref s1, .ref s2, .ref s3, .ref s4, .ref s5, .ref s6, .int 0])), (s2, .inl (k2, 3, .inl f2)), (s3, .inl (k3, 15, .inr (.inl f3))), (s1, .inl (k1, 3, .inr (.inl f_1)))] H := hP
  have hD : va_D A [(su, .inr (9, [.ref s1, .ref s2, .ref s3, .ref s4, .ref s5, .ref s6, .int 0])), (s2, .inl (k2, 3, .inl f2)), (s3, .inl (k3, 15, .inr (.inl f3))), (s1, .inl (k1, 3, .inr (.inl f_1)))] := hD
  have hK : va_K (dC, dI) vwCl [(k1, .long), (k2, .int), (k3, .long)] s := hK
  refine W.widen (k := 0) (n := 0) (Nat.le_of_ble_eq_true rfl) (Nat.le_of_ble_eq_true rfl) ?_
  refine lv_aload_n hx hb dX9_clear_13 rfl (lv_at hl 0 rfl) ?_
  refine va_get (D := (dC, dI)) (ci := 9) (v := .ref s2) (C := RX9) (T := TX9) (N := 7) hx hb hts in_X9_clear_X9 hown hK hP 0 rfl rfl 1 (by decide) (hts (.fieldLink RX9 15 "ClayAccounts$Units" "unitCounts" "[I") (by decide +kernel)) (fun _ h9 => h9) rfl dX9_clear_14 ?_
  refine lv_iconst (v := 0) hx hb dX9_clear_17 (by decide) ?_
  have hPc := hP.sub (ws' := [(s2, .inl (k2, 3, .inl f2))]) [1] rfl
  have hDc := hD.sub (ws' := [(s2, .inl (k2, 3, .inl f2))]) [1] (by decide) rfl
  have hKc := hK.sub (tys' := [(k2, .int)]) [1] rfl
  have hFc := va_free (wc := [(s2, .inl (k2, 3, .inl f2))]) hD hS hA [1] rfl
  refine va_callv (va_runS (As := [.ref s2, .int 0]) (rest := []) ⟨hx, hb, hml, hown, hts⟩ (c_fill_i l dC dI s2 k2 3 f2 0 H.size (by decide)) (va_cwS 2 hts gX9_clear_J7_fill_53178 rfl rfl rfl (by decide +kernel) ⟨Nat.le_of_ble_eq_true rfl, Nat.le_of_ble_eq_true rfl⟩) ⟨fun a U g mk q => by obtain ⟨q0, q1, qX, qP, qK, qD⟩ := q; exact ⟨q0, q1, zz_X.same (u := U) (U := U.calling g mk a) rfl qX, qP, va_K.moved (u := U) (U := U.calling g mk a) (Vm.Alike.refl U.vm) qK, qD⟩, fun U hU hW => ⟨rfl, by rw [hU], zz_X.warm hW hzX, by rw [hU]; exact hPc, va_K.moved hW.alike hKc, hDc.weaken (fun _ _ _ _ => trivial)⟩⟩ rfl rfl hl.1 rfl (lv_room (Nat.le_of_ble_eq_true rfl)) dX9_clear_18 ⟨Nat.le_of_ble_eq_true rfl, Nat.le_of_ble_eq_true rfl⟩) hS (fun q _ h => hFc q h) hFc (fun u t H1 locs ht hvm hw hB hz1 hk1 hS => ?_)
  obtain ⟨f_2, hP1, hK1, hD1⟩ := hB
  rw [ht] at hP1
  have hK1 := va_K.moved hvm.symm hK1
  obtain ⟨hP, hD⟩ := va_join (wr := [(su, .inr (9, [.ref s1, .ref s2, .ref s3, .ref s4, .ref s5, .ref s6, .int 0])), (s3, .inl (k3, 15, .inr (.inl f3))), (s1, .inl (k1, 3, .inr (.inl f_1)))]) (w1 := [(s2, .inl (k2, 3, .inl f_2))]) hP hD [1] [0, 2, 3] rfl rfl (by decide) (by decide) hk1 hFc hP1 hD1
  have hK := (hK.sub (tys' := [(k1, .long), (k2, .int), (k3, .long)]) [0, 1, 2] rfl).app (hK1.sub (tys' := []) [] rfl)
  generalize H1 = H at hP hS ⊢
  have hP : va_P (dC, dI) vwCl [(su, .inr (9, [.ref s1, .ref s2, .ref s3, .ref s4, .ref s5, .ref s6, .int 0])), (s3, .inl (k3, 15, .inr (.inl f3))), (s1, .inl (k1, 3, .inr (.inl f_1))), (s2, .inl (k2, 3, .inl f_2))] H := hP
  have hD : va_D A [(su, .inr (9, [.ref s1, .ref s2, .ref s3, .ref s4, .ref s5, .ref s6, .int 0])), (s3, .inl (k3, 15, .inr (.inl f3))), (s1, .inl (k1, 3, .inr (.inl f_1))), (s2, .inl (k2, 3, .inl f_2))] := hD
  have hK : va_K (dC, dI) vwCl [(k1, .long), (k2, .int), (k3, .long)] s := hK
  refine W.widen (k := 0) (n := 0) (Nat.le_of_ble_eq_true rfl) (Nat.le_of_ble_eq_true rfl) ?_
  refine lv_aload_n hx hb dX9_clear_21 rfl (lv_at hl 0 rfl) ?_
  refine va_get (D := (dC, dI)) (ci := 9) (v := .ref s3) (C := RX9) (T := TX9) (N := 7) hx hb hts in_X9_clear_X9 hown hK hP 0 rfl rfl 2 (by decide) (hts (.fieldLink RX9 19 "ClayAccounts$Units" "names" "[J") (by decide +kernel)) (fun _ h9 => h9) rfl dX9_clear_22 ?_
  refine lv_lconst (v := 0) hx hb dX9_clear_25 (by decide) ?_
  have hPc := hP.sub (ws' := [(s3, .inl (k3, 15, .inr (.inl f3)))]) [1] rfl
  have hDc := hD.sub (ws' := [(s3, .inl (k3, 15, .inr (.inl f3)))]) [1] (by decide) rfl
  have hKc := hK.sub (tys' := [(k3, .long)]) [2] rfl
  have hFc := va_free (wc := [(s3, .inl (k3, 15, .inr (.inl f3)))]) hD hS hA [1] rfl
  refine va_callv (va_runS (As := [.ref s3, .long 0]) (rest := []) ⟨hx, hb, hml, hown, hts⟩ (c_fill_l l dC dI s3 k3 15 f3 0 H.size (by decide)) (va_cwS 2 hts gX9_clear_J7_fill_d0a16 rfl rfl rfl (by decide +kernel) ⟨Nat.le_of_ble_eq_true rfl, Nat.le_of_ble_eq_true rfl⟩) ⟨fun a U g mk q => by obtain ⟨q0, q1, qX, qP, qK, qD⟩ := q; exact ⟨q0, q1, zz_X.same (u := U) (U := U.calling g mk a) rfl qX, qP, va_K.moved (u := U) (U := U.calling g mk a) (Vm.Alike.refl U.vm) qK, qD⟩, fun U hU hW => ⟨rfl, by rw [hU], zz_X.warm hW hzX, by rw [hU]; exact hPc, va_K.moved hW.alike hKc, hDc.weaken (fun _ _ _ _ => trivial)⟩⟩ rfl rfl hl.1 rfl (lv_room (Nat.le_of_ble_eq_true rfl)) dX9_clear_26 ⟨Nat.le_of_ble_eq_true rfl, Nat.le_of_ble_eq_true rfl⟩) hS (fun q _ h => hFc q h) hFc (fun u t H1 locs ht hvm hw hB hz1 hk1 hS => ?_)
  obtain ⟨f_3, hP1, hK1, hD1⟩ := hB
  rw [ht] at hP1
  have hK1 := va_K.moved hvm.symm hK1
  obtain ⟨hP, hD⟩ := va_join (wr := [(su, .inr (9, [.ref s1, .ref s2, .ref s3, .ref s4, .ref s5, .ref s6, .int 0])), (s1, .inl (k1, 3, .inr (.inl f_1))), (s2, .inl (k2, 3, .inl f_2))]) (w1 := [(s3, .inl (k3, 15, .inr (.inl f_3)))]) hP hD [1] [0, 2, 3] rfl rfl (by decide) (by decide) hk1 hFc hP1 hD1
  have hK := (hK.sub (tys' := [(k1, .long), (k2, .int), (k3, .long)]) [0, 1, 2] rfl).app (hK1.sub (tys' := []) [] rfl)
  generalize H1 = H at hP hS ⊢
  have hP : va_P (dC, dI) vwCl [(su, .inr (9, [.ref s1, .ref s2, .ref s3, .ref s4, .ref s5, .ref s6, .int 0])), (s1, .inl (k1, 3, .inr (.inl f_1))), (s2, .inl (k2, 3, .inl f_2)), (s3, .inl (k3, 15, .inr (.inl f_3)))] H := hP
  have hD : va_D A [(su, .inr (9, [.ref s1, .ref s2, .ref s3, .ref s4, .ref s5, .ref s6, .int 0])), (s1, .inl (k1, 3, .inr (.inl f_1))), (s2, .inl (k2, 3, .inl f_2)), (s3, .inl (k3, 15, .inr (.inl f_3)))] := hD
  have hK : va_K (dC, dI) vwCl [(k1, .long), (k2, .int), (k3, .long)] s := hK
  refine W.widen (k := 0) (n := 0) (Nat.le_of_ble_eq_true rfl) (Nat.le_of_ble_eq_true rfl) ?_
  have hP9 := hP.sub (ws' := [(su, .inr (9, [.ref s1, .ref s2, .ref s3, .ref s4, .ref s5, .ref s6, .int 0]))]) [0] rfl
  have hD9 := hD.sub (ws' := [(su, .inr (9, [.ref s1, .ref s2, .ref s3, .ref s4, .ref s5, .ref s6, .int 0]))]) [0] (by decide) rfl
  have hK9 := hK.sub (tys' := []) [] rfl
  refine W.widen (k := 0) (n := 0) (Nat.le_of_ble_eq_true rfl) (Nat.le_of_ble_eq_true rfl) ?_
  exact W.vret hx hb hr (fun t ht hW => ⟨⟨(), rfl, trivial, by rw [ht]; exact hP9, va_K.moved hW.alike hK9, hD9⟩, hS.F ht⟩) hS.2.2 dX9_clear_29
theorem in_X10_read_X10 : ∀ w ∈ wsX100, w ∈ wsX10_read := fun _ h => List.mem_cons_of_mem _ (List.mem_append_left _ (List.mem_append_left _ (List.mem_append_left _ (List.mem_append_right _ h))))
theorem in_X10_read_X8 : ∀ w ∈ wsX80, w ∈ wsX10_read := fun _ h => List.mem_cons_of_mem _ (List.mem_append_left _ (List.mem_append_left _ (List.mem_append_right _ h)))
theorem in_X10_read_X9 : ∀ w ∈ wsX90, w ∈ wsX10_read := fun _ h => List.mem_cons_of_mem _ (List.mem_append_left _ (List.mem_append_right _ h))
set_option maxHeartbeats 4000000 in
set_option maxRecDepth 100000 in
theorem c_Uread (l : Launch) (dC : Nat → ClassId) (dI : Nat → Nat → Nat) (ur : Nat) (tk : Nat) (tt : Nat) (tp : Nat) (tb : Nat) (su : Nat) (s1 : Nat) (s2 : Nat) (s3 : Nat) (s4 : Nat) (s5 : Nat) (s6 : Nat) (k1 : ClassId) (k2 : ClassId) (k3 : ClassId) (f1 : Nat → Int64) (f2 : Nat → Int32) (f3 : Nat → Int64) (sz : Nat)  : Met l yX10_read wsX10_read ({ frames := 2, cells := 0, slots := 0, locals := 44 } : Room) (va_Pc [.ref ur, .ref tp, .ref su] (fun U => U.heap.size = sz ∧ zz_X U ∧ va_P (dC, dI) vwCl [(ur, .inr (10, [.ref tk, .int 0, .int 0])), (tk, .inr (8, [.int 0, .int 0, .long 0, .int 0, .int 0, .int 0, .int 0, .ref tt, .int 0, .int 0, .int 0])), (tp, .inr (7, [.ref tb, .int 0])), (su, .inr (9, [.ref s1, .ref s2, .ref s3, .ref s4, .ref s5, .ref s6, .int 0])), (s1, .inl (k1, 3, .inr (.inl f1))), (s2, .inl (k2, 3, .inl f2)), (s3, .inl (k3, 15, .inr (.inl f3)))] U.heap ∧ va_K (dC, dI) vwCl [(k1, .long), (k2, .int), (k3, .long)] U ∧ va_D (fun _ => True) [(ur, .inr (10, [.ref tk, .int 0, .int 0])), (tk, .inr (8, [.int 0, .int 0, .long 0, .int 0, .int 0, .int 0, .int 0, .ref tt, .int 0, .int 0, .int 0])), (tp, .inr (7, [.ref tb, .int 0])), (su, .inr (9, [.ref s1, .ref s2, .ref s3, .ref s4, .ref s5, .ref s6, .int 0])), (s1, .inl (k1, 3, .inr (.inl f1))), (s2, .inl (k2, 3, .inl f2)), (s3, .inl (k3, 15, .inr (.inl f3)))])) (va_Qi (fun (r : Int32) (_ : Unit) => r = 0) (fun (_ : Unit) (t : State) => va_P (dC, dI) vwCl [(ur, .inr (10, [.ref tk, .int 0, .int 0])), (tk, .inr (8, [.int 0, .int 0, .long 0, .int 0, .int 0, .int 1, .int 0, .ref tp, .int 400, .int 0, .int 0])), (tp, .inr (7, [.ref tb, .int 0]))] t.heap ∧ va_K (dC, dI) vwCl [] t ∧ va_D (va_A [(ur, .inr (10, [.ref tk, .int 0, .int 0])), (tk, .inr (8, [.int 0, .int 0, .long 0, .int 0, .int 0, .int 0, .int 0, .ref tt, .int 0, .int 0, .int 0])), (tp, .inr (7, [.ref tb, .int 0])), (su, .inr (9, [.ref s1, .ref s2, .ref s3, .ref s4, .ref s5, .ref s6, .int 0])), (s1, .inl (k1, 3, .inr (.inl f1))), (s2, .inl (k2, 3, .inl f2)), (s3, .inl (k3, 15, .inr (.inl f3)))] sz) [(ur, .inr (10, [.ref tk, .int 0, .int 0])), (tk, .inr (8, [.int 0, .int 0, .long 0, .int 0, .int 0, .int 1, .int 0, .ref tp, .int 400, .int 0, .int 0])), (tp, .inr (7, [.ref tb, .int 0]))]) (va_A [(ur, .inr (10, [.ref tk, .int 0, .int 0])), (tk, .inr (8, [.int 0, .int 0, .long 0, .int 0, .int 0, .int 0, .int 0, .ref tt, .int 0, .int 0, .int 0])), (tp, .inr (7, [.ref tb, .int 0])), (su, .inr (9, [.ref s1, .ref s2, .ref s3, .ref s4, .ref s5, .ref s6, .int 0])), (s1, .inl (k1, 3, .inr (.inl f1))), (s2, .inl (k2, 3, .inl f2)), (s3, .inl (k3, 15, .inr (.inl f3)))] sz)) 0 0 (va_A [(ur, .inr (10, [.ref tk, .int 0, .int 0])), (tk, .inr (8, [.int 0, .int 0, .long 0, .int 0, .int 0, .int 0, .int 0, .ref tt, .int 0, .int 0, .int 0])), (tp, .inr (7, [.ref tb, .int 0])), (su, .inr (9, [.ref s1, .ref s2, .ref s3, .ref s4, .ref s5, .ref s6, .int 0])), (s1, .inl (k1, 3, .inr (.inl f1))), (s2, .inl (k2, 3, .inl f2)), (s3, .inl (k3, 15, .inr (.inl f3)))] sz) := by
  refine Met.ofW (cc := cX10_read) (maxL := 4) (ret := (some .boolean)) (by decide) rfl ?_
  intro p e s m args below meth c s₁ B hml hv
  obtain ⟨rfl, hsz, hzX, hP, hK, hD0⟩ := hv
  have hx := B.exec
  have hb := B.bytes
  have hr := B.returns
  have hts := atoms_spec (ws := wsX10_read) B.pre
  have hown : s.vm.findClass RX10 = some m.cls := findClass_of_methodNamed B.named
  have hlocks := B.notSynchronized
  subst hsz
  have hD := hD0.self (sz := s.heap.size)
  generalize hAe : va_A [(ur, .inr (10, [.ref tk, .int 0, .int 0])), (tk, .inr (8, [.int 0, .int 0, .long 0, .int 0, .int 0, .int 0, .int 0, .ref tt, .int 0, .int 0, .int 0])), (tp, .inr (7, [.ref tb, .int 0])), (su, .inr (9, [.ref s1, .ref s2, .ref s3, .ref s4, .ref s5, .ref s6, .int 0])), (s1, .inl (k1, 3, .inr (.inl f1))), (s2, .inl (k2, 3, .inl f2)), (s3, .inl (k3, 15, .inr (.inl f3)))] s.heap.size = A at  hD ⊢
  have hA : ∀ q : Nat, s.heap.size ≤ q → A q := fun q h => by rw [← hAe]; exact Or.inr h
  have hS : va_S A s.heap s.heap [] := va_S.rf
  have hP : va_P (dC, dI) vwCl [(ur, .inr (10, [.ref tk, .int 0, .int 0])), (tk, .inr (8, [.int 0, .int 0, .long 0, .int 0, .int 0, .int 0, .int 0, .ref tt, .int 0, .int 0, .int 0])), (tp, .inr (7, [.ref tb, .int 0])), (su, .inr (9, [.ref s1, .ref s2, .ref s3, .ref s4, .ref s5, .ref s6, .int 0])), (s1, .inl (k1, 3, .inr (.inl f1))), (s2, .inl (k2, 3, .inl f2)), (s3, .inl (k3, 15, .inr (.inl f3)))] s.heap := hP
  have hl := lv_entry ([.ref ur, .ref tp, .ref su]) (n := 4) (Nat.le_of_ble_eq_true rfl)
  rw [lg_entry_eq]
  generalize (lg_sl ([.ref ur, .ref tp, .ref su]) ++ List.replicate (4 - (lg_sl ([.ref ur, .ref tp, .ref su])).length) Slot.unset).toArray = ls at hl ⊢
  have hl : lv_has ls 4 [(0, .ref ur), (1, .ref tp), (2, .ref su)] := hl
  skip
  refine lv_aload_n hx hb dX10_read_0 rfl (lv_at hl 2 rfl) ?_
  have hPc := hP.sub (ws' := [(su, .inr (9, [.ref s1, .ref s2, .ref s3, .ref s4, .ref s5, .ref s6, .int 0])), (s1, .inl (k1, 3, .inr (.inl f1))), (s2, .inl (k2, 3, .inl f2)), (s3, .inl (k3, 15, .inr (.inl f3)))]) [3, 4, 5, 6] rfl
  have hDc := hD.sub (ws' := [(su, .inr (9, [.ref s1, .ref s2, .ref s3, .ref s4, .ref s5, .ref s6, .int 0])), (s1, .inl (k1, 3, .inr (.inl f1))), (s2, .inl (k2, 3, .inl f2)), (s3, .inl (k3, 15, .inr (.inl f3)))]) [3, 4, 5, 6] (by decide) rfl
  have hKc := hK.sub (tys' := [(k1, .long), (k2, .int), (k3, .long)]) [0, 1, 2] rfl
  have hFc := va_free (wc := [(su, .inr (9, [.ref s1, .ref s2, .ref s3, .ref s4, .ref s5, .ref s6, .int 0])), (s1, .inl (k1, 3, .inr (.inl f1))), (s2, .inl (k2, 3, .inl f2)), (s3, .inl (k3, 15, .inr (.inl f3)))]) hD hS hA [3, 4, 5, 6] rfl
  refine va_callv (va_runV (As := []) (rest := []) ⟨hx, hb, hml, hown, hts⟩ (c_Uclear l dC dI su s1 s2 s3 s4 s5 s6 k1 k2 k3 f1 f2 f3 s.heap.size ) (cwV 0 hts gX10_read_X9_clear rfl rfl rfl (by decide +kernel) ⟨Nat.le_of_ble_eq_true rfl, Nat.le_of_ble_eq_true rfl⟩) ⟨fun a U g mk q => by obtain ⟨q0, q1, qX, qP, qK, qD⟩ := q; exact ⟨q0, q1, zz_X.same (u := U) (U := U.calling g mk a) rfl qX, qP, va_K.moved (u := U) (U := U.calling g mk a) (Vm.Alike.refl U.vm) qK, qD⟩, va_recv hKc hPc (ci := 9) (q0 := 0) rfl rfl, fun U hU hW => ⟨rfl, by rw [hU], zz_X.warm hW hzX, by rw [hU]; exact hPc, va_K.moved hW.alike hKc, hDc.weaken (fun _ _ _ _ => trivial)⟩⟩ rfl rfl hl.1 rfl (lv_room (Nat.le_of_ble_eq_true rfl)) dX10_read_1 ⟨Nat.le_of_ble_eq_true rfl, Nat.le_of_ble_eq_true rfl⟩) hS (fun q _ h => hFc q h) hFc (fun u t H1 locs ht hvm hw hB hz1 hk1 hS => ?_)
  obtain ⟨hP1, hK1, hD1⟩ := hB
  rw [ht] at hP1
  have hK1 := va_K.moved hvm.symm hK1
  obtain ⟨hP, hD⟩ := va_join (wr := [(ur, .inr (10, [.ref tk, .int 0, .int 0])), (tk, .inr (8, [.int 0, .int 0, .long 0, .int 0, .int 0, .int 0, .int 0, .ref tt, .int 0, .int 0, .int 0])), (tp, .inr (7, [.ref tb, .int 0]))]) (w1 := [(su, .inr (9, [.ref s1, .ref s2, .ref s3, .ref s4, .ref s5, .ref s6, .int 0]))]) hP hD [3, 4, 5, 6] [0, 1, 2] rfl rfl (by decide) (by decide) hk1 hFc hP1 hD1
  have hK := (hK.sub (tys' := [(k1, .long), (k2, .int), (k3, .long)]) [0, 1, 2] rfl).app (hK1.sub (tys' := []) [] rfl)
  generalize H1 = H at hP hS ⊢
  have hP : va_P (dC, dI) vwCl [(ur, .inr (10, [.ref tk, .int 0, .int 0])), (tk, .inr (8, [.int 0, .int 0, .long 0, .int 0, .int 0, .int 0, .int 0, .ref tt, .int 0, .int 0, .int 0])), (tp, .inr (7, [.ref tb, .int 0])), (su, .inr (9, [.ref s1, .ref s2, .ref s3, .ref s4, .ref s5, .ref s6, .int 0]))] H := hP
  have hD : va_D A [(ur, .inr (10, [.ref tk, .int 0, .int 0])), (tk, .inr (8, [.int 0, .int 0, .long 0, .int 0, .int 0, .int 0, .int 0, .ref tt, .int 0, .int 0, .int 0])), (tp, .inr (7, [.ref tb, .int 0])), (su, .inr (9, [.ref s1, .ref s2, .ref s3, .ref s4, .ref s5, .ref s6, .int 0]))] := hD
  have hK : va_K (dC, dI) vwCl [(k1, .long), (k2, .int), (k3, .long)] s := hK
  refine W.widen (k := 0) (n := 0) (Nat.le_of_ble_eq_true rfl) (Nat.le_of_ble_eq_true rfl) ?_
  refine lv_aload_n hx hb dX10_read_4 rfl (lv_at hl 0 rfl) ?_
  refine va_get (D := (dC, dI)) (ci := 10) (v := .ref tk) (C := RX10) (T := TX10) (N := 3) hx hb hts in_X10_read_X10 hown hK hP 0 rfl rfl 0 (by decide) (hts (.fieldLink RX10 12 "ClayAccounts$UnitsReader" "tokens" "LClayAccounts$Tokens;") (by decide +kernel)) (fun _ h9 => h9) rfl dX10_read_5 ?_
  refine lv_aload_n hx hb dX10_read_8 rfl (lv_at hl 1 rfl) ?_
  refine lv_sipush (v := 400) hx hb dX10_read_9 (by decide) ?_
  refine lv_iconst (v := 0) hx hb dX10_read_12 (by decide) ?_
  have hPc := hP.sub (ws' := [(tk, .inr (8, [.int 0, .int 0, .long 0, .int 0, .int 0, .int 0, .int 0, .ref tt, .int 0, .int 0, .int 0]))]) [1] rfl
  have hDc := hD.sub (ws' := [(tk, .inr (8, [.int 0, .int 0, .long 0, .int 0, .int 0, .int 0, .int 0, .ref tt, .int 0, .int 0, .int 0]))]) [1] (by decide) rfl
  have hKc := hK.sub (tys' := []) [] rfl
  have hFc := va_free (wc := [(tk, .inr (8, [.int 0, .int 0, .long 0, .int 0, .int 0, .int 0, .int 0, .ref tt, .int 0, .int 0, .int 0]))]) hD hS hA [1] rfl
  refine va_callv (va_runV (As := [.ref tp, .int 400, .int 0]) (rest := []) ⟨hx, hb, hml, hown, hts⟩ (c_begin l dC dI tk tt tp H.size ) (cwV 3 hts gX10_read_X8_begin rfl rfl rfl (by decide +kernel) ⟨Nat.le_of_ble_eq_true rfl, Nat.le_of_ble_eq_true rfl⟩) ⟨fun a U g mk q => by obtain ⟨q0, q1, qX, qP, qK, qD⟩ := q; exact ⟨q0, q1, zz_X.same (u := U) (U := U.calling g mk a) rfl qX, qP, va_K.moved (u := U) (U := U.calling g mk a) (Vm.Alike.refl U.vm) qK, qD⟩, va_recv hKc hPc (ci := 8) (q0 := 0) rfl rfl, fun U hU hW => ⟨rfl, by rw [hU], zz_X.warm hW hzX, by rw [hU]; exact hPc, va_K.moved hW.alike hKc, hDc.weaken (fun _ _ _ _ => trivial)⟩⟩ rfl rfl hl.1 rfl (lv_room (Nat.le_of_ble_eq_true rfl)) dX10_read_13 ⟨Nat.le_of_ble_eq_true rfl, Nat.le_of_ble_eq_true rfl⟩) hS (fun q _ h => hFc q h) hFc (fun u t H1 locs ht hvm hw hB hz1 hk1 hS => ?_)
  obtain ⟨hP1, hK1, hD1⟩ := hB
  rw [ht] at hP1
  have hK1 := va_K.moved hvm.symm hK1
  obtain ⟨hP, hD⟩ := va_join (wr := [(ur, .inr (10, [.ref tk, .int 0, .int 0])), (tp, .inr (7, [.ref tb, .int 0])), (su, .inr (9, [.ref s1, .ref s2, .ref s3, .ref s4, .ref s5, .ref s6, .int 0]))]) (w1 := [(tk, .inr (8, [.int 0, .int 0, .long 0, .int 0, .int 0, .int 0, .int 0, .ref tp, .int 400, .int 0, .int 0]))]) hP hD [1] [0, 2, 3] rfl rfl (by decide) (by decide) hk1 hFc hP1 hD1
  have hK := (hK.sub (tys' := [(k1, .long), (k2, .int), (k3, .long)]) [0, 1, 2] rfl).app (hK1.sub (tys' := []) [] rfl)
  generalize H1 = H at hP hS ⊢
  have hP : va_P (dC, dI) vwCl [(ur, .inr (10, [.ref tk, .int 0, .int 0])), (tp, .inr (7, [.ref tb, .int 0])), (su, .inr (9, [.ref s1, .ref s2, .ref s3, .ref s4, .ref s5, .ref s6, .int 0])), (tk, .inr (8, [.int 0, .int 0, .long 0, .int 0, .int 0, .int 0, .int 0, .ref tp, .int 400, .int 0, .int 0]))] H := hP
  have hD : va_D A [(ur, .inr (10, [.ref tk, .int 0, .int 0])), (tp, .inr (7, [.ref tb, .int 0])), (su, .inr (9, [.ref s1, .ref s2, .ref s3, .ref s4, .ref s5, .ref s6, .int 0])), (tk, .inr (8, [.int 0, .int 0, .long 0, .int 0, .int 0, .int 0, .int 0, .ref tp, .int 400, .int 0, .int 0]))] := hD
  have hK : va_K (dC, dI) vwCl [(k1, .long), (k2, .int), (k3, .long)] s := hK
  refine W.widen (k := 0) (n := 0) (Nat.le_of_ble_eq_true rfl) (Nat.le_of_ble_eq_true rfl) ?_
  refine lv_aload_n hx hb dX10_read_16 rfl (lv_at hl 0 rfl) ?_
  refine lv_iconst (v := 0) hx hb dX10_read_17 (by decide) ?_
  refine va_put (D := (dC, dI)) (ci := 10) (v := .int 0) (ty := .int) (C := RX10) (T := TX10) (N := 3) hx hb hts in_X10_read_X10 tyX10 tyX10_ok nmX10 hown hK hP hD hS 0 rfl rfl 1 (by decide) (hts (.fieldLink RX10 27 "ClayAccounts$UnitsReader" "state" "I") (by decide +kernel)) (fun _ h9 => h9) rfl (by decide +kernel) rfl rfl (Nat.le_of_ble_eq_true rfl) dX10_read_18 (fun H locs hP hD hS => ?_)
  have hP : va_P (dC, dI) vwCl [(ur, .inr (10, [.ref tk, .int 0, .int 0])), (tp, .inr (7, [.ref tb, .int 0])), (su, .inr (9, [.ref s1, .ref s2, .ref s3, .ref s4, .ref s5, .ref s6, .int 0])), (tk, .inr (8, [.int 0, .int 0, .long 0, .int 0, .int 0, .int 0, .int 0, .ref tp, .int 400, .int 0, .int 0]))] H := hP
  have hD : va_D A [(ur, .inr (10, [.ref tk, .int 0, .int 0])), (tp, .inr (7, [.ref tb, .int 0])), (su, .inr (9, [.ref s1, .ref s2, .ref s3, .ref s4, .ref s5, .ref s6, .int 0])), (tk, .inr (8, [.int 0, .int 0, .long 0, .int 0, .int 0, .int 0, .int 0, .ref tp, .int 400, .int 0, .int 0]))] := hD
  refine lv_iconst (v := 0) hx hb dX10_read_21 (by decide) ?_
  refine lv_istore_n (lv' := [(3, .int 0), (0, .ref ur), (1, .ref tp), (2, .ref su)]) hx hb dX10_read_22 rfl hl (by decide) rfl (fun ls hl => ?_)
  refine lv_iload_n hx hb dX10_read_23 rfl (lv_at hl 0 rfl) ?_
  refine lv_sipush (v := 400) hx hb dX10_read_24 (by decide) ?_
  refine lv_icmp_gt (tgt := 82) hx hb dX10_read_27 (by decide) (fun c9 => absurd c9 (by decide)) (fun c9 => ?_)
  refine lv_aload_n hx hb dX10_read_30 rfl (lv_at hl 1 rfl) ?_
  refine va_get (D := (dC, dI)) (ci := 10) (v := .ref tk) (C := RX10) (T := TX10) (N := 3) hx hb hts in_X10_read_X10 hown hK hP 0 rfl rfl 0 (by decide) (hts (.fieldLink RX10 12 "ClayAccounts$UnitsReader" "tokens" "LClayAccounts$Tokens;") (by decide +kernel)) (fun _ h9 => h9) rfl dX10_read_31 ?_
  have hPc := hP.sub (ws' := [(tk, .inr (8, [.int 0, .int 0, .long 0, .int 0, .int 0, .int 0, .int 0, .ref tp, .int 400, .int 0, .int 0])), (tp, .inr (7, [.ref tb, .int 0]))]) [3, 1] rfl
  have hDc := hD.sub (ws' := [(tk, .inr (8, [.int 0, .int 0, .long 0, .int 0, .int 0, .int 0, .int 0, .ref tp, .int 400, .int 0, .int 0])), (tp, .inr (7, [.ref tb, .int 0]))]) [3, 1] (by decide) rfl
  have hKc := hK.sub (tys' := []) [] rfl
  have hFc := va_free (wc := [(tk, .inr (8, [.int 0, .int 0, .long 0, .int 0, .int 0, .int 0, .int 0, .ref tp, .int 400, .int 0, .int 0])), (tp, .inr (7, [.ref tb, .int 0]))]) hD hS hA [3, 1] rfl
  refine va_callv (va_runV (As := []) (rest := []) ⟨hx, hb, hml, hown, hts⟩ (c_advance l dC dI tk tp tb H.size ) (cwV 0 hts gX10_read_X8_advance rfl rfl rfl (by decide +kernel) ⟨Nat.le_of_ble_eq_true rfl, Nat.le_of_ble_eq_true rfl⟩) ⟨fun a U g mk q => by obtain ⟨q0, q1, qX, qP, qK, qD⟩ := q; exact ⟨q0, q1, zz_X.same (u := U) (U := U.calling g mk a) rfl qX, qP, va_K.moved (u := U) (U := U.calling g mk a) (Vm.Alike.refl U.vm) qK, qD⟩, va_recv hKc hPc (ci := 8) (q0 := 0) rfl rfl, fun U hU hW => ⟨rfl, by rw [hU], zz_X.warm hW hzX, by rw [hU]; exact hPc, va_K.moved hW.alike hKc, hDc.weaken (fun _ _ _ _ => trivial)⟩⟩ rfl rfl hl.1 rfl (lv_room (Nat.le_of_ble_eq_true rfl)) dX10_read_34 ⟨Nat.le_of_ble_eq_true rfl, Nat.le_of_ble_eq_true rfl⟩) hS (fun q _ h => hFc q h) hFc (fun u t H1 locs ht hvm hw hB hz1 hk1 hS => ?_)
  obtain ⟨hP1, hK1, hD1⟩ := hB
  rw [ht] at hP1
  have hK1 := va_K.moved hvm.symm hK1
  obtain ⟨hP, hD⟩ := va_join (wr := [(ur, .inr (10, [.ref tk, .int 0, .int 0])), (su, .inr (9, [.ref s1, .ref s2, .ref s3, .ref s4, .ref s5, .ref s6, .int 0]))]) (w1 := [(tk, .inr (8, [.int 0, .int 0, .long 0, .int 0, .int 0, .int 0, .int 0, .ref tp, .int 400, .int 0, .int 0])), (tp, .inr (7, [.ref tb, .int 0]))]) hP hD [3, 1] [0, 2] rfl rfl (by decide) (by decide) hk1 hFc hP1 hD1
  have hK := (hK.sub (tys' := [(k1, .long), (k2, .int), (k3, .long)]) [0, 1, 2] rfl).app (hK1.sub (tys' := []) [] rfl)
  generalize H1 = H at hP hS ⊢
  have hP : va_P (dC, dI) vwCl [(ur, .inr (10, [.ref tk, .int 0, .int 0])), (su, .inr (9, [.ref s1, .ref s2, .ref s3, .ref s4, .ref s5, .ref s6, .int 0])), (tk, .inr (8, [.int 0, .int 0, .long 0, .int 0, .int 0, .int 0, .int 0, .ref tp, .int 400, .int 0, .int 0])), (tp, .inr (7, [.ref tb, .int 0]))] H := hP
  have hD : va_D A [(ur, .inr (10, [.ref tk, .int 0, .int 0])), (su, .inr (9, [.ref s1, .ref s2, .ref s3, .ref s4, .ref s5, .ref s6, .int 0])), (tk, .inr (8, [.int 0, .int 0, .long 0, .int 0, .int 0, .int 0, .int 0, .ref tp, .int 400, .int 0, .int 0])), (tp, .inr (7, [.ref tb, .int 0]))] := hD
  have hK : va_K (dC, dI) vwCl [(k1, .long), (k2, .int), (k3, .long)] s := hK
  refine W.widen (k := 0) (n := 0) (Nat.le_of_ble_eq_true rfl) (Nat.le_of_ble_eq_true rfl) ?_
  refine lv_aload_n hx hb dX10_read_37 rfl (lv_at hl 1 rfl) ?_
  refine va_get (D := (dC, dI)) (ci := 10) (v := .int 0) (C := RX10) (T := TX10) (N := 3) hx hb hts in_X10_read_X10 hown hK hP 0 rfl rfl 1 (by decide) (hts (.fieldLink RX10 27 "ClayAccounts$UnitsReader" "state" "I") (by decide +kernel)) (fun _ h9 => h9) rfl dX10_read_38 ?_
  refine lv_if_ne (tgt := 66) hx hb dX10_read_41 (by decide) (fun c9 => absurd (by decide) c9) (fun c9 => ?_)
  refine lv_aload_n hx hb dX10_read_44 rfl (lv_at hl 1 rfl) ?_
  refine va_get (D := (dC, dI)) (ci := 10) (v := .ref tk) (C := RX10) (T := TX10) (N := 3) hx hb hts in_X10_read_X10 hown hK hP 0 rfl rfl 0 (by decide) (hts (.fieldLink RX10 12 "ClayAccounts$UnitsReader" "tokens" "LClayAccounts$Tokens;") (by decide +kernel)) (fun _ h9 => h9) rfl dX10_read_45 ?_
  refine va_get (D := (dC, dI)) (ci := 8) (v := .int 0) (C := RX8) (T := TX8) (N := 11) hx hb hts in_X10_read_X8 hown hK hP 2 rfl rfl 0 (by decide) (hts (.fieldLink RX10 34 "ClayAccounts$Tokens" "kind" "I") (by decide +kernel)) (fun _ h9 => h9) rfl dX10_read_48 ?_
  refine lv_if_ne (tgt := 66) hx hb dX10_read_51 (by decide) (fun c9 => absurd (by decide) c9) (fun c9 => ?_)
  refine lv_aload_n hx hb dX10_read_54 rfl (lv_at hl 1 rfl) ?_
  refine va_get (D := (dC, dI)) (ci := 10) (v := .ref tk) (C := RX10) (T := TX10) (N := 3) hx hb hts in_X10_read_X10 hown hK hP 0 rfl rfl 0 (by decide) (hts (.fieldLink RX10 12 "ClayAccounts$UnitsReader" "tokens" "LClayAccounts$Tokens;") (by decide +kernel)) (fun _ h9 => h9) rfl dX10_read_55 ?_
  refine lv_aload_n hx hb dX10_read_58 rfl (lv_at hl 3 rfl) ?_
  refine va_get (D := (dC, dI)) (ci := 9) (v := .int 0) (C := RX9) (T := TX9) (N := 7) hx hb hts in_X10_read_X9 hown hK hP 1 rfl rfl 6 (by decide) (hts (.fieldLink RX10 37 "ClayAccounts$Units" "systemCount" "I") (by decide +kernel)) (fun _ h9 => h9) rfl dX10_read_59 ?_
  have hPc := hP.sub (ws' := [(tk, .inr (8, [.int 0, .int 0, .long 0, .int 0, .int 0, .int 0, .int 0, .ref tp, .int 400, .int 0, .int 0]))]) [2] rfl
  have hDc := hD.sub (ws' := [(tk, .inr (8, [.int 0, .int 0, .long 0, .int 0, .int 0, .int 0, .int 0, .ref tp, .int 400, .int 0, .int 0]))]) [2] (by decide) rfl
  have hKc := hK.sub (tys' := []) [] rfl
  have hFc := va_free (wc := [(tk, .inr (8, [.int 0, .int 0, .long 0, .int 0, .int 0, .int 0, .int 0, .ref tp, .int 400, .int 0, .int 0]))]) hD hS hA [2] rfl
  refine va_calli (va_runV (As := [.int 0]) (rest := []) ⟨hx, hb, hml, hown, hts⟩ (c_endsWell l dC dI tk tp H.size ) (cwV 1 hts gX10_read_X8_endsWell rfl rfl rfl (by decide +kernel) ⟨Nat.le_of_ble_eq_true rfl, Nat.le_of_ble_eq_true rfl⟩) ⟨fun a U g mk q => by obtain ⟨q0, q1, qX, qP, qK, qD⟩ := q; exact ⟨q0, q1, zz_X.same (u := U) (U := U.calling g mk a) rfl qX, qP, va_K.moved (u := U) (U := U.calling g mk a) (Vm.Alike.refl U.vm) qK, qD⟩, va_recv hKc hPc (ci := 8) (q0 := 0) rfl rfl, fun U hU hW => ⟨rfl, by rw [hU], zz_X.warm hW hzX, by rw [hU]; exact hPc, va_K.moved hW.alike hKc, hDc.weaken (fun _ _ _ _ => trivial)⟩⟩ rfl rfl hl.1 rfl (lv_room (Nat.le_of_ble_eq_true rfl)) dX10_read_62 ⟨Nat.le_of_ble_eq_true rfl, Nat.le_of_ble_eq_true rfl⟩) hS (fun q _ h => hFc q h) hFc (fun r9 u t H1 locs ht hvm hw hB hz1 hk1 hS => ?_)
  obtain ⟨hP1, hK1, hD1⟩ := hB
  rw [ht] at hP1
  have hK1 := va_K.moved hvm.symm hK1
  obtain ⟨hP, hD⟩ := va_join (wr := [(ur, .inr (10, [.ref tk, .int 0, .int 0])), (su, .inr (9, [.ref s1, .ref s2, .ref s3, .ref s4, .ref s5, .ref s6, .int 0])), (tp, .inr (7, [.ref tb, .int 0]))]) (w1 := [(tk, .inr (8, [.int 0, .int 0, .long 0, .int 0, .int 0, .int 1, .int 0, .ref tp, .int 400, .int 0, .int 0]))]) hP hD [2] [0, 1, 3] rfl rfl (by decide) (by decide) hk1 hFc hP1 hD1
  have hK := (hK.sub (tys' := [(k1, .long), (k2, .int), (k3, .long)]) [0, 1, 2] rfl).app (hK1.sub (tys' := []) [] rfl)
  generalize H1 = H at hP hS ⊢
  have hP : va_P (dC, dI) vwCl [(ur, .inr (10, [.ref tk, .int 0, .int 0])), (su, .inr (9, [.ref s1, .ref s2, .ref s3, .ref s4, .ref s5, .ref s6, .int 0])), (tp, .inr (7, [.ref tb, .int 0])), (tk, .inr (8, [.int 0, .int 0, .long 0, .int 0, .int 0, .int 1, .int 0, .ref tp, .int 400, .int 0, .int 0]))] H := hP
  have hD : va_D A [(ur, .inr (10, [.ref tk, .int 0, .int 0])), (su, .inr (9, [.ref s1, .ref s2, .ref s3, .ref s4, .ref s5, .ref s6, .int 0])), (tp, .inr (7, [.ref tb, .int 0])), (tk, .inr (8, [.int 0, .int 0, .long 0, .int 0, .int 0, .int 1, .int 0, .ref tp, .int 400, .int 0, .int 0]))] := hD
  have hK : va_K (dC, dI) vwCl [(k1, .long), (k2, .int), (k3, .long)] s := hK
  obtain rfl : r9 = 0 := hw
  refine W.widen (k := 0) (n := 0) (Nat.le_of_ble_eq_true rfl) (Nat.le_of_ble_eq_true rfl) ?_
  have hP9 := hP.sub (ws' := [(ur, .inr (10, [.ref tk, .int 0, .int 0])), (tk, .inr (8, [.int 0, .int 0, .long 0, .int 0, .int 0, .int 1, .int 0, .ref tp, .int 400, .int 0, .int 0])), (tp, .inr (7, [.ref tb, .int 0]))]) [0, 3, 2] rfl
  have hD9 := hD.sub (ws' := [(ur, .inr (10, [.ref tk, .int 0, .int 0])), (tk, .inr (8, [.int 0, .int 0, .long 0, .int 0, .int 0, .int 1, .int 0, .ref tp, .int 400, .int 0, .int 0])), (tp, .inr (7, [.ref tb, .int 0]))]) [0, 3, 2] (by decide) rfl
  have hK9 := hK.sub (tys' := []) [] rfl
  refine W.widen (k := 0) (n := 0) (Nat.le_of_ble_eq_true rfl) (Nat.le_of_ble_eq_true rfl) ?_
  exact W.zret (v := 0) hx hb hr rfl (fun t ht hW => ⟨⟨0, (), rfl, rfl, by rw [ht]; exact hP9, va_K.moved hW.alike hK9, hD9⟩, hS.F ht⟩) hS.2.2 dX10_read_65
theorem in_X11_systems_X10 : ∀ w ∈ wsX100, w ∈ wsX11_systems := fun _ h => List.mem_cons_of_mem _ (List.mem_append_left _ (List.mem_append_left _ (List.mem_append_left _ (List.mem_append_left _ (List.mem_append_right _ h)))))
theorem in_X11_systems_X11 : ∀ w ∈ wsX110, w ∈ wsX11_systems := fun _ h => List.mem_cons_of_mem _ (List.mem_append_left _ (List.mem_append_left _ (List.mem_append_left _ (List.mem_append_left _ (List.mem_append_left _ (List.mem_append_right _ h))))))
theorem in_X11_systems_X8 : ∀ w ∈ wsX80, w ∈ wsX11_systems := fun _ h => List.mem_cons_of_mem _ (List.mem_append_left _ (List.mem_append_left _ (List.mem_append_left _ (List.mem_append_right _ h))))
set_option maxHeartbeats 4000000 in
set_option maxRecDepth 100000 in
theorem c_systems (l : Launch) (dC : Nat → ClassId) (dI : Nat → Nat → Nat) (x : Nat) (tp : Nat) (ou : Nat) (sa : Nat) (ur : Nat) (tr : Nat) (so : Nat) (ma : Nat) (ta : Nat) (jt : Nat) (fr : Nat) (jo : Nat) (un : Nat) (su : Nat) (tb : Nat) (tk : Nat) (tt : Nat) (s1 : Nat) (s2 : Nat) (s3 : Nat) (s4 : Nat) (s5 : Nat) (s6 : Nat) (k1 : ClassId) (k2 : ClassId) (k3 : ClassId) (f1 : Nat → Int64) (f2 : Nat → Int32) (f3 : Nat → Int64) (sz : Nat)  : Met l yX11_systems wsX11_systems ({ frames := 3, cells := 0, slots := 0, locals := 67 } : Room) (va_Pc [.ref x] (fun U => U.heap.size = sz ∧ zz_X U ∧ va_P (dC, dI) vwCl [(x, .inr (11, [.ref tp, .ref ou, .ref sa, .ref ur, .ref tr, .ref so, .ref ma, .ref ta, .ref jt, .ref fr, .ref jo, .ref un, .ref su, .int 0, .int 0, .int 0])), (tp, .inr (7, [.ref tb, .int 0])), (ur, .inr (10, [.ref tk, .int 0, .int 0])), (tk, .inr (8, [.int 0, .int 0, .long 0, .int 0, .int 0, .int 0, .int 0, .ref tt, .int 0, .int 0, .int 0])), (su, .inr (9, [.ref s1, .ref s2, .ref s3, .ref s4, .ref s5, .ref s6, .int 0])), (s1, .inl (k1, 3, .inr (.inl f1))), (s2, .inl (k2, 3, .inl f2)), (s3, .inl (k3, 15, .inr (.inl f3)))] U.heap ∧ va_K (dC, dI) vwCl [(k1, .long), (k2, .int), (k3, .long)] U ∧ va_D (fun _ => True) [(x, .inr (11, [.ref tp, .ref ou, .ref sa, .ref ur, .ref tr, .ref so, .ref ma, .ref ta, .ref jt, .ref fr, .ref jo, .ref un, .ref su, .int 0, .int 0, .int 0])), (tp, .inr (7, [.ref tb, .int 0])), (ur, .inr (10, [.ref tk, .int 0, .int 0])), (tk, .inr (8, [.int 0, .int 0, .long 0, .int 0, .int 0, .int 0, .int 0, .ref tt, .int 0, .int 0, .int 0])), (su, .inr (9, [.ref s1, .ref s2, .ref s3, .ref s4, .ref s5, .ref s6, .int 0])), (s1, .inl (k1, 3, .inr (.inl f1))), (s2, .inl (k2, 3, .inl f2)), (s3, .inl (k3, 15, .inr (.inl f3)))])) (va_Qi (fun (r : Int32) (_ : Unit) => r = (-1)) (fun (_ : Unit) (t : State) => va_P (dC, dI) vwCl [] t.heap ∧ va_K (dC, dI) vwCl [] t ∧ va_D (va_A [(x, .inr (11, [.ref tp, .ref ou, .ref sa, .ref ur, .ref tr, .ref so, .ref ma, .ref ta, .ref jt, .ref fr, .ref jo, .ref un, .ref su, .int 0, .int 0, .int 0])), (tp, .inr (7, [.ref tb, .int 0])), (ur, .inr (10, [.ref tk, .int 0, .int 0])), (tk, .inr (8, [.int 0, .int 0, .long 0, .int 0, .int 0, .int 0, .int 0, .ref tt, .int 0, .int 0, .int 0])), (su, .inr (9, [.ref s1, .ref s2, .ref s3, .ref s4, .ref s5, .ref s6, .int 0])), (s1, .inl (k1, 3, .inr (.inl f1))), (s2, .inl (k2, 3, .inl f2)), (s3, .inl (k3, 15, .inr (.inl f3)))] sz) []) (va_A [(x, .inr (11, [.ref tp, .ref ou, .ref sa, .ref ur, .ref tr, .ref so, .ref ma, .ref ta, .ref jt, .ref fr, .ref jo, .ref un, .ref su, .int 0, .int 0, .int 0])), (tp, .inr (7, [.ref tb, .int 0])), (ur, .inr (10, [.ref tk, .int 0, .int 0])), (tk, .inr (8, [.int 0, .int 0, .long 0, .int 0, .int 0, .int 0, .int 0, .ref tt, .int 0, .int 0, .int 0])), (su, .inr (9, [.ref s1, .ref s2, .ref s3, .ref s4, .ref s5, .ref s6, .int 0])), (s1, .inl (k1, 3, .inr (.inl f1))), (s2, .inl (k2, 3, .inl f2)), (s3, .inl (k3, 15, .inr (.inl f3)))] sz)) 0 0 (va_A [(x, .inr (11, [.ref tp, .ref ou, .ref sa, .ref ur, .ref tr, .ref so, .ref ma, .ref ta, .ref jt, .ref fr, .ref jo, .ref un, .ref su, .int 0, .int 0, .int 0])), (tp, .inr (7, [.ref tb, .int 0])), (ur, .inr (10, [.ref tk, .int 0, .int 0])), (tk, .inr (8, [.int 0, .int 0, .long 0, .int 0, .int 0, .int 0, .int 0, .ref tt, .int 0, .int 0, .int 0])), (su, .inr (9, [.ref s1, .ref s2, .ref s3, .ref s4, .ref s5, .ref s6, .int 0])), (s1, .inl (k1, 3, .inr (.inl f1))), (s2, .inl (k2, 3, .inl f2)), (s3, .inl (k3, 15, .inr (.inl f3)))] sz) := by
  refine Met.ofW (cc := cX11_systems) (maxL := 3) (ret := (some .int)) (by decide) rfl ?_
  intro p e s m args below meth c s₁ B hml hv
  obtain ⟨rfl, hsz, hzX, hP, hK, hD0⟩ := hv
  have hx := B.exec
  have hb := B.bytes
  have hr := B.returns
  have hts := atoms_spec (ws := wsX11_systems) B.pre
  have hown : s.vm.findClass RX11 = some m.cls := findClass_of_methodNamed B.named
  have hlocks := B.notSynchronized
  subst hsz
  have hD := hD0.self (sz := s.heap.size)
  generalize hAe : va_A [(x, .inr (11, [.ref tp, .ref ou, .ref sa, .ref ur, .ref tr, .ref so, .ref ma, .ref ta, .ref jt, .ref fr, .ref jo, .ref un, .ref su, .int 0, .int 0, .int 0])), (tp, .inr (7, [.ref tb, .int 0])), (ur, .inr (10, [.ref tk, .int 0, .int 0])), (tk, .inr (8, [.int 0, .int 0, .long 0, .int 0, .int 0, .int 0, .int 0, .ref tt, .int 0, .int 0, .int 0])), (su, .inr (9, [.ref s1, .ref s2, .ref s3, .ref s4, .ref s5, .ref s6, .int 0])), (s1, .inl (k1, 3, .inr (.inl f1))), (s2, .inl (k2, 3, .inl f2)), (s3, .inl (k3, 15, .inr (.inl f3)))] s.heap.size = A at  hD ⊢
  have hA : ∀ q : Nat, s.heap.size ≤ q → A q := fun q h => by rw [← hAe]; exact Or.inr h
  have hS : va_S A s.heap s.heap [] := va_S.rf
  have hP : va_P (dC, dI) vwCl [(x, .inr (11, [.ref tp, .ref ou, .ref sa, .ref ur, .ref tr, .ref so, .ref ma, .ref ta, .ref jt, .ref fr, .ref jo, .ref un, .ref su, .int 0, .int 0, .int 0])), (tp, .inr (7, [.ref tb, .int 0])), (ur, .inr (10, [.ref tk, .int 0, .int 0])), (tk, .inr (8, [.int 0, .int 0, .long 0, .int 0, .int 0, .int 0, .int 0, .ref tt, .int 0, .int 0, .int 0])), (su, .inr (9, [.ref s1, .ref s2, .ref s3, .ref s4, .ref s5, .ref s6, .int 0])), (s1, .inl (k1, 3, .inr (.inl f1))), (s2, .inl (k2, 3, .inl f2)), (s3, .inl (k3, 15, .inr (.inl f3)))] s.heap := hP
  have hl := lv_entry ([.ref x]) (n := 3) (Nat.le_of_ble_eq_true rfl)
  rw [lg_entry_eq]
  generalize (lg_sl ([.ref x]) ++ List.replicate (3 - (lg_sl ([.ref x])).length) Slot.unset).toArray = ls at hl ⊢
  have hl : lv_has ls 3 [(0, .ref x)] := hl
  skip
  refine lv_aload_n hx hb dX11_systems_0 rfl (lv_at hl 0 rfl) ?_
  refine va_get (D := (dC, dI)) (ci := 11) (v := .ref ur) (C := RX11) (T := TX11) (N := 16) hx hb hts in_X11_systems_X11 hown hK hP 0 rfl rfl 3 (by decide) (hts (.fieldLink RX11 27 "ClayAccounts" "unitsReader" "LClayAccounts$UnitsReader;") (by decide +kernel)) (fun _ h9 => h9) rfl dX11_systems_1 ?_
  refine lv_aload_n hx hb dX11_systems_4 rfl (lv_at hl 0 rfl) ?_
  refine va_get (D := (dC, dI)) (ci := 11) (v := .ref tp) (C := RX11) (T := TX11) (N := 16) hx hb hts in_X11_systems_X11 hown hK hP 0 rfl rfl 0 (by decide) (hts (.fieldLink RX11 14 "ClayAccounts" "tape" "LClayAccounts$Text;") (by decide +kernel)) (fun _ h9 => h9) rfl dX11_systems_5 ?_
  refine lv_aload_n hx hb dX11_systems_8 rfl (lv_at hl 0 rfl) ?_
  refine va_get (D := (dC, dI)) (ci := 11) (v := .ref su) (C := RX11) (T := TX11) (N := 16) hx hb hts in_X11_systems_X11 hown hK hP 0 rfl rfl 12 (by decide) (hts (.fieldLink RX11 80 "ClayAccounts" "spareUnits" "LClayAccounts$Units;") (by decide +kernel)) (fun _ h9 => h9) rfl dX11_systems_9 ?_
  have hPc := hP.sub (ws' := [(ur, .inr (10, [.ref tk, .int 0, .int 0])), (tk, .inr (8, [.int 0, .int 0, .long 0, .int 0, .int 0, .int 0, .int 0, .ref tt, .int 0, .int 0, .int 0])), (tp, .inr (7, [.ref tb, .int 0])), (su, .inr (9, [.ref s1, .ref s2, .ref s3, .ref s4, .ref s5, .ref s6, .int 0])), (s1, .inl (k1, 3, .inr (.inl f1))), (s2, .inl (k2, 3, .inl f2)), (s3, .inl (k3, 15, .inr (.inl f3)))]) [2, 3, 1, 4, 5, 6, 7] rfl
  have hDc := hD.sub (ws' := [(ur, .inr (10, [.ref tk, .int 0, .int 0])), (tk, .inr (8, [.int 0, .int 0, .long 0, .int 0, .int 0, .int 0, .int 0, .ref tt, .int 0, .int 0, .int 0])), (tp, .inr (7, [.ref tb, .int 0])), (su, .inr (9, [.ref s1, .ref s2, .ref s3, .ref s4, .ref s5, .ref s6, .int 0])), (s1, .inl (k1, 3, .inr (.inl f1))), (s2, .inl (k2, 3, .inl f2)), (s3, .inl (k3, 15, .inr (.inl f3)))]) [2, 3, 1, 4, 5, 6, 7] (by decide) rfl
  have hKc := hK.sub (tys' := [(k1, .long), (k2, .int), (k3, .long)]) [0, 1, 2] rfl
  have hFc := va_free (wc := [(ur, .inr (10, [.ref tk, .int 0, .int 0])), (tk, .inr (8, [.int 0, .int 0, .long 0, .int 0, .int 0, .int 0, .int 0, .ref tt, .int 0, .int 0, .int 0])), (tp, .inr (7, [.ref tb, .int 0])), (su, .inr (9, [.ref s1, .ref s2, .ref s3, .ref s4, .ref s5, .ref s6, .int 0])), (s1, .inl (k1, 3, .inr (.inl f1))), (s2, .inl (k2, 3, .inl f2)), (s3, .inl (k3, 15, .inr (.inl f3)))]) hD hS hA [2, 3, 1, 4, 5, 6, 7] rfl
  refine va_calli (va_runV (As := [.ref tp, .ref su]) (rest := []) ⟨hx, hb, hml, hown, hts⟩ (c_Uread l dC dI ur tk tt tp tb su s1 s2 s3 s4 s5 s6 k1 k2 k3 f1 f2 f3 s.heap.size ) (cwV 2 hts gX11_systems_X10_read rfl rfl rfl (by decide +kernel) ⟨Nat.le_of_ble_eq_true rfl, Nat.le_of_ble_eq_true rfl⟩) ⟨fun a U g mk q => by obtain ⟨q0, q1, qX, qP, qK, qD⟩ := q; exact ⟨q0, q1, zz_X.same (u := U) (U := U.calling g mk a) rfl qX, qP, va_K.moved (u := U) (U := U.calling g mk a) (Vm.Alike.refl U.vm) qK, qD⟩, va_recv hKc hPc (ci := 10) (q0 := 0) rfl rfl, fun U hU hW => ⟨rfl, by rw [hU], zz_X.warm hW hzX, by rw [hU]; exact hPc, va_K.moved hW.alike hKc, hDc.weaken (fun _ _ _ _ => trivial)⟩⟩ rfl rfl hl.1 rfl (lv_room (Nat.le_of_ble_eq_true rfl)) dX11_systems_12 ⟨Nat.le_of_ble_eq_true rfl, Nat.le_of_ble_eq_true rfl⟩) hS (fun q _ h => hFc q h) hFc (fun r9 u t H1 locs ht hvm hw hB hz1 hk1 hS => ?_)
  obtain ⟨hP1, hK1, hD1⟩ := hB
  rw [ht] at hP1
  have hK1 := va_K.moved hvm.symm hK1
  obtain ⟨hP, hD⟩ := va_join (wr := [(x, .inr (11, [.ref tp, .ref ou, .ref sa, .ref ur, .ref tr, .ref so, .ref ma, .ref ta, .ref jt, .ref fr, .ref jo, .ref un, .ref su, .int 0, .int 0, .int 0]))]) (w1 := [(ur, .inr (10, [.ref tk, .int 0, .int 0])), (tk, .inr (8, [.int 0, .int 0, .long 0, .int 0, .int 0, .int 1, .int 0, .ref tp, .int 400, .int 0, .int 0])), (tp, .inr (7, [.ref tb, .int 0]))]) hP hD [2, 3, 1, 4, 5, 6, 7] [0] rfl rfl (by decide) (by decide) hk1 hFc hP1 hD1
  have hK := (hK.sub (tys' := [(k1, .long), (k2, .int), (k3, .long)]) [0, 1, 2] rfl).app (hK1.sub (tys' := []) [] rfl)
  generalize H1 = H at hP hS ⊢
  have hP : va_P (dC, dI) vwCl [(x, .inr (11, [.ref tp, .ref ou, .ref sa, .ref ur, .ref tr, .ref so, .ref ma, .ref ta, .ref jt, .ref fr, .ref jo, .ref un, .ref su, .int 0, .int 0, .int 0])), (ur, .inr (10, [.ref tk, .int 0, .int 0])), (tk, .inr (8, [.int 0, .int 0, .long 0, .int 0, .int 0, .int 1, .int 0, .ref tp, .int 400, .int 0, .int 0])), (tp, .inr (7, [.ref tb, .int 0]))] H := hP
  have hD : va_D A [(x, .inr (11, [.ref tp, .ref ou, .ref sa, .ref ur, .ref tr, .ref so, .ref ma, .ref ta, .ref jt, .ref fr, .ref jo, .ref un, .ref su, .int 0, .int 0, .int 0])), (ur, .inr (10, [.ref tk, .int 0, .int 0])), (tk, .inr (8, [.int 0, .int 0, .long 0, .int 0, .int 0, .int 1, .int 0, .ref tp, .int 400, .int 0, .int 0])), (tp, .inr (7, [.ref tb, .int 0]))] := hD
  have hK : va_K (dC, dI) vwCl [(k1, .long), (k2, .int), (k3, .long)] s := hK
  obtain rfl : r9 = 0 := hw
  refine W.widen (k := 0) (n := 0) (Nat.le_of_ble_eq_true rfl) (Nat.le_of_ble_eq_true rfl) ?_
  refine lv_istore_n (lv' := [(1, .int 0), (0, .ref x)]) hx hb dX11_systems_15 rfl hl (by decide) rfl (fun ls hl => ?_)
  refine lv_aload_n hx hb dX11_systems_16 rfl (lv_at hl 1 rfl) ?_
  refine va_get (D := (dC, dI)) (ci := 11) (v := .ref tp) (C := RX11) (T := TX11) (N := 16) hx hb hts in_X11_systems_X11 hown hK hP 0 rfl rfl 0 (by decide) (hts (.fieldLink RX11 14 "ClayAccounts" "tape" "LClayAccounts$Text;") (by decide +kernel)) (fun _ h9 => h9) rfl dX11_systems_17 ?_
  have hPc := hP.sub (ws' := [(tp, .inr (7, [.ref tb, .int 0]))]) [3] rfl
  have hDc := hD.sub (ws' := [(tp, .inr (7, [.ref tb, .int 0]))]) [3] (by decide) rfl
  have hKc := hK.sub (tys' := []) [] rfl
  have hFc := va_free (wc := [(tp, .inr (7, [.ref tb, .int 0]))]) hD hS hA [3] rfl
  refine va_callv (va_runV (As := []) (rest := []) ⟨hx, hb, hml, hown, hts⟩ (c_clear l dC dI tp tb 0 H.size ) (cwV 0 hts gX11_systems_X7_clear rfl rfl rfl (by decide +kernel) ⟨Nat.le_of_ble_eq_true rfl, Nat.le_of_ble_eq_true rfl⟩) ⟨fun a U g mk q => by obtain ⟨q0, q1, qX, qP, qK, qD⟩ := q; exact ⟨q0, q1, zz_X.same (u := U) (U := U.calling g mk a) rfl qX, qP, va_K.moved (u := U) (U := U.calling g mk a) (Vm.Alike.refl U.vm) qK, qD⟩, va_recv hKc hPc (ci := 7) (q0 := 0) rfl rfl, fun U hU hW => ⟨rfl, by rw [hU], zz_X.warm hW hzX, by rw [hU]; exact hPc, va_K.moved hW.alike hKc, hDc.weaken (fun _ _ _ _ => trivial)⟩⟩ rfl rfl hl.1 rfl (lv_room (Nat.le_of_ble_eq_true rfl)) dX11_systems_20 ⟨Nat.le_of_ble_eq_true rfl, Nat.le_of_ble_eq_true rfl⟩) hS (fun q _ h => hFc q h) hFc (fun u t H1 locs ht hvm hw hB hz1 hk1 hS => ?_)
  obtain ⟨hP1, hK1, hD1⟩ := hB
  rw [ht] at hP1
  have hK1 := va_K.moved hvm.symm hK1
  obtain ⟨hP, hD⟩ := va_join (wr := [(x, .inr (11, [.ref tp, .ref ou, .ref sa, .ref ur, .ref tr, .ref so, .ref ma, .ref ta, .ref jt, .ref fr, .ref jo, .ref un, .ref su, .int 0, .int 0, .int 0])), (ur, .inr (10, [.ref tk, .int 0, .int 0])), (tk, .inr (8, [.int 0, .int 0, .long 0, .int 0, .int 0, .int 1, .int 0, .ref tp, .int 400, .int 0, .int 0]))]) (w1 := [(tp, .inr (7, [.ref tb, .int 0]))]) hP hD [3] [0, 1, 2] rfl rfl (by decide) (by decide) hk1 hFc hP1 hD1
  have hK := (hK.sub (tys' := [(k1, .long), (k2, .int), (k3, .long)]) [0, 1, 2] rfl).app (hK1.sub (tys' := []) [] rfl)
  generalize H1 = H at hP hS ⊢
  have hP : va_P (dC, dI) vwCl [(x, .inr (11, [.ref tp, .ref ou, .ref sa, .ref ur, .ref tr, .ref so, .ref ma, .ref ta, .ref jt, .ref fr, .ref jo, .ref un, .ref su, .int 0, .int 0, .int 0])), (ur, .inr (10, [.ref tk, .int 0, .int 0])), (tk, .inr (8, [.int 0, .int 0, .long 0, .int 0, .int 0, .int 1, .int 0, .ref tp, .int 400, .int 0, .int 0])), (tp, .inr (7, [.ref tb, .int 0]))] H := hP
  have hD : va_D A [(x, .inr (11, [.ref tp, .ref ou, .ref sa, .ref ur, .ref tr, .ref so, .ref ma, .ref ta, .ref jt, .ref fr, .ref jo, .ref un, .ref su, .int 0, .int 0, .int 0])), (ur, .inr (10, [.ref tk, .int 0, .int 0])), (tk, .inr (8, [.int 0, .int 0, .long 0, .int 0, .int 0, .int 1, .int 0, .ref tp, .int 400, .int 0, .int 0])), (tp, .inr (7, [.ref tb, .int 0]))] := hD
  have hK : va_K (dC, dI) vwCl [(k1, .long), (k2, .int), (k3, .long)] s := hK
  refine W.widen (k := 0) (n := 0) (Nat.le_of_ble_eq_true rfl) (Nat.le_of_ble_eq_true rfl) ?_
  refine lv_aload_n hx hb dX11_systems_23 rfl (lv_at hl 1 rfl) ?_
  refine lv_aload_n hx hb dX11_systems_24 rfl (lv_at hl 1 rfl) ?_
  refine va_get (D := (dC, dI)) (ci := 11) (v := .ref ur) (C := RX11) (T := TX11) (N := 16) hx hb hts in_X11_systems_X11 hown hK hP 0 rfl rfl 3 (by decide) (hts (.fieldLink RX11 27 "ClayAccounts" "unitsReader" "LClayAccounts$UnitsReader;") (by decide +kernel)) (fun _ h9 => h9) rfl dX11_systems_25 ?_
  refine va_get (D := (dC, dI)) (ci := 10) (v := .ref tk) (C := RX10) (T := TX10) (N := 3) hx hb hts in_X11_systems_X10 hown hK hP 1 rfl rfl 0 (by decide) (hts (.fieldLink RX11 113 "ClayAccounts$UnitsReader" "tokens" "LClayAccounts$Tokens;") (by decide +kernel)) (fun _ h9 => h9) rfl dX11_systems_28 ?_
  refine va_get (D := (dC, dI)) (ci := 8) (v := .int 1) (C := RX8) (T := TX8) (N := 11) hx hb hts in_X11_systems_X8 hown hK hP 2 rfl rfl 5 (by decide) (hts (.fieldLink RX11 117 "ClayAccounts$Tokens" "fault" "I") (by decide +kernel)) (fun _ h9 => h9) rfl dX11_systems_31 ?_
  refine va_put (D := (dC, dI)) (ci := 11) (v := .int 1) (ty := .int) (C := RX11) (T := TX11) (N := 16) hx hb hts in_X11_systems_X11 tyX11 tyX11_ok nmX11 hown hK hP hD hS 0 rfl rfl 15 (by decide) (hts (.fieldLink RX11 97 "ClayAccounts" "faultKind" "I") (by decide +kernel)) (fun _ h9 => h9) rfl (by decide +kernel) rfl rfl (Nat.le_of_ble_eq_true rfl) dX11_systems_34 (fun H locs hP hD hS => ?_)
  have hP : va_P (dC, dI) vwCl [(x, .inr (11, [.ref tp, .ref ou, .ref sa, .ref ur, .ref tr, .ref so, .ref ma, .ref ta, .ref jt, .ref fr, .ref jo, .ref un, .ref su, .int 0, .int 0, .int 1])), (ur, .inr (10, [.ref tk, .int 0, .int 0])), (tk, .inr (8, [.int 0, .int 0, .long 0, .int 0, .int 0, .int 1, .int 0, .ref tp, .int 400, .int 0, .int 0])), (tp, .inr (7, [.ref tb, .int 0]))] H := hP
  have hD : va_D A [(x, .inr (11, [.ref tp, .ref ou, .ref sa, .ref ur, .ref tr, .ref so, .ref ma, .ref ta, .ref jt, .ref fr, .ref jo, .ref un, .ref su, .int 0, .int 0, .int 1])), (ur, .inr (10, [.ref tk, .int 0, .int 0])), (tk, .inr (8, [.int 0, .int 0, .long 0, .int 0, .int 0, .int 1, .int 0, .ref tp, .int 400, .int 0, .int 0])), (tp, .inr (7, [.ref tb, .int 0]))] := hD
  refine lv_iload_n hx hb dX11_systems_37 rfl (lv_at hl 0 rfl) ?_
  refine lv_if_ne (tgt := 54) hx hb dX11_systems_38 (by decide) (fun c9 => absurd (by decide) c9) (fun c9 => ?_)
  refine lv_iconst (v := (-1)) hx hb dX11_systems_41 (by decide) ?_
  refine lv_aload_n hx hb dX11_systems_42 rfl (lv_at hl 1 rfl) ?_
  refine va_get (D := (dC, dI)) (ci := 11) (v := .ref ur) (C := RX11) (T := TX11) (N := 16) hx hb hts in_X11_systems_X11 hown hK hP 0 rfl rfl 3 (by decide) (hts (.fieldLink RX11 27 "ClayAccounts" "unitsReader" "LClayAccounts$UnitsReader;") (by decide +kernel)) (fun _ h9 => h9) rfl dX11_systems_43 ?_
  refine va_get (D := (dC, dI)) (ci := 10) (v := .ref tk) (C := RX10) (T := TX10) (N := 3) hx hb hts in_X11_systems_X10 hown hK hP 1 rfl rfl 0 (by decide) (hts (.fieldLink RX11 113 "ClayAccounts$UnitsReader" "tokens" "LClayAccounts$Tokens;") (by decide +kernel)) (fun _ h9 => h9) rfl dX11_systems_46 ?_
  refine va_get (D := (dC, dI)) (ci := 8) (v := .int 0) (C := RX8) (T := TX8) (N := 11) hx hb hts in_X11_systems_X8 hown hK hP 2 rfl rfl 6 (by decide) (hts (.fieldLink RX11 122 "ClayAccounts$Tokens" "faultPlace" "I") (by decide +kernel)) (fun _ h9 => h9) rfl dX11_systems_49 ?_
  refine lv_isub hx hb dX11_systems_52 ?_
  refine zz_top (y := (-1)) (by decide) ?_
  have hP9 := hP.sub (ws' := []) [] rfl
  have hD9 := hD.sub (ws' := []) [] (by decide) rfl
  have hK9 := hK.sub (tys' := []) [] rfl
  refine W.widen (k := 0) (n := 0) (Nat.le_of_ble_eq_true rfl) (Nat.le_of_ble_eq_true rfl) ?_
  exact W.iret (v := (-1)) hx hb hr (fun t ht hW => ⟨⟨(-1), (), rfl, rfl, by rw [ht]; exact hP9, va_K.moved hW.alike hK9, hD9⟩, hS.F ht⟩) hS.2.2 dX11_systems_53
theorem in_X11_fault_X11 : ∀ w ∈ wsX110, w ∈ wsX11_fault := fun _ h => List.mem_cons_of_mem _ (List.mem_append_right _ h)
set_option maxHeartbeats 4000000 in
set_option maxRecDepth 100000 in
theorem c_fault (l : Launch) (dC : Nat → ClassId) (dI : Nat → Nat → Nat) (x : Nat) (tp : Nat) (ou : Nat) (sa : Nat) (ur : Nat) (tr : Nat) (so : Nat) (ma : Nat) (ta : Nat) (jt : Nat) (fr : Nat) (jo : Nat) (un : Nat) (su : Nat) (sz : Nat)  : Met l yX11_fault wsX11_fault ({ frames := 0, cells := 0, slots := 0, locals := 0 } : Room) (va_Pc [.ref x] (fun U => U.heap.size = sz ∧ zz_X U ∧ va_P (dC, dI) vwCl [(x, .inr (11, [.ref tp, .ref ou, .ref sa, .ref ur, .ref tr, .ref so, .ref ma, .ref ta, .ref jt, .ref fr, .ref jo, .ref un, .ref su, .int 0, .int 0, .int 0]))] U.heap ∧ va_K (dC, dI) vwCl [] U ∧ va_D (fun _ => True) [(x, .inr (11, [.ref tp, .ref ou, .ref sa, .ref ur, .ref tr, .ref so, .ref ma, .ref ta, .ref jt, .ref fr, .ref jo, .ref un, .ref su, .int 0, .int 0, .int 0]))])) (va_Qi (fun (r : Int32) (_ : Unit) => r = 0) (fun (_ : Unit) (t : State) => va_P (dC, dI) vwCl [] t.heap ∧ va_K (dC, dI) vwCl [] t ∧ va_D (va_A [(x, .inr (11, [.ref tp, .ref ou, .ref sa, .ref ur, .ref tr, .ref so, .ref ma, .ref ta, .ref jt, .ref fr, .ref jo, .ref un, .ref su, .int 0, .int 0, .int 0]))] sz) []) (va_A [(x, .inr (11, [.ref tp, .ref ou, .ref sa, .ref ur, .ref tr, .ref so, .ref ma, .ref ta, .ref jt, .ref fr, .ref jo, .ref un, .ref su, .int 0, .int 0, .int 0]))] sz)) 0 0 (va_A [(x, .inr (11, [.ref tp, .ref ou, .ref sa, .ref ur, .ref tr, .ref so, .ref ma, .ref ta, .ref jt, .ref fr, .ref jo, .ref un, .ref su, .int 0, .int 0, .int 0]))] sz) := by
  refine Met.ofW (cc := cX11_fault) (maxL := 1) (ret := (some .int)) (by decide) rfl ?_
  intro p e s m args below meth c s₁ B hml hv
  obtain ⟨rfl, hsz, hzX, hP, hK, hD0⟩ := hv
  have hx := B.exec
  have hb := B.bytes
  have hr := B.returns
  have hts := atoms_spec (ws := wsX11_fault) B.pre
  have hown : s.vm.findClass RX11 = some m.cls := findClass_of_methodNamed B.named
  have hlocks := B.notSynchronized
  subst hsz
  have hD := hD0.self (sz := s.heap.size)
  generalize hAe : va_A [(x, .inr (11, [.ref tp, .ref ou, .ref sa, .ref ur, .ref tr, .ref so, .ref ma, .ref ta, .ref jt, .ref fr, .ref jo, .ref un, .ref su, .int 0, .int 0, .int 0]))] s.heap.size = A at  hD ⊢
  have hA : ∀ q : Nat, s.heap.size ≤ q → A q := fun q h => by rw [← hAe]; exact Or.inr h
  have hS : va_S A s.heap s.heap [] := va_S.rf
  have hP : va_P (dC, dI) vwCl [(x, .inr (11, [.ref tp, .ref ou, .ref sa, .ref ur, .ref tr, .ref so, .ref ma, .ref ta, .ref jt, .ref fr, .ref jo, .ref un, .ref su, .int 0, .int 0, .int 0]))] s.heap := hP
  have hl := lv_entry ([.ref x]) (n := 1) (Nat.le_of_ble_eq_true rfl)
  rw [lg_entry_eq]
  generalize (lg_sl ([.ref x]) ++ List.replicate (1 - (lg_sl ([.ref x])).length) Slot.unset).toArray = ls at hl ⊢
  have hl : lv_has ls 1 [(0, .ref x)] := hl
  skip
  refine lv_aload_n hx hb dX11_fault_0 rfl (lv_at hl 0 rfl) ?_
  refine va_get (D := (dC, dI)) (ci := 11) (v := .int 0) (C := RX11) (T := TX11) (N := 16) hx hb hts in_X11_fault_X11 hown hK hP 0 rfl rfl 15 (by decide) (hts (.fieldLink RX11 97 "ClayAccounts" "faultKind" "I") (by decide +kernel)) (fun _ h9 => h9) rfl dX11_fault_1 ?_
  have hP9 := hP.sub (ws' := []) [] rfl
  have hD9 := hD.sub (ws' := []) [] (by decide) rfl
  have hK9 := hK.sub (tys' := []) [] rfl
  refine W.widen (k := 0) (n := 0) (Nat.le_of_ble_eq_true rfl) (Nat.le_of_ble_eq_true rfl) ?_
  exact W.iret (v := 0) hx hb hr (fun t ht hW => ⟨⟨0, (), rfl, rfl, by rw [ht]; exact hP9, va_K.moved hW.alike hK9, hD9⟩, hS.F ht⟩) hS.2.2 dX11_fault_4
set_option maxHeartbeats 4000000 in
set_option maxRecDepth 100000 in
theorem c_write (l : Launch) (dC : Nat → ClassId) (dI : Nat → Nat → Nat) (x : Nat) (tp : Nat) (ou : Nat) (sa : Nat) (ur : Nat) (tr : Nat) (so : Nat) (ma : Nat) (ta : Nat) (jt : Nat) (fr : Nat) (jo : Nat) (un : Nat) (su : Nat) (u1 : Nat) (u2 : Nat) (u3 : Nat) (u4 : Nat) (u5 : Nat) (u6 : Nat) (n1 : Int32) (n2 : Int32) (sz : Nat)  : Met l yX11_write wsX11_write ({ frames := 1, cells := 0, slots := 0, locals := 21 } : Room) (va_Pc [.ref x, .int n1, .int n2] (fun U => U.heap.size = sz ∧ zz_X U ∧ va_P (dC, dI) vwCl [(x, .inr (11, [.ref tp, .ref ou, .ref sa, .ref ur, .ref tr, .ref so, .ref ma, .ref ta, .ref jt, .ref fr, .ref jo, .ref un, .ref su, .int 0, .int 0, .int 0])), (un, .inr (9, [.ref u1, .ref u2, .ref u3, .ref u4, .ref u5, .ref u6, .int 0]))] U.heap ∧ va_K (dC, dI) vwCl [] U ∧ va_D (fun _ => True) [(x, .inr (11, [.ref tp, .ref ou, .ref sa, .ref ur, .ref tr, .ref so, .ref ma, .ref ta, .ref jt, .ref fr, .ref jo, .ref un, .ref su, .int 0, .int 0, .int 0])), (un, .inr (9, [.ref u1, .ref u2, .ref u3, .ref u4, .ref u5, .ref u6, .int 0]))])) (va_Qi (fun (r : Int32) (_ : Unit) => r = (-1)) (fun (_ : Unit) (t : State) => va_P (dC, dI) vwCl [] t.heap ∧ va_K (dC, dI) vwCl [] t ∧ va_D (va_A [(x, .inr (11, [.ref tp, .ref ou, .ref sa, .ref ur, .ref tr, .ref so, .ref ma, .ref ta, .ref jt, .ref fr, .ref jo, .ref un, .ref su, .int 0, .int 0, .int 0])), (un, .inr (9, [.ref u1, .ref u2, .ref u3, .ref u4, .ref u5, .ref u6, .int 0]))] sz) []) (va_A [(x, .inr (11, [.ref tp, .ref ou, .ref sa, .ref ur, .ref tr, .ref so, .ref ma, .ref ta, .ref jt, .ref fr, .ref jo, .ref un, .ref su, .int 0, .int 0, .int 0])), (un, .inr (9, [.ref u1, .ref u2, .ref u3, .ref u4, .ref u5, .ref u6, .int 0]))] sz)) 0 0 (va_A [(x, .inr (11, [.ref tp, .ref ou, .ref sa, .ref ur, .ref tr, .ref so, .ref ma, .ref ta, .ref jt, .ref fr, .ref jo, .ref un, .ref su, .int 0, .int 0, .int 0])), (un, .inr (9, [.ref u1, .ref u2, .ref u3, .ref u4, .ref u5, .ref u6, .int 0]))] sz) := by
  refine Met.ofW (cc := cX11_write) (maxL := 3) (ret := (some .int)) (by decide) rfl ?_
  intro p e s m args below meth c s₁ B hml hv
  obtain ⟨rfl, hsz, hzX, hP, hK, hD0⟩ := hv
  have hx := B.exec
  have hb := B.bytes
  have hr := B.returns
  have hts := atoms_spec (ws := wsX11_write) B.pre
  have hown : s.vm.findClass RX11 = some m.cls := findClass_of_methodNamed B.named
  have hlocks := B.notSynchronized
  subst hsz
  have hD := hD0.self (sz := s.heap.size)
  generalize hAe : va_A [(x, .inr (11, [.ref tp, .ref ou, .ref sa, .ref ur, .ref tr, .ref so, .ref ma, .ref ta, .ref jt, .ref fr, .ref jo, .ref un, .ref su, .int 0, .int 0, .int 0])), (un, .inr (9, [.ref u1, .ref u2, .ref u3, .ref u4, .ref u5, .ref u6, .int 0]))] s.heap.size = A at  hD ⊢
  have hA : ∀ q : Nat, s.heap.size ≤ q → A q := fun q h => by rw [← hAe]; exact Or.inr h
  have hS : va_S A s.heap s.heap [] := va_S.rf
  have hP : va_P (dC, dI) vwCl [(x, .inr (11, [.ref tp, .ref ou, .ref sa, .ref ur, .ref tr, .ref so, .ref ma, .ref ta, .ref jt, .ref fr, .ref jo, .ref un, .ref su, .int 0, .int 0, .int 0])), (un, .inr (9, [.ref u1, .ref u2, .ref u3, .ref u4, .ref u5, .ref u6, .int 0]))] s.heap := hP
  have hl := lv_entry ([.ref x, .int n1, .int n2]) (n := 3) (Nat.le_of_ble_eq_true rfl)
  rw [lg_entry_eq]
  generalize (lg_sl ([.ref x, .int n1, .int n2]) ++ List.replicate (3 - (lg_sl ([.ref x, .int n1, .int n2])).length) Slot.unset).toArray = ls at hl ⊢
  have hl : lv_has ls 3 [(0, .ref x), (1, .int n1), (2, .int n2)] := hl
  skip
  refine lv_aload_n hx hb dX11_write_0 rfl (lv_at hl 0 rfl) ?_
  refine lv_iload_n hx hb dX11_write_1 rfl (lv_at hl 1 rfl) ?_
  have hPc := hP.sub (ws' := [(x, .inr (11, [.ref tp, .ref ou, .ref sa, .ref ur, .ref tr, .ref so, .ref ma, .ref ta, .ref jt, .ref fr, .ref jo, .ref un, .ref su, .int 0, .int 0, .int 0])), (un, .inr (9, [.ref u1, .ref u2, .ref u3, .ref u4, .ref u5, .ref u6, .int 0]))]) [0, 1] rfl
  have hDc := hD.sub (ws' := [(x, .inr (11, [.ref tp, .ref ou, .ref sa, .ref ur, .ref tr, .ref so, .ref ma, .ref ta, .ref jt, .ref fr, .ref jo, .ref un, .ref su, .int 0, .int 0, .int 0])), (un, .inr (9, [.ref u1, .ref u2, .ref u3, .ref u4, .ref u5, .ref u6, .int 0]))]) [0, 1] (by decide) rfl
  have hKc := hK.sub (tys' := []) [] rfl
  have hFc := va_free (wc := [(x, .inr (11, [.ref tp, .ref ou, .ref sa, .ref ur, .ref tr, .ref so, .ref ma, .ref ta, .ref jt, .ref fr, .ref jo, .ref un, .ref su, .int 0, .int 0, .int 0])), (un, .inr (9, [.ref u1, .ref u2, .ref u3, .ref u4, .ref u5, .ref u6, .int 0]))]) hD hS hA [0, 1] rfl
  refine va_calli (va_runV (As := [.int n1]) (rest := []) ⟨hx, hb, hml, hown, hts⟩ (c_isSystem l dC dI x tp ou sa ur tr so ma ta jt fr jo un su u1 u2 u3 u4 u5 u6 n1 s.heap.size ) (cwV 1 hts gX11_write_X11_isSystem rfl rfl rfl (by decide +kernel) ⟨Nat.le_of_ble_eq_true rfl, Nat.le_of_ble_eq_true rfl⟩) ⟨fun a U g mk q => by obtain ⟨q0, q1, qX, qP, qK, qD⟩ := q; exact ⟨q0, q1, zz_X.same (u := U) (U := U.calling g mk a) rfl qX, qP, va_K.moved (u := U) (U := U.calling g mk a) (Vm.Alike.refl U.vm) qK, qD⟩, va_recv hKc hPc (ci := 11) (q0 := 0) rfl rfl, fun U hU hW => ⟨rfl, by rw [hU], zz_X.warm hW hzX, by rw [hU]; exact hPc, va_K.moved hW.alike hKc, hDc.weaken (fun _ _ _ _ => trivial)⟩⟩ rfl rfl hl.1 rfl (lv_room (Nat.le_of_ble_eq_true rfl)) dX11_write_2 ⟨Nat.le_of_ble_eq_true rfl, Nat.le_of_ble_eq_true rfl⟩) hS (fun q _ h => hFc q h) hFc (fun r9 u t H1 locs ht hvm hw hB hz1 hk1 hS => ?_)
  obtain ⟨hP1, hK1, hD1⟩ := hB
  rw [ht] at hP1
  have hK1 := va_K.moved hvm.symm hK1
  obtain ⟨hP, hD⟩ := va_join (wr := []) (w1 := [(x, .inr (11, [.ref tp, .ref ou, .ref sa, .ref ur, .ref tr, .ref so, .ref ma, .ref ta, .ref jt, .ref fr, .ref jo, .ref un, .ref su, .int 0, .int 0, .int 0])), (un, .inr (9, [.ref u1, .ref u2, .ref u3, .ref u4, .ref u5, .ref u6, .int 0]))]) hP hD [0, 1] [] rfl rfl (by decide) (by decide) hk1 hFc hP1 hD1
  have hK := (hK.sub (tys' := []) [] rfl).app (hK1.sub (tys' := []) [] rfl)
  generalize H1 = H at hP hS ⊢
  have hP : va_P (dC, dI) vwCl [(x, .inr (11, [.ref tp, .ref ou, .ref sa, .ref ur, .ref tr, .ref so, .ref ma, .ref ta, .ref jt, .ref fr, .ref jo, .ref un, .ref su, .int 0, .int 0, .int 0])), (un, .inr (9, [.ref u1, .ref u2, .ref u3, .ref u4, .ref u5, .ref u6, .int 0]))] H := hP
  have hD : va_D A [(x, .inr (11, [.ref tp, .ref ou, .ref sa, .ref ur, .ref tr, .ref so, .ref ma, .ref ta, .ref jt, .ref fr, .ref jo, .ref un, .ref su, .int 0, .int 0, .int 0])), (un, .inr (9, [.ref u1, .ref u2, .ref u3, .ref u4, .ref u5, .ref u6, .int 0]))] := hD
  have hK : va_K (dC, dI) vwCl [] s := hK
  obtain rfl : r9 = 0 := hw
  refine W.widen (k := 0) (n := 0) (Nat.le_of_ble_eq_true rfl) (Nat.le_of_ble_eq_true rfl) ?_
  refine lv_if_eq (tgt := 25) hx hb dX11_write_5 (by decide) (fun c9 => ?_) (fun c9 => absurd (by decide) c9)
  refine lv_iconst (v := (-1)) hx hb dX11_write_25 (by decide) ?_
  have hP9 := hP.sub (ws' := []) [] rfl
  have hD9 := hD.sub (ws' := []) [] (by decide) rfl
  have hK9 := hK.sub (tys' := []) [] rfl
  refine W.widen (k := 0) (n := 0) (Nat.le_of_ble_eq_true rfl) (Nat.le_of_ble_eq_true rfl) ?_
  exact W.iret (v := (-1)) hx hb hr (fun t ht hW => ⟨⟨(-1), (), rfl, rfl, by rw [ht]; exact hP9, va_K.moved hW.alike hK9, hD9⟩, hS.F ht⟩) hS.2.2 dX11_write_26
theorem in_X11_tablet_X11 : ∀ w ∈ wsX110, w ∈ wsX11_tablet := fun _ h => List.mem_cons_of_mem _ (List.mem_append_left _ (List.mem_append_left _ (List.mem_append_left _ (List.mem_append_left _ (List.mem_append_left _ (List.mem_append_left _ (List.mem_append_left _ (List.mem_append_right _ h))))))))
theorem in_X11_tablet_X9 : ∀ w ∈ wsX90, w ∈ wsX11_tablet := fun _ h => List.mem_cons_of_mem _ (List.mem_append_left _ (List.mem_append_left _ (List.mem_append_left _ (List.mem_append_left _ (List.mem_append_left _ (List.mem_append_left _ (List.mem_append_right _ h)))))))
set_option maxHeartbeats 4000000 in
set_option maxRecDepth 100000 in
theorem c_tablet (l : Launch) (dC : Nat → ClassId) (dI : Nat → Nat → Nat) (x : Nat) (tp : Nat) (ou : Nat) (sa : Nat) (ur : Nat) (tr : Nat) (so : Nat) (ma : Nat) (ta : Nat) (jt : Nat) (fr : Nat) (jo : Nat) (un : Nat) (su : Nat) (tb : Nat) (u1 : Nat) (u2 : Nat) (u3 : Nat) (u4 : Nat) (u5 : Nat) (u6 : Nat) (sz : Nat)  : Met l yX11_tablet wsX11_tablet ({ frames := 1, cells := 0, slots := 0, locals := 20 } : Room) (va_Pc [.ref x] (fun U => U.heap.size = sz ∧ zz_X U ∧ va_P (dC, dI) vwCl [(x, .inr (11, [.ref tp, .ref ou, .ref sa, .ref ur, .ref tr, .ref so, .ref ma, .ref ta, .ref jt, .ref fr, .ref jo, .ref un, .ref su, .int 0, .int 0, .int 0])), (tp, .inr (7, [.ref tb, .int 0])), (un, .inr (9, [.ref u1, .ref u2, .ref u3, .ref u4, .ref u5, .ref u6, .int 0]))] U.heap ∧ va_K (dC, dI) vwCl [] U ∧ va_D (fun _ => True) [(x, .inr (11, [.ref tp, .ref ou, .ref sa, .ref ur, .ref tr, .ref so, .ref ma, .ref ta, .ref jt, .ref fr, .ref jo, .ref un, .ref su, .int 0, .int 0, .int 0])), (tp, .inr (7, [.ref tb, .int 0])), (un, .inr (9, [.ref u1, .ref u2, .ref u3, .ref u4, .ref u5, .ref u6, .int 0]))])) (va_Qi (fun (r : Int32) (_ : Unit) => r = (-400)) (fun (_ : Unit) (t : State) => va_P (dC, dI) vwCl [] t.heap ∧ va_K (dC, dI) vwCl [] t ∧ va_D (va_A [(x, .inr (11, [.ref tp, .ref ou, .ref sa, .ref ur, .ref tr, .ref so, .ref ma, .ref ta, .ref jt, .ref fr, .ref jo, .ref un, .ref su, .int 0, .int 0, .int 0])), (tp, .inr (7, [.ref tb, .int 0])), (un, .inr (9, [.ref u1, .ref u2, .ref u3, .ref u4, .ref u5, .ref u6, .int 0]))] sz) []) (va_A [(x, .inr (11, [.ref tp, .ref ou, .ref sa, .ref ur, .ref tr, .ref so, .ref ma, .ref ta, .ref jt, .ref fr, .ref jo, .ref un, .ref su, .int 0, .int 0, .int 0])), (tp, .inr (7, [.ref tb, .int 0])), (un, .inr (9, [.ref u1, .ref u2, .ref u3, .ref u4, .ref u5, .ref u6, .int 0]))] sz)) 0 0 (va_A [(x, .inr (11, [.ref tp, .ref ou, .ref sa, .ref ur, .ref tr, .ref so, .ref ma, .ref ta, .ref jt, .ref fr, .ref jo, .ref un, .ref su, .int 0, .int 0, .int 0])), (tp, .inr (7, [.ref tb, .int 0])), (un, .inr (9, [.ref u1, .ref u2, .ref u3, .ref u4, .ref u5, .ref u6, .int 0]))] sz) := by
  refine Met.ofW (cc := cX11_tablet) (maxL := 3) (ret := (some .int)) (by decide) rfl ?_
  intro p e s m args below meth c s₁ B hml hv
  obtain ⟨rfl, hsz, hzX, hP, hK, hD0⟩ := hv
  have hx := B.exec
  have hb := B.bytes
  have hr := B.returns
  have hts := atoms_spec (ws := wsX11_tablet) B.pre
  have hown : s.vm.findClass RX11 = some m.cls := findClass_of_methodNamed B.named
  have hlocks := B.notSynchronized
  subst hsz
  have hD := hD0.self (sz := s.heap.size)
  generalize hAe : va_A [(x, .inr (11, [.ref tp, .ref ou, .ref sa, .ref ur, .ref tr, .ref so, .ref ma, .ref ta, .ref jt, .ref fr, .ref jo, .ref un, .ref su, .int 0, .int 0, .int 0])), (tp, .inr (7, [.ref tb, .int 0])), (un, .inr (9, [.ref u1, .ref u2, .ref u3, .ref u4, .ref u5, .ref u6, .int 0]))] s.heap.size = A at  hD ⊢
  have hA : ∀ q : Nat, s.heap.size ≤ q → A q := fun q h => by rw [← hAe]; exact Or.inr h
  have hS : va_S A s.heap s.heap [] := va_S.rf
  have hP : va_P (dC, dI) vwCl [(x, .inr (11, [.ref tp, .ref ou, .ref sa, .ref ur, .ref tr, .ref so, .ref ma, .ref ta, .ref jt, .ref fr, .ref jo, .ref un, .ref su, .int 0, .int 0, .int 0])), (tp, .inr (7, [.ref tb, .int 0])), (un, .inr (9, [.ref u1, .ref u2, .ref u3, .ref u4, .ref u5, .ref u6, .int 0]))] s.heap := hP
  have hl := lv_entry ([.ref x]) (n := 3) (Nat.le_of_ble_eq_true rfl)
  rw [lg_entry_eq]
  generalize (lg_sl ([.ref x]) ++ List.replicate (3 - (lg_sl ([.ref x])).length) Slot.unset).toArray = ls at hl ⊢
  have hl : lv_has ls 3 [(0, .ref x)] := hl
  skip
  refine lv_aload_n hx hb dX11_tablet_0 rfl (lv_at hl 0 rfl) ?_
  refine va_get (D := (dC, dI)) (ci := 11) (v := .int 0) (C := RX11) (T := TX11) (N := 16) hx hb hts in_X11_tablet_X11 hown hK hP 0 rfl rfl 13 (by decide) (hts (.fieldLink RX11 90 "ClayAccounts" "tabletCount" "I") (by decide +kernel)) (fun _ h9 => h9) rfl dX11_tablet_1 ?_
  refine lv_bipush (v := 8) hx hb dX11_tablet_4 (by decide) ?_
  refine lv_icmp_ge (tgt := 23) hx hb dX11_tablet_6 (by decide) (fun c9 => absurd c9 (by decide)) (fun c9 => ?_)
  refine lv_aload_n hx hb dX11_tablet_9 rfl (lv_at hl 0 rfl) ?_
  refine va_get (D := (dC, dI)) (ci := 11) (v := .ref un) (C := RX11) (T := TX11) (N := 16) hx hb hts in_X11_tablet_X11 hown hK hP 0 rfl rfl 11 (by decide) (hts (.fieldLink RX11 76 "ClayAccounts" "units" "LClayAccounts$Units;") (by decide +kernel)) (fun _ h9 => h9) rfl dX11_tablet_10 ?_
  refine va_get (D := (dC, dI)) (ci := 9) (v := .int 0) (C := RX9) (T := TX9) (N := 7) hx hb hts in_X11_tablet_X9 hown hK hP 2 rfl rfl 6 (by decide) (hts (.fieldLink RX11 128 "ClayAccounts$Units" "systemCount" "I") (by decide +kernel)) (fun _ h9 => h9) rfl dX11_tablet_13 ?_
  refine lv_if_le (tgt := 23) hx hb dX11_tablet_16 (by decide) (fun c9 => ?_) (fun c9 => absurd (by decide) c9)
  refine lv_iconst (v := 0) hx hb dX11_tablet_23 (by decide) ?_
  refine lv_istore_n (lv' := [(1, .int 0), (0, .ref x)]) hx hb dX11_tablet_24 rfl hl (by decide) rfl (fun ls hl => ?_)
  refine lv_iload_n hx hb dX11_tablet_25 rfl (lv_at hl 0 rfl) ?_
  refine lv_if_eq (tgt := 60) hx hb dX11_tablet_26 (by decide) (fun c9 => ?_) (fun c9 => absurd (by decide) c9)
  refine lv_iconst (v := 0) hx hb dX11_tablet_60 (by decide) ?_
  refine lv_istore_n (lv' := [(2, .int 0), (1, .int 0), (0, .ref x)]) hx hb dX11_tablet_61 rfl hl (by decide) rfl (fun ls hl => ?_)
  refine lv_aload_n hx hb dX11_tablet_62 rfl (lv_at hl 2 rfl) ?_
  refine va_get (D := (dC, dI)) (ci := 11) (v := .ref tp) (C := RX11) (T := TX11) (N := 16) hx hb hts in_X11_tablet_X11 hown hK hP 0 rfl rfl 0 (by decide) (hts (.fieldLink RX11 14 "ClayAccounts" "tape" "LClayAccounts$Text;") (by decide +kernel)) (fun _ h9 => h9) rfl dX11_tablet_63 ?_
  have hPc := hP.sub (ws' := [(tp, .inr (7, [.ref tb, .int 0]))]) [1] rfl
  have hDc := hD.sub (ws' := [(tp, .inr (7, [.ref tb, .int 0]))]) [1] (by decide) rfl
  have hKc := hK.sub (tys' := []) [] rfl
  have hFc := va_free (wc := [(tp, .inr (7, [.ref tb, .int 0]))]) hD hS hA [1] rfl
  refine va_callv (va_runV (As := []) (rest := []) ⟨hx, hb, hml, hown, hts⟩ (c_clear l dC dI tp tb 0 s.heap.size ) (cwV 0 hts gX11_tablet_X7_clear rfl rfl rfl (by decide +kernel) ⟨Nat.le_of_ble_eq_true rfl, Nat.le_of_ble_eq_true rfl⟩) ⟨fun a U g mk q => by obtain ⟨q0, q1, qX, qP, qK, qD⟩ := q; exact ⟨q0, q1, zz_X.same (u := U) (U := U.calling g mk a) rfl qX, qP, va_K.moved (u := U) (U := U.calling g mk a) (Vm.Alike.refl U.vm) qK, qD⟩, va_recv hKc hPc (ci := 7) (q0 := 0) rfl rfl, fun U hU hW => ⟨rfl, by rw [hU], zz_X.warm hW hzX, by rw [hU]; exact hPc, va_K.moved hW.alike hKc, hDc.weaken (fun _ _ _ _ => trivial)⟩⟩ rfl rfl hl.1 rfl (lv_room (Nat.le_of_ble_eq_true rfl)) dX11_tablet_66 ⟨Nat.le_of_ble_eq_true rfl, Nat.le_of_ble_eq_true rfl⟩) hS (fun q _ h => hFc q h) hFc (fun u t H1 locs ht hvm hw hB hz1 hk1 hS => ?_)
  obtain ⟨hP1, hK1, hD1⟩ := hB
  rw [ht] at hP1
  have hK1 := va_K.moved hvm.symm hK1
  obtain ⟨hP, hD⟩ := va_join (wr := [(x, .inr (11, [.ref tp, .ref ou, .ref sa, .ref ur, .ref tr, .ref so, .ref ma, .ref ta, .ref jt, .ref fr, .ref jo, .ref un, .ref su, .int 0, .int 0, .int 0])), (un, .inr (9, [.ref u1, .ref u2, .ref u3, .ref u4, .ref u5, .ref u6, .int 0]))]) (w1 := [(tp, .inr (7, [.ref tb, .int 0]))]) hP hD [1] [0, 2] rfl rfl (by decide) (by decide) hk1 hFc hP1 hD1
  have hK := (hK.sub (tys' := []) [] rfl).app (hK1.sub (tys' := []) [] rfl)
  generalize H1 = H at hP hS ⊢
  have hP : va_P (dC, dI) vwCl [(x, .inr (11, [.ref tp, .ref ou, .ref sa, .ref ur, .ref tr, .ref so, .ref ma, .ref ta, .ref jt, .ref fr, .ref jo, .ref un, .ref su, .int 0, .int 0, .int 0])), (un, .inr (9, [.ref u1, .ref u2, .ref u3, .ref u4, .ref u5, .ref u6, .int 0])), (tp, .inr (7, [.ref tb, .int 0]))] H := hP
  have hD : va_D A [(x, .inr (11, [.ref tp, .ref ou, .ref sa, .ref ur, .ref tr, .ref so, .ref ma, .ref ta, .ref jt, .ref fr, .ref jo, .ref un, .ref su, .int 0, .int 0, .int 0])), (un, .inr (9, [.ref u1, .ref u2, .ref u3, .ref u4, .ref u5, .ref u6, .int 0])), (tp, .inr (7, [.ref tb, .int 0]))] := hD
  have hK : va_K (dC, dI) vwCl [] s := hK
  refine W.widen (k := 0) (n := 0) (Nat.le_of_ble_eq_true rfl) (Nat.le_of_ble_eq_true rfl) ?_
  refine lv_iload_n hx hb dX11_tablet_69 rfl (lv_at hl 1 rfl) ?_
  refine lv_if_ne (tgt := 77) hx hb dX11_tablet_70 (by decide) (fun c9 => absurd (by decide) c9) (fun c9 => ?_)
  refine lv_sipush (v := (-400)) hx hb dX11_tablet_73 (by decide) ?_
  have hP9 := hP.sub (ws' := []) [] rfl
  have hD9 := hD.sub (ws' := []) [] (by decide) rfl
  have hK9 := hK.sub (tys' := []) [] rfl
  refine W.widen (k := 0) (n := 0) (Nat.le_of_ble_eq_true rfl) (Nat.le_of_ble_eq_true rfl) ?_
  exact W.iret (v := (-400)) hx hb hr (fun t ht hW => ⟨⟨(-400), (), rfl, rfl, by rw [ht]; exact hP9, va_K.moved hW.alike hK9, hD9⟩, hS.F ht⟩) hS.2.2 dX11_tablet_76
set_option maxHeartbeats 4000000 in
set_option maxRecDepth 100000 in
theorem c_lines (l : Launch) (dC : Nat → ClassId) (dI : Nat → Nat → Nat) (x : Nat) (tp : Nat) (ou : Nat) (sa : Nat) (ur : Nat) (tr : Nat) (so : Nat) (ma : Nat) (ta : Nat) (jt : Nat) (fr : Nat) (jo : Nat) (un : Nat) (su : Nat) (n1 : Int32) (sz : Nat)  : Met l yX11_lines wsX11_lines ({ frames := 1, cells := 0, slots := 0, locals := 21 } : Room) (va_Pc [.ref x, .int n1] (fun U => U.heap.size = sz ∧ zz_X U ∧ va_P (dC, dI) vwCl [(x, .inr (11, [.ref tp, .ref ou, .ref sa, .ref ur, .ref tr, .ref so, .ref ma, .ref ta, .ref jt, .ref fr, .ref jo, .ref un, .ref su, .int 0, .int 0, .int 0]))] U.heap ∧ va_K (dC, dI) vwCl [] U ∧ va_D (fun _ => True) [(x, .inr (11, [.ref tp, .ref ou, .ref sa, .ref ur, .ref tr, .ref so, .ref ma, .ref ta, .ref jt, .ref fr, .ref jo, .ref un, .ref su, .int 0, .int 0, .int 0]))])) (va_Qi (fun (r : Int32) (_ : Unit) => r = (-1)) (fun (_ : Unit) (t : State) => va_P (dC, dI) vwCl [] t.heap ∧ va_K (dC, dI) vwCl [] t ∧ va_D (va_A [(x, .inr (11, [.ref tp, .ref ou, .ref sa, .ref ur, .ref tr, .ref so, .ref ma, .ref ta, .ref jt, .ref fr, .ref jo, .ref un, .ref su, .int 0, .int 0, .int 0]))] sz) []) (va_A [(x, .inr (11, [.ref tp, .ref ou, .ref sa, .ref ur, .ref tr, .ref so, .ref ma, .ref ta, .ref jt, .ref fr, .ref jo, .ref un, .ref su, .int 0, .int 0, .int 0]))] sz)) 0 0 (va_A [(x, .inr (11, [.ref tp, .ref ou, .ref sa, .ref ur, .ref tr, .ref so, .ref ma, .ref ta, .ref jt, .ref fr, .ref jo, .ref un, .ref su, .int 0, .int 0, .int 0]))] sz) := by
  refine Met.ofW (cc := cX11_lines) (maxL := 2) (ret := (some .int)) (by decide) rfl ?_
  intro p e s m args below meth c s₁ B hml hv
  obtain ⟨rfl, hsz, hzX, hP, hK, hD0⟩ := hv
  have hx := B.exec
  have hb := B.bytes
  have hr := B.returns
  have hts := atoms_spec (ws := wsX11_lines) B.pre
  have hown : s.vm.findClass RX11 = some m.cls := findClass_of_methodNamed B.named
  have hlocks := B.notSynchronized
  subst hsz
  have hD := hD0.self (sz := s.heap.size)
  generalize hAe : va_A [(x, .inr (11, [.ref tp, .ref ou, .ref sa, .ref ur, .ref tr, .ref so, .ref ma, .ref ta, .ref jt, .ref fr, .ref jo, .ref un, .ref su, .int 0, .int 0, .int 0]))] s.heap.size = A at  hD ⊢
  have hA : ∀ q : Nat, s.heap.size ≤ q → A q := fun q h => by rw [← hAe]; exact Or.inr h
  have hS : va_S A s.heap s.heap [] := va_S.rf
  have hP : va_P (dC, dI) vwCl [(x, .inr (11, [.ref tp, .ref ou, .ref sa, .ref ur, .ref tr, .ref so, .ref ma, .ref ta, .ref jt, .ref fr, .ref jo, .ref un, .ref su, .int 0, .int 0, .int 0]))] s.heap := hP
  have hl := lv_entry ([.ref x, .int n1]) (n := 2) (Nat.le_of_ble_eq_true rfl)
  rw [lg_entry_eq]
  generalize (lg_sl ([.ref x, .int n1]) ++ List.replicate (2 - (lg_sl ([.ref x, .int n1])).length) Slot.unset).toArray = ls at hl ⊢
  have hl : lv_has ls 2 [(0, .ref x), (1, .int n1)] := hl
  skip
  refine lv_aload_n hx hb dX11_lines_0 rfl (lv_at hl 0 rfl) ?_
  refine lv_iload_n hx hb dX11_lines_1 rfl (lv_at hl 1 rfl) ?_
  have hPc := hP.sub (ws' := [(x, .inr (11, [.ref tp, .ref ou, .ref sa, .ref ur, .ref tr, .ref so, .ref ma, .ref ta, .ref jt, .ref fr, .ref jo, .ref un, .ref su, .int 0, .int 0, .int 0]))]) [0] rfl
  have hDc := hD.sub (ws' := [(x, .inr (11, [.ref tp, .ref ou, .ref sa, .ref ur, .ref tr, .ref so, .ref ma, .ref ta, .ref jt, .ref fr, .ref jo, .ref un, .ref su, .int 0, .int 0, .int 0]))]) [0] (by decide) rfl
  have hKc := hK.sub (tys' := []) [] rfl
  have hFc := va_free (wc := [(x, .inr (11, [.ref tp, .ref ou, .ref sa, .ref ur, .ref tr, .ref so, .ref ma, .ref ta, .ref jt, .ref fr, .ref jo, .ref un, .ref su, .int 0, .int 0, .int 0]))]) hD hS hA [0] rfl
  refine va_calli (va_runV (As := [.int n1]) (rest := []) ⟨hx, hb, hml, hown, hts⟩ (c_isTablet l dC dI x tp ou sa ur tr so ma ta jt fr jo un su n1 s.heap.size ) (cwV 1 hts gX11_lines_X11_isTablet rfl rfl rfl (by decide +kernel) ⟨Nat.le_of_ble_eq_true rfl, Nat.le_of_ble_eq_true rfl⟩) ⟨fun a U g mk q => by obtain ⟨q0, q1, qX, qP, qK, qD⟩ := q; exact ⟨q0, q1, zz_X.same (u := U) (U := U.calling g mk a) rfl qX, qP, va_K.moved (u := U) (U := U.calling g mk a) (Vm.Alike.refl U.vm) qK, qD⟩, va_recv hKc hPc (ci := 11) (q0 := 0) rfl rfl, fun U hU hW => ⟨rfl, by rw [hU], zz_X.warm hW hzX, by rw [hU]; exact hPc, va_K.moved hW.alike hKc, hDc.weaken (fun _ _ _ _ => trivial)⟩⟩ rfl rfl hl.1 rfl (lv_room (Nat.le_of_ble_eq_true rfl)) dX11_lines_2 ⟨Nat.le_of_ble_eq_true rfl, Nat.le_of_ble_eq_true rfl⟩) hS (fun q _ h => hFc q h) hFc (fun r9 u t H1 locs ht hvm hw hB hz1 hk1 hS => ?_)
  obtain ⟨hP1, hK1, hD1⟩ := hB
  rw [ht] at hP1
  have hK1 := va_K.moved hvm.symm hK1
  obtain ⟨hP, hD⟩ := va_join (wr := []) (w1 := [(x, .inr (11, [.ref tp, .ref ou, .ref sa, .ref ur, .ref tr, .ref so, .ref ma, .ref ta, .ref jt, .ref fr, .ref jo, .ref un, .ref su, .int 0, .int 0, .int 0]))]) hP hD [0] [] rfl rfl (by decide) (by decide) hk1 hFc hP1 hD1
  have hK := (hK.sub (tys' := []) [] rfl).app (hK1.sub (tys' := []) [] rfl)
  generalize H1 = H at hP hS ⊢
  have hP : va_P (dC, dI) vwCl [(x, .inr (11, [.ref tp, .ref ou, .ref sa, .ref ur, .ref tr, .ref so, .ref ma, .ref ta, .ref jt, .ref fr, .ref jo, .ref un, .ref su, .int 0, .int 0, .int 0]))] H := hP
  have hD : va_D A [(x, .inr (11, [.ref tp, .ref ou, .ref sa, .ref ur, .ref tr, .ref so, .ref ma, .ref ta, .ref jt, .ref fr, .ref jo, .ref un, .ref su, .int 0, .int 0, .int 0]))] := hD
  have hK : va_K (dC, dI) vwCl [] s := hK
  obtain rfl : r9 = 0 := hw
  refine W.widen (k := 0) (n := 0) (Nat.le_of_ble_eq_true rfl) (Nat.le_of_ble_eq_true rfl) ?_
  refine lv_if_eq (tgt := 20) hx hb dX11_lines_5 (by decide) (fun c9 => ?_) (fun c9 => absurd (by decide) c9)
  refine lv_iconst (v := (-1)) hx hb dX11_lines_20 (by decide) ?_
  have hP9 := hP.sub (ws' := []) [] rfl
  have hD9 := hD.sub (ws' := []) [] (by decide) rfl
  have hK9 := hK.sub (tys' := []) [] rfl
  refine W.widen (k := 0) (n := 0) (Nat.le_of_ble_eq_true rfl) (Nat.le_of_ble_eq_true rfl) ?_
  exact W.iret (v := (-1)) hx hb hr (fun t ht hW => ⟨⟨(-1), (), rfl, rfl, by rw [ht]; exact hP9, va_K.moved hW.alike hK9, hD9⟩, hS.F ht⟩) hS.2.2 dX11_lines_21
set_option maxHeartbeats 4000000 in
set_option maxRecDepth 100000 in
theorem c_readings (l : Launch) (dC : Nat → ClassId) (dI : Nat → Nat → Nat) (x : Nat) (tp : Nat) (ou : Nat) (sa : Nat) (ur : Nat) (tr : Nat) (so : Nat) (ma : Nat) (ta : Nat) (jt : Nat) (fr : Nat) (jo : Nat) (un : Nat) (su : Nat) (n1 : Int32) (sz : Nat)  : Met l yX11_readings wsX11_readings ({ frames := 1, cells := 0, slots := 0, locals := 21 } : Room) (va_Pc [.ref x, .int n1] (fun U => U.heap.size = sz ∧ zz_X U ∧ va_P (dC, dI) vwCl [(x, .inr (11, [.ref tp, .ref ou, .ref sa, .ref ur, .ref tr, .ref so, .ref ma, .ref ta, .ref jt, .ref fr, .ref jo, .ref un, .ref su, .int 0, .int 0, .int 0]))] U.heap ∧ va_K (dC, dI) vwCl [] U ∧ va_D (fun _ => True) [(x, .inr (11, [.ref tp, .ref ou, .ref sa, .ref ur, .ref tr, .ref so, .ref ma, .ref ta, .ref jt, .ref fr, .ref jo, .ref un, .ref su, .int 0, .int 0, .int 0]))])) (va_Qi (fun (r : Int32) (_ : Unit) => r = (-1)) (fun (_ : Unit) (t : State) => va_P (dC, dI) vwCl [] t.heap ∧ va_K (dC, dI) vwCl [] t ∧ va_D (va_A [(x, .inr (11, [.ref tp, .ref ou, .ref sa, .ref ur, .ref tr, .ref so, .ref ma, .ref ta, .ref jt, .ref fr, .ref jo, .ref un, .ref su, .int 0, .int 0, .int 0]))] sz) []) (va_A [(x, .inr (11, [.ref tp, .ref ou, .ref sa, .ref ur, .ref tr, .ref so, .ref ma, .ref ta, .ref jt, .ref fr, .ref jo, .ref un, .ref su, .int 0, .int 0, .int 0]))] sz)) 0 0 (va_A [(x, .inr (11, [.ref tp, .ref ou, .ref sa, .ref ur, .ref tr, .ref so, .ref ma, .ref ta, .ref jt, .ref fr, .ref jo, .ref un, .ref su, .int 0, .int 0, .int 0]))] sz) := by
  refine Met.ofW (cc := cX11_readings) (maxL := 2) (ret := (some .int)) (by decide) rfl ?_
  intro p e s m args below meth c s₁ B hml hv
  obtain ⟨rfl, hsz, hzX, hP, hK, hD0⟩ := hv
  have hx := B.exec
  have hb := B.bytes
  have hr := B.returns
  have hts := atoms_spec (ws := wsX11_readings) B.pre
  have hown : s.vm.findClass RX11 = some m.cls := findClass_of_methodNamed B.named
  have hlocks := B.notSynchronized
  subst hsz
  have hD := hD0.self (sz := s.heap.size)
  generalize hAe : va_A [(x, .inr (11, [.ref tp, .ref ou, .ref sa, .ref ur, .ref tr, .ref so, .ref ma, .ref ta, .ref jt, .ref fr, .ref jo, .ref un, .ref su, .int 0, .int 0, .int 0]))] s.heap.size = A at  hD ⊢
  have hA : ∀ q : Nat, s.heap.size ≤ q → A q := fun q h => by rw [← hAe]; exact Or.inr h
  have hS : va_S A s.heap s.heap [] := va_S.rf
  have hP : va_P (dC, dI) vwCl [(x, .inr (11, [.ref tp, .ref ou, .ref sa, .ref ur, .ref tr, .ref so, .ref ma, .ref ta, .ref jt, .ref fr, .ref jo, .ref un, .ref su, .int 0, .int 0, .int 0]))] s.heap := hP
  have hl := lv_entry ([.ref x, .int n1]) (n := 2) (Nat.le_of_ble_eq_true rfl)
  rw [lg_entry_eq]
  generalize (lg_sl ([.ref x, .int n1]) ++ List.replicate (2 - (lg_sl ([.ref x, .int n1])).length) Slot.unset).toArray = ls at hl ⊢
  have hl : lv_has ls 2 [(0, .ref x), (1, .int n1)] := hl
  skip
  refine lv_aload_n hx hb dX11_readings_0 rfl (lv_at hl 0 rfl) ?_
  refine lv_iload_n hx hb dX11_readings_1 rfl (lv_at hl 1 rfl) ?_
  have hPc := hP.sub (ws' := [(x, .inr (11, [.ref tp, .ref ou, .ref sa, .ref ur, .ref tr, .ref so, .ref ma, .ref ta, .ref jt, .ref fr, .ref jo, .ref un, .ref su, .int 0, .int 0, .int 0]))]) [0] rfl
  have hDc := hD.sub (ws' := [(x, .inr (11, [.ref tp, .ref ou, .ref sa, .ref ur, .ref tr, .ref so, .ref ma, .ref ta, .ref jt, .ref fr, .ref jo, .ref un, .ref su, .int 0, .int 0, .int 0]))]) [0] (by decide) rfl
  have hKc := hK.sub (tys' := []) [] rfl
  have hFc := va_free (wc := [(x, .inr (11, [.ref tp, .ref ou, .ref sa, .ref ur, .ref tr, .ref so, .ref ma, .ref ta, .ref jt, .ref fr, .ref jo, .ref un, .ref su, .int 0, .int 0, .int 0]))]) hD hS hA [0] rfl
  refine va_calli (va_runV (As := [.int n1]) (rest := []) ⟨hx, hb, hml, hown, hts⟩ (c_isTablet l dC dI x tp ou sa ur tr so ma ta jt fr jo un su n1 s.heap.size ) (cwV 1 hts gX11_readings_X11_isTablet rfl rfl rfl (by decide +kernel) ⟨Nat.le_of_ble_eq_true rfl, Nat.le_of_ble_eq_true rfl⟩) ⟨fun a U g mk q => by obtain ⟨q0, q1, qX, qP, qK, qD⟩ := q; exact ⟨q0, q1, zz_X.same (u := U) (U := U.calling g mk a) rfl qX, qP, va_K.moved (u := U) (U := U.calling g mk a) (Vm.Alike.refl U.vm) qK, qD⟩, va_recv hKc hPc (ci := 11) (q0 := 0) rfl rfl, fun U hU hW => ⟨rfl, by rw [hU], zz_X.warm hW hzX, by rw [hU]; exact hPc, va_K.moved hW.alike hKc, hDc.weaken (fun _ _ _ _ => trivial)⟩⟩ rfl rfl hl.1 rfl (lv_room (Nat.le_of_ble_eq_true rfl)) dX11_readings_2 ⟨Nat.le_of_ble_eq_true rfl, Nat.le_of_ble_eq_true rfl⟩) hS (fun q _ h => hFc q h) hFc (fun r9 u t H1 locs ht hvm hw hB hz1 hk1 hS => ?_)
  obtain ⟨hP1, hK1, hD1⟩ := hB
  rw [ht] at hP1
  have hK1 := va_K.moved hvm.symm hK1
  obtain ⟨hP, hD⟩ := va_join (wr := []) (w1 := [(x, .inr (11, [.ref tp, .ref ou, .ref sa, .ref ur, .ref tr, .ref so, .ref ma, .ref ta, .ref jt, .ref fr, .ref jo, .ref un, .ref su, .int 0, .int 0, .int 0]))]) hP hD [0] [] rfl rfl (by decide) (by decide) hk1 hFc hP1 hD1
  have hK := (hK.sub (tys' := []) [] rfl).app (hK1.sub (tys' := []) [] rfl)
  generalize H1 = H at hP hS ⊢
  have hP : va_P (dC, dI) vwCl [(x, .inr (11, [.ref tp, .ref ou, .ref sa, .ref ur, .ref tr, .ref so, .ref ma, .ref ta, .ref jt, .ref fr, .ref jo, .ref un, .ref su, .int 0, .int 0, .int 0]))] H := hP
  have hD : va_D A [(x, .inr (11, [.ref tp, .ref ou, .ref sa, .ref ur, .ref tr, .ref so, .ref ma, .ref ta, .ref jt, .ref fr, .ref jo, .ref un, .ref su, .int 0, .int 0, .int 0]))] := hD
  have hK : va_K (dC, dI) vwCl [] s := hK
  obtain rfl : r9 = 0 := hw
  refine W.widen (k := 0) (n := 0) (Nat.le_of_ble_eq_true rfl) (Nat.le_of_ble_eq_true rfl) ?_
  refine lv_if_eq (tgt := 19) hx hb dX11_readings_5 (by decide) (fun c9 => ?_) (fun c9 => absurd (by decide) c9)
  refine lv_iconst (v := (-1)) hx hb dX11_readings_19 (by decide) ?_
  have hP9 := hP.sub (ws' := []) [] rfl
  have hD9 := hD.sub (ws' := []) [] (by decide) rfl
  have hK9 := hK.sub (tys' := []) [] rfl
  refine W.widen (k := 0) (n := 0) (Nat.le_of_ble_eq_true rfl) (Nat.le_of_ble_eq_true rfl) ?_
  exact W.iret (v := (-1)) hx hb hr (fun t ht hW => ⟨⟨(-1), (), rfl, rfl, by rw [ht]; exact hP9, va_K.moved hW.alike hK9, hD9⟩, hS.F ht⟩) hS.2.2 dX11_readings_20
set_option maxHeartbeats 4000000 in
set_option maxRecDepth 100000 in
theorem c_wrong (l : Launch) (dC : Nat → ClassId) (dI : Nat → Nat → Nat) (x : Nat) (tp : Nat) (ou : Nat) (sa : Nat) (ur : Nat) (tr : Nat) (so : Nat) (ma : Nat) (ta : Nat) (jt : Nat) (fr : Nat) (jo : Nat) (un : Nat) (su : Nat) (n1 : Int32) (sz : Nat)  : Met l yX11_wrong wsX11_wrong ({ frames := 1, cells := 0, slots := 0, locals := 21 } : Room) (va_Pc [.ref x, .int n1] (fun U => U.heap.size = sz ∧ zz_X U ∧ va_P (dC, dI) vwCl [(x, .inr (11, [.ref tp, .ref ou, .ref sa, .ref ur, .ref tr, .ref so, .ref ma, .ref ta, .ref jt, .ref fr, .ref jo, .ref un, .ref su, .int 0, .int 0, .int 0]))] U.heap ∧ va_K (dC, dI) vwCl [] U ∧ va_D (fun _ => True) [(x, .inr (11, [.ref tp, .ref ou, .ref sa, .ref ur, .ref tr, .ref so, .ref ma, .ref ta, .ref jt, .ref fr, .ref jo, .ref un, .ref su, .int 0, .int 0, .int 0]))])) (va_Qi (fun (r : Int32) (_ : Unit) => r = (-1)) (fun (_ : Unit) (t : State) => va_P (dC, dI) vwCl [] t.heap ∧ va_K (dC, dI) vwCl [] t ∧ va_D (va_A [(x, .inr (11, [.ref tp, .ref ou, .ref sa, .ref ur, .ref tr, .ref so, .ref ma, .ref ta, .ref jt, .ref fr, .ref jo, .ref un, .ref su, .int 0, .int 0, .int 0]))] sz) []) (va_A [(x, .inr (11, [.ref tp, .ref ou, .ref sa, .ref ur, .ref tr, .ref so, .ref ma, .ref ta, .ref jt, .ref fr, .ref jo, .ref un, .ref su, .int 0, .int 0, .int 0]))] sz)) 0 0 (va_A [(x, .inr (11, [.ref tp, .ref ou, .ref sa, .ref ur, .ref tr, .ref so, .ref ma, .ref ta, .ref jt, .ref fr, .ref jo, .ref un, .ref su, .int 0, .int 0, .int 0]))] sz) := by
  refine Met.ofW (cc := cX11_wrong) (maxL := 2) (ret := (some .int)) (by decide) rfl ?_
  intro p e s m args below meth c s₁ B hml hv
  obtain ⟨rfl, hsz, hzX, hP, hK, hD0⟩ := hv
  have hx := B.exec
  have hb := B.bytes
  have hr := B.returns
  have hts := atoms_spec (ws := wsX11_wrong) B.pre
  have hown : s.vm.findClass RX11 = some m.cls := findClass_of_methodNamed B.named
  have hlocks := B.notSynchronized
  subst hsz
  have hD := hD0.self (sz := s.heap.size)
  generalize hAe : va_A [(x, .inr (11, [.ref tp, .ref ou, .ref sa, .ref ur, .ref tr, .ref so, .ref ma, .ref ta, .ref jt, .ref fr, .ref jo, .ref un, .ref su, .int 0, .int 0, .int 0]))] s.heap.size = A at  hD ⊢
  have hA : ∀ q : Nat, s.heap.size ≤ q → A q := fun q h => by rw [← hAe]; exact Or.inr h
  have hS : va_S A s.heap s.heap [] := va_S.rf
  have hP : va_P (dC, dI) vwCl [(x, .inr (11, [.ref tp, .ref ou, .ref sa, .ref ur, .ref tr, .ref so, .ref ma, .ref ta, .ref jt, .ref fr, .ref jo, .ref un, .ref su, .int 0, .int 0, .int 0]))] s.heap := hP
  have hl := lv_entry ([.ref x, .int n1]) (n := 2) (Nat.le_of_ble_eq_true rfl)
  rw [lg_entry_eq]
  generalize (lg_sl ([.ref x, .int n1]) ++ List.replicate (2 - (lg_sl ([.ref x, .int n1])).length) Slot.unset).toArray = ls at hl ⊢
  have hl : lv_has ls 2 [(0, .ref x), (1, .int n1)] := hl
  skip
  refine lv_aload_n hx hb dX11_wrong_0 rfl (lv_at hl 0 rfl) ?_
  refine lv_iload_n hx hb dX11_wrong_1 rfl (lv_at hl 1 rfl) ?_
  have hPc := hP.sub (ws' := [(x, .inr (11, [.ref tp, .ref ou, .ref sa, .ref ur, .ref tr, .ref so, .ref ma, .ref ta, .ref jt, .ref fr, .ref jo, .ref un, .ref su, .int 0, .int 0, .int 0]))]) [0] rfl
  have hDc := hD.sub (ws' := [(x, .inr (11, [.ref tp, .ref ou, .ref sa, .ref ur, .ref tr, .ref so, .ref ma, .ref ta, .ref jt, .ref fr, .ref jo, .ref un, .ref su, .int 0, .int 0, .int 0]))]) [0] (by decide) rfl
  have hKc := hK.sub (tys' := []) [] rfl
  have hFc := va_free (wc := [(x, .inr (11, [.ref tp, .ref ou, .ref sa, .ref ur, .ref tr, .ref so, .ref ma, .ref ta, .ref jt, .ref fr, .ref jo, .ref un, .ref su, .int 0, .int 0, .int 0]))]) hD hS hA [0] rfl
  refine va_calli (va_runV (As := [.int n1]) (rest := []) ⟨hx, hb, hml, hown, hts⟩ (c_isTablet l dC dI x tp ou sa ur tr so ma ta jt fr jo un su n1 s.heap.size ) (cwV 1 hts gX11_wrong_X11_isTablet rfl rfl rfl (by decide +kernel) ⟨Nat.le_of_ble_eq_true rfl, Nat.le_of_ble_eq_true rfl⟩) ⟨fun a U g mk q => by obtain ⟨q0, q1, qX, qP, qK, qD⟩ := q; exact ⟨q0, q1, zz_X.same (u := U) (U := U.calling g mk a) rfl qX, qP, va_K.moved (u := U) (U := U.calling g mk a) (Vm.Alike.refl U.vm) qK, qD⟩, va_recv hKc hPc (ci := 11) (q0 := 0) rfl rfl, fun U hU hW => ⟨rfl, by rw [hU], zz_X.warm hW hzX, by rw [hU]; exact hPc, va_K.moved hW.alike hKc, hDc.weaken (fun _ _ _ _ => trivial)⟩⟩ rfl rfl hl.1 rfl (lv_room (Nat.le_of_ble_eq_true rfl)) dX11_wrong_2 ⟨Nat.le_of_ble_eq_true rfl, Nat.le_of_ble_eq_true rfl⟩) hS (fun q _ h => hFc q h) hFc (fun r9 u t H1 locs ht hvm hw hB hz1 hk1 hS => ?_)
  obtain ⟨hP1, hK1, hD1⟩ := hB
  rw [ht] at hP1
  have hK1 := va_K.moved hvm.symm hK1
  obtain ⟨hP, hD⟩ := va_join (wr := []) (w1 := [(x, .inr (11, [.ref tp, .ref ou, .ref sa, .ref ur, .ref tr, .ref so, .ref ma, .ref ta, .ref jt, .ref fr, .ref jo, .ref un, .ref su, .int 0, .int 0, .int 0]))]) hP hD [0] [] rfl rfl (by decide) (by decide) hk1 hFc hP1 hD1
  have hK := (hK.sub (tys' := []) [] rfl).app (hK1.sub (tys' := []) [] rfl)
  generalize H1 = H at hP hS ⊢
  have hP : va_P (dC, dI) vwCl [(x, .inr (11, [.ref tp, .ref ou, .ref sa, .ref ur, .ref tr, .ref so, .ref ma, .ref ta, .ref jt, .ref fr, .ref jo, .ref un, .ref su, .int 0, .int 0, .int 0]))] H := hP
  have hD : va_D A [(x, .inr (11, [.ref tp, .ref ou, .ref sa, .ref ur, .ref tr, .ref so, .ref ma, .ref ta, .ref jt, .ref fr, .ref jo, .ref un, .ref su, .int 0, .int 0, .int 0]))] := hD
  have hK : va_K (dC, dI) vwCl [] s := hK
  obtain rfl : r9 = 0 := hw
  refine W.widen (k := 0) (n := 0) (Nat.le_of_ble_eq_true rfl) (Nat.le_of_ble_eq_true rfl) ?_
  refine lv_if_eq (tgt := 19) hx hb dX11_wrong_5 (by decide) (fun c9 => ?_) (fun c9 => absurd (by decide) c9)
  refine lv_iconst (v := (-1)) hx hb dX11_wrong_19 (by decide) ?_
  have hP9 := hP.sub (ws' := []) [] rfl
  have hD9 := hD.sub (ws' := []) [] (by decide) rfl
  have hK9 := hK.sub (tys' := []) [] rfl
  refine W.widen (k := 0) (n := 0) (Nat.le_of_ble_eq_true rfl) (Nat.le_of_ble_eq_true rfl) ?_
  exact W.iret (v := (-1)) hx hb hr (fun t ht hW => ⟨⟨(-1), (), rfl, rfl, by rw [ht]; exact hP9, va_K.moved hW.alike hK9, hD9⟩, hS.F ht⟩) hS.2.2 dX11_wrong_20
set_option maxHeartbeats 4000000 in
set_option maxRecDepth 100000 in
theorem c_rows (l : Launch) (dC : Nat → ClassId) (dI : Nat → Nat → Nat) (x : Nat) (tp : Nat) (ou : Nat) (sa : Nat) (ur : Nat) (tr : Nat) (so : Nat) (ma : Nat) (ta : Nat) (jt : Nat) (fr : Nat) (jo : Nat) (un : Nat) (su : Nat) (n1 : Int32) (sz : Nat)  : Met l yX11_rows wsX11_rows ({ frames := 1, cells := 0, slots := 0, locals := 21 } : Room) (va_Pc [.ref x, .int n1] (fun U => U.heap.size = sz ∧ zz_X U ∧ va_P (dC, dI) vwCl [(x, .inr (11, [.ref tp, .ref ou, .ref sa, .ref ur, .ref tr, .ref so, .ref ma, .ref ta, .ref jt, .ref fr, .ref jo, .ref un, .ref su, .int 0, .int 0, .int 0]))] U.heap ∧ va_K (dC, dI) vwCl [] U ∧ va_D (fun _ => True) [(x, .inr (11, [.ref tp, .ref ou, .ref sa, .ref ur, .ref tr, .ref so, .ref ma, .ref ta, .ref jt, .ref fr, .ref jo, .ref un, .ref su, .int 0, .int 0, .int 0]))])) (va_Qi (fun (r : Int32) (_ : Unit) => r = (-1)) (fun (_ : Unit) (t : State) => va_P (dC, dI) vwCl [] t.heap ∧ va_K (dC, dI) vwCl [] t ∧ va_D (va_A [(x, .inr (11, [.ref tp, .ref ou, .ref sa, .ref ur, .ref tr, .ref so, .ref ma, .ref ta, .ref jt, .ref fr, .ref jo, .ref un, .ref su, .int 0, .int 0, .int 0]))] sz) []) (va_A [(x, .inr (11, [.ref tp, .ref ou, .ref sa, .ref ur, .ref tr, .ref so, .ref ma, .ref ta, .ref jt, .ref fr, .ref jo, .ref un, .ref su, .int 0, .int 0, .int 0]))] sz)) 0 0 (va_A [(x, .inr (11, [.ref tp, .ref ou, .ref sa, .ref ur, .ref tr, .ref so, .ref ma, .ref ta, .ref jt, .ref fr, .ref jo, .ref un, .ref su, .int 0, .int 0, .int 0]))] sz) := by
  refine Met.ofW (cc := cX11_rows) (maxL := 2) (ret := (some .int)) (by decide) rfl ?_
  intro p e s m args below meth c s₁ B hml hv
  obtain ⟨rfl, hsz, hzX, hP, hK, hD0⟩ := hv
  have hx := B.exec
  have hb := B.bytes
  have hr := B.returns
  have hts := atoms_spec (ws := wsX11_rows) B.pre
  have hown : s.vm.findClass RX11 = some m.cls := findClass_of_methodNamed B.named
  have hlocks := B.notSynchronized
  subst hsz
  have hD := hD0.self (sz := s.heap.size)
  generalize hAe : va_A [(x, .inr (11, [.ref tp, .ref ou, .ref sa, .ref ur, .ref tr, .ref so, .ref ma, .ref ta, .ref jt, .ref fr, .ref jo, .ref un, .ref su, .int 0, .int 0, .int 0]))] s.heap.size = A at  hD ⊢
  have hA : ∀ q : Nat, s.heap.size ≤ q → A q := fun q h => by rw [← hAe]; exact Or.inr h
  have hS : va_S A s.heap s.heap [] := va_S.rf
  have hP : va_P (dC, dI) vwCl [(x, .inr (11, [.ref tp, .ref ou, .ref sa, .ref ur, .ref tr, .ref so, .ref ma, .ref ta, .ref jt, .ref fr, .ref jo, .ref un, .ref su, .int 0, .int 0, .int 0]))] s.heap := hP
  have hl := lv_entry ([.ref x, .int n1]) (n := 2) (Nat.le_of_ble_eq_true rfl)
  rw [lg_entry_eq]
  generalize (lg_sl ([.ref x, .int n1]) ++ List.replicate (2 - (lg_sl ([.ref x, .int n1])).length) Slot.unset).toArray = ls at hl ⊢
  have hl : lv_has ls 2 [(0, .ref x), (1, .int n1)] := hl
  skip
  refine lv_aload_n hx hb dX11_rows_0 rfl (lv_at hl 0 rfl) ?_
  refine lv_iload_n hx hb dX11_rows_1 rfl (lv_at hl 1 rfl) ?_
  have hPc := hP.sub (ws' := [(x, .inr (11, [.ref tp, .ref ou, .ref sa, .ref ur, .ref tr, .ref so, .ref ma, .ref ta, .ref jt, .ref fr, .ref jo, .ref un, .ref su, .int 0, .int 0, .int 0]))]) [0] rfl
  have hDc := hD.sub (ws' := [(x, .inr (11, [.ref tp, .ref ou, .ref sa, .ref ur, .ref tr, .ref so, .ref ma, .ref ta, .ref jt, .ref fr, .ref jo, .ref un, .ref su, .int 0, .int 0, .int 0]))]) [0] (by decide) rfl
  have hKc := hK.sub (tys' := []) [] rfl
  have hFc := va_free (wc := [(x, .inr (11, [.ref tp, .ref ou, .ref sa, .ref ur, .ref tr, .ref so, .ref ma, .ref ta, .ref jt, .ref fr, .ref jo, .ref un, .ref su, .int 0, .int 0, .int 0]))]) hD hS hA [0] rfl
  refine va_calli (va_runV (As := [.int n1]) (rest := []) ⟨hx, hb, hml, hown, hts⟩ (c_isFragment l dC dI x tp ou sa ur tr so ma ta jt fr jo un su n1 s.heap.size ) (cwV 1 hts gX11_rows_X11_isFragment rfl rfl rfl (by decide +kernel) ⟨Nat.le_of_ble_eq_true rfl, Nat.le_of_ble_eq_true rfl⟩) ⟨fun a U g mk q => by obtain ⟨q0, q1, qX, qP, qK, qD⟩ := q; exact ⟨q0, q1, zz_X.same (u := U) (U := U.calling g mk a) rfl qX, qP, va_K.moved (u := U) (U := U.calling g mk a) (Vm.Alike.refl U.vm) qK, qD⟩, va_recv hKc hPc (ci := 11) (q0 := 0) rfl rfl, fun U hU hW => ⟨rfl, by rw [hU], zz_X.warm hW hzX, by rw [hU]; exact hPc, va_K.moved hW.alike hKc, hDc.weaken (fun _ _ _ _ => trivial)⟩⟩ rfl rfl hl.1 rfl (lv_room (Nat.le_of_ble_eq_true rfl)) dX11_rows_2 ⟨Nat.le_of_ble_eq_true rfl, Nat.le_of_ble_eq_true rfl⟩) hS (fun q _ h => hFc q h) hFc (fun r9 u t H1 locs ht hvm hw hB hz1 hk1 hS => ?_)
  obtain ⟨hP1, hK1, hD1⟩ := hB
  rw [ht] at hP1
  have hK1 := va_K.moved hvm.symm hK1
  obtain ⟨hP, hD⟩ := va_join (wr := []) (w1 := [(x, .inr (11, [.ref tp, .ref ou, .ref sa, .ref ur, .ref tr, .ref so, .ref ma, .ref ta, .ref jt, .ref fr, .ref jo, .ref un, .ref su, .int 0, .int 0, .int 0]))]) hP hD [0] [] rfl rfl (by decide) (by decide) hk1 hFc hP1 hD1
  have hK := (hK.sub (tys' := []) [] rfl).app (hK1.sub (tys' := []) [] rfl)
  generalize H1 = H at hP hS ⊢
  have hP : va_P (dC, dI) vwCl [(x, .inr (11, [.ref tp, .ref ou, .ref sa, .ref ur, .ref tr, .ref so, .ref ma, .ref ta, .ref jt, .ref fr, .ref jo, .ref un, .ref su, .int 0, .int 0, .int 0]))] H := hP
  have hD : va_D A [(x, .inr (11, [.ref tp, .ref ou, .ref sa, .ref ur, .ref tr, .ref so, .ref ma, .ref ta, .ref jt, .ref fr, .ref jo, .ref un, .ref su, .int 0, .int 0, .int 0]))] := hD
  have hK : va_K (dC, dI) vwCl [] s := hK
  obtain rfl : r9 = 0 := hw
  refine W.widen (k := 0) (n := 0) (Nat.le_of_ble_eq_true rfl) (Nat.le_of_ble_eq_true rfl) ?_
  refine lv_if_eq (tgt := 20) hx hb dX11_rows_5 (by decide) (fun c9 => ?_) (fun c9 => absurd (by decide) c9)
  refine lv_iconst (v := (-1)) hx hb dX11_rows_20 (by decide) ?_
  have hP9 := hP.sub (ws' := []) [] rfl
  have hD9 := hD.sub (ws' := []) [] (by decide) rfl
  have hK9 := hK.sub (tys' := []) [] rfl
  refine W.widen (k := 0) (n := 0) (Nat.le_of_ble_eq_true rfl) (Nat.le_of_ble_eq_true rfl) ?_
  exact W.iret (v := (-1)) hx hb hr (fun t ht hW => ⟨⟨(-1), (), rfl, rfl, by rw [ht]; exact hP9, va_K.moved hW.alike hK9, hD9⟩, hS.F ht⟩) hS.2.2 dX11_rows_21
set_option maxHeartbeats 4000000 in
set_option maxRecDepth 100000 in
theorem c_matched (l : Launch) (dC : Nat → ClassId) (dI : Nat → Nat → Nat) (x : Nat) (tp : Nat) (ou : Nat) (sa : Nat) (ur : Nat) (tr : Nat) (so : Nat) (ma : Nat) (ta : Nat) (jt : Nat) (fr : Nat) (jo : Nat) (un : Nat) (su : Nat) (n1 : Int32) (sz : Nat)  : Met l yX11_matched wsX11_matched ({ frames := 1, cells := 0, slots := 0, locals := 21 } : Room) (va_Pc [.ref x, .int n1] (fun U => U.heap.size = sz ∧ zz_X U ∧ va_P (dC, dI) vwCl [(x, .inr (11, [.ref tp, .ref ou, .ref sa, .ref ur, .ref tr, .ref so, .ref ma, .ref ta, .ref jt, .ref fr, .ref jo, .ref un, .ref su, .int 0, .int 0, .int 0]))] U.heap ∧ va_K (dC, dI) vwCl [] U ∧ va_D (fun _ => True) [(x, .inr (11, [.ref tp, .ref ou, .ref sa, .ref ur, .ref tr, .ref so, .ref ma, .ref ta, .ref jt, .ref fr, .ref jo, .ref un, .ref su, .int 0, .int 0, .int 0]))])) (va_Qi (fun (r : Int32) (_ : Unit) => r = (-1)) (fun (_ : Unit) (t : State) => va_P (dC, dI) vwCl [] t.heap ∧ va_K (dC, dI) vwCl [] t ∧ va_D (va_A [(x, .inr (11, [.ref tp, .ref ou, .ref sa, .ref ur, .ref tr, .ref so, .ref ma, .ref ta, .ref jt, .ref fr, .ref jo, .ref un, .ref su, .int 0, .int 0, .int 0]))] sz) []) (va_A [(x, .inr (11, [.ref tp, .ref ou, .ref sa, .ref ur, .ref tr, .ref so, .ref ma, .ref ta, .ref jt, .ref fr, .ref jo, .ref un, .ref su, .int 0, .int 0, .int 0]))] sz)) 0 0 (va_A [(x, .inr (11, [.ref tp, .ref ou, .ref sa, .ref ur, .ref tr, .ref so, .ref ma, .ref ta, .ref jt, .ref fr, .ref jo, .ref un, .ref su, .int 0, .int 0, .int 0]))] sz) := by
  refine Met.ofW (cc := cX11_matched) (maxL := 2) (ret := (some .int)) (by decide) rfl ?_
  intro p e s m args below meth c s₁ B hml hv
  obtain ⟨rfl, hsz, hzX, hP, hK, hD0⟩ := hv
  have hx := B.exec
  have hb := B.bytes
  have hr := B.returns
  have hts := atoms_spec (ws := wsX11_matched) B.pre
  have hown : s.vm.findClass RX11 = some m.cls := findClass_of_methodNamed B.named
  have hlocks := B.notSynchronized
  subst hsz
  have hD := hD0.self (sz := s.heap.size)
  generalize hAe : va_A [(x, .inr (11, [.ref tp, .ref ou, .ref sa, .ref ur, .ref tr, .ref so, .ref ma, .ref ta, .ref jt, .ref fr, .ref jo, .ref un, .ref su, .int 0, .int 0, .int 0]))] s.heap.size = A at  hD ⊢
  have hA : ∀ q : Nat, s.heap.size ≤ q → A q := fun q h => by rw [← hAe]; exact Or.inr h
  have hS : va_S A s.heap s.heap [] := va_S.rf
  have hP : va_P (dC, dI) vwCl [(x, .inr (11, [.ref tp, .ref ou, .ref sa, .ref ur, .ref tr, .ref so, .ref ma, .ref ta, .ref jt, .ref fr, .ref jo, .ref un, .ref su, .int 0, .int 0, .int 0]))] s.heap := hP
  have hl := lv_entry ([.ref x, .int n1]) (n := 2) (Nat.le_of_ble_eq_true rfl)
  rw [lg_entry_eq]
  generalize (lg_sl ([.ref x, .int n1]) ++ List.replicate (2 - (lg_sl ([.ref x, .int n1])).length) Slot.unset).toArray = ls at hl ⊢
  have hl : lv_has ls 2 [(0, .ref x), (1, .int n1)] := hl
  skip
  refine lv_aload_n hx hb dX11_matched_0 rfl (lv_at hl 0 rfl) ?_
  refine lv_iload_n hx hb dX11_matched_1 rfl (lv_at hl 1 rfl) ?_
  have hPc := hP.sub (ws' := [(x, .inr (11, [.ref tp, .ref ou, .ref sa, .ref ur, .ref tr, .ref so, .ref ma, .ref ta, .ref jt, .ref fr, .ref jo, .ref un, .ref su, .int 0, .int 0, .int 0]))]) [0] rfl
  have hDc := hD.sub (ws' := [(x, .inr (11, [.ref tp, .ref ou, .ref sa, .ref ur, .ref tr, .ref so, .ref ma, .ref ta, .ref jt, .ref fr, .ref jo, .ref un, .ref su, .int 0, .int 0, .int 0]))]) [0] (by decide) rfl
  have hKc := hK.sub (tys' := []) [] rfl
  have hFc := va_free (wc := [(x, .inr (11, [.ref tp, .ref ou, .ref sa, .ref ur, .ref tr, .ref so, .ref ma, .ref ta, .ref jt, .ref fr, .ref jo, .ref un, .ref su, .int 0, .int 0, .int 0]))]) hD hS hA [0] rfl
  refine va_calli (va_runV (As := [.int n1]) (rest := []) ⟨hx, hb, hml, hown, hts⟩ (c_isFragment l dC dI x tp ou sa ur tr so ma ta jt fr jo un su n1 s.heap.size ) (cwV 1 hts gX11_matched_X11_isFragment rfl rfl rfl (by decide +kernel) ⟨Nat.le_of_ble_eq_true rfl, Nat.le_of_ble_eq_true rfl⟩) ⟨fun a U g mk q => by obtain ⟨q0, q1, qX, qP, qK, qD⟩ := q; exact ⟨q0, q1, zz_X.same (u := U) (U := U.calling g mk a) rfl qX, qP, va_K.moved (u := U) (U := U.calling g mk a) (Vm.Alike.refl U.vm) qK, qD⟩, va_recv hKc hPc (ci := 11) (q0 := 0) rfl rfl, fun U hU hW => ⟨rfl, by rw [hU], zz_X.warm hW hzX, by rw [hU]; exact hPc, va_K.moved hW.alike hKc, hDc.weaken (fun _ _ _ _ => trivial)⟩⟩ rfl rfl hl.1 rfl (lv_room (Nat.le_of_ble_eq_true rfl)) dX11_matched_2 ⟨Nat.le_of_ble_eq_true rfl, Nat.le_of_ble_eq_true rfl⟩) hS (fun q _ h => hFc q h) hFc (fun r9 u t H1 locs ht hvm hw hB hz1 hk1 hS => ?_)
  obtain ⟨hP1, hK1, hD1⟩ := hB
  rw [ht] at hP1
  have hK1 := va_K.moved hvm.symm hK1
  obtain ⟨hP, hD⟩ := va_join (wr := []) (w1 := [(x, .inr (11, [.ref tp, .ref ou, .ref sa, .ref ur, .ref tr, .ref so, .ref ma, .ref ta, .ref jt, .ref fr, .ref jo, .ref un, .ref su, .int 0, .int 0, .int 0]))]) hP hD [0] [] rfl rfl (by decide) (by decide) hk1 hFc hP1 hD1
  have hK := (hK.sub (tys' := []) [] rfl).app (hK1.sub (tys' := []) [] rfl)
  generalize H1 = H at hP hS ⊢
  have hP : va_P (dC, dI) vwCl [(x, .inr (11, [.ref tp, .ref ou, .ref sa, .ref ur, .ref tr, .ref so, .ref ma, .ref ta, .ref jt, .ref fr, .ref jo, .ref un, .ref su, .int 0, .int 0, .int 0]))] H := hP
  have hD : va_D A [(x, .inr (11, [.ref tp, .ref ou, .ref sa, .ref ur, .ref tr, .ref so, .ref ma, .ref ta, .ref jt, .ref fr, .ref jo, .ref un, .ref su, .int 0, .int 0, .int 0]))] := hD
  have hK : va_K (dC, dI) vwCl [] s := hK
  obtain rfl : r9 = 0 := hw
  refine W.widen (k := 0) (n := 0) (Nat.le_of_ble_eq_true rfl) (Nat.le_of_ble_eq_true rfl) ?_
  refine lv_if_eq (tgt := 20) hx hb dX11_matched_5 (by decide) (fun c9 => ?_) (fun c9 => absurd (by decide) c9)
  refine lv_iconst (v := (-1)) hx hb dX11_matched_20 (by decide) ?_
  have hP9 := hP.sub (ws' := []) [] rfl
  have hD9 := hD.sub (ws' := []) [] (by decide) rfl
  have hK9 := hK.sub (tys' := []) [] rfl
  refine W.widen (k := 0) (n := 0) (Nat.le_of_ble_eq_true rfl) (Nat.le_of_ble_eq_true rfl) ?_
  exact W.iret (v := (-1)) hx hb hr (fun t ht hW => ⟨⟨(-1), (), rfl, rfl, by rw [ht]; exact hP9, va_K.moved hW.alike hK9, hD9⟩, hS.F ht⟩) hS.2.2 dX11_matched_21
set_option maxHeartbeats 4000000 in
set_option maxRecDepth 100000 in
theorem c_join (l : Launch) (dC : Nat → ClassId) (dI : Nat → Nat → Nat) (x : Nat) (tp : Nat) (ou : Nat) (sa : Nat) (ur : Nat) (tr : Nat) (so : Nat) (ma : Nat) (ta : Nat) (jt : Nat) (fr : Nat) (jo : Nat) (un : Nat) (su : Nat) (n1 : Int32) (n2 : Int32) (sz : Nat)  : Met l yX11_join wsX11_join ({ frames := 1, cells := 0, slots := 0, locals := 21 } : Room) (va_Pc [.ref x, .int n1, .int n2] (fun U => U.heap.size = sz ∧ zz_X U ∧ va_P (dC, dI) vwCl [(x, .inr (11, [.ref tp, .ref ou, .ref sa, .ref ur, .ref tr, .ref so, .ref ma, .ref ta, .ref jt, .ref fr, .ref jo, .ref un, .ref su, .int 0, .int 0, .int 0]))] U.heap ∧ va_K (dC, dI) vwCl [] U ∧ va_D (fun _ => True) [(x, .inr (11, [.ref tp, .ref ou, .ref sa, .ref ur, .ref tr, .ref so, .ref ma, .ref ta, .ref jt, .ref fr, .ref jo, .ref un, .ref su, .int 0, .int 0, .int 0]))])) (va_Qi (fun (r : Int32) (_ : Unit) => r = (-1)) (fun (_ : Unit) (t : State) => va_P (dC, dI) vwCl [] t.heap ∧ va_K (dC, dI) vwCl [] t ∧ va_D (va_A [(x, .inr (11, [.ref tp, .ref ou, .ref sa, .ref ur, .ref tr, .ref so, .ref ma, .ref ta, .ref jt, .ref fr, .ref jo, .ref un, .ref su, .int 0, .int 0, .int 0]))] sz) []) (va_A [(x, .inr (11, [.ref tp, .ref ou, .ref sa, .ref ur, .ref tr, .ref so, .ref ma, .ref ta, .ref jt, .ref fr, .ref jo, .ref un, .ref su, .int 0, .int 0, .int 0]))] sz)) 0 0 (va_A [(x, .inr (11, [.ref tp, .ref ou, .ref sa, .ref ur, .ref tr, .ref so, .ref ma, .ref ta, .ref jt, .ref fr, .ref jo, .ref un, .ref su, .int 0, .int 0, .int 0]))] sz) := by
  refine Met.ofW (cc := cX11_join) (maxL := 3) (ret := (some .int)) (by decide) rfl ?_
  intro p e s m args below meth c s₁ B hml hv
  obtain ⟨rfl, hsz, hzX, hP, hK, hD0⟩ := hv
  have hx := B.exec
  have hb := B.bytes
  have hr := B.returns
  have hts := atoms_spec (ws := wsX11_join) B.pre
  have hown : s.vm.findClass RX11 = some m.cls := findClass_of_methodNamed B.named
  have hlocks := B.notSynchronized
  subst hsz
  have hD := hD0.self (sz := s.heap.size)
  generalize hAe : va_A [(x, .inr (11, [.ref tp, .ref ou, .ref sa, .ref ur, .ref tr, .ref so, .ref ma, .ref ta, .ref jt, .ref fr, .ref jo, .ref un, .ref su, .int 0, .int 0, .int 0]))] s.heap.size = A at  hD ⊢
  have hA : ∀ q : Nat, s.heap.size ≤ q → A q := fun q h => by rw [← hAe]; exact Or.inr h
  have hS : va_S A s.heap s.heap [] := va_S.rf
  have hP : va_P (dC, dI) vwCl [(x, .inr (11, [.ref tp, .ref ou, .ref sa, .ref ur, .ref tr, .ref so, .ref ma, .ref ta, .ref jt, .ref fr, .ref jo, .ref un, .ref su, .int 0, .int 0, .int 0]))] s.heap := hP
  have hl := lv_entry ([.ref x, .int n1, .int n2]) (n := 3) (Nat.le_of_ble_eq_true rfl)
  rw [lg_entry_eq]
  generalize (lg_sl ([.ref x, .int n1, .int n2]) ++ List.replicate (3 - (lg_sl ([.ref x, .int n1, .int n2])).length) Slot.unset).toArray = ls at hl ⊢
  have hl : lv_has ls 3 [(0, .ref x), (1, .int n1), (2, .int n2)] := hl
  skip
  refine lv_aload_n hx hb dX11_join_0 rfl (lv_at hl 0 rfl) ?_
  refine lv_iload_n hx hb dX11_join_1 rfl (lv_at hl 1 rfl) ?_
  have hPc := hP.sub (ws' := [(x, .inr (11, [.ref tp, .ref ou, .ref sa, .ref ur, .ref tr, .ref so, .ref ma, .ref ta, .ref jt, .ref fr, .ref jo, .ref un, .ref su, .int 0, .int 0, .int 0]))]) [0] rfl
  have hDc := hD.sub (ws' := [(x, .inr (11, [.ref tp, .ref ou, .ref sa, .ref ur, .ref tr, .ref so, .ref ma, .ref ta, .ref jt, .ref fr, .ref jo, .ref un, .ref su, .int 0, .int 0, .int 0]))]) [0] (by decide) rfl
  have hKc := hK.sub (tys' := []) [] rfl
  have hFc := va_free (wc := [(x, .inr (11, [.ref tp, .ref ou, .ref sa, .ref ur, .ref tr, .ref so, .ref ma, .ref ta, .ref jt, .ref fr, .ref jo, .ref un, .ref su, .int 0, .int 0, .int 0]))]) hD hS hA [0] rfl
  refine va_calli (va_runV (As := [.int n1]) (rest := []) ⟨hx, hb, hml, hown, hts⟩ (c_isFragment l dC dI x tp ou sa ur tr so ma ta jt fr jo un su n1 s.heap.size ) (cwV 1 hts gX11_join_X11_isFragment rfl rfl rfl (by decide +kernel) ⟨Nat.le_of_ble_eq_true rfl, Nat.le_of_ble_eq_true rfl⟩) ⟨fun a U g mk q => by obtain ⟨q0, q1, qX, qP, qK, qD⟩ := q; exact ⟨q0, q1, zz_X.same (u := U) (U := U.calling g mk a) rfl qX, qP, va_K.moved (u := U) (U := U.calling g mk a) (Vm.Alike.refl U.vm) qK, qD⟩, va_recv hKc hPc (ci := 11) (q0 := 0) rfl rfl, fun U hU hW => ⟨rfl, by rw [hU], zz_X.warm hW hzX, by rw [hU]; exact hPc, va_K.moved hW.alike hKc, hDc.weaken (fun _ _ _ _ => trivial)⟩⟩ rfl rfl hl.1 rfl (lv_room (Nat.le_of_ble_eq_true rfl)) dX11_join_2 ⟨Nat.le_of_ble_eq_true rfl, Nat.le_of_ble_eq_true rfl⟩) hS (fun q _ h => hFc q h) hFc (fun r9 u t H1 locs ht hvm hw hB hz1 hk1 hS => ?_)
  obtain ⟨hP1, hK1, hD1⟩ := hB
  rw [ht] at hP1
  have hK1 := va_K.moved hvm.symm hK1
  obtain ⟨hP, hD⟩ := va_join (wr := []) (w1 := [(x, .inr (11, [.ref tp, .ref ou, .ref sa, .ref ur, .ref tr, .ref so, .ref ma, .ref ta, .ref jt, .ref fr, .ref jo, .ref un, .ref su, .int 0, .int 0, .int 0]))]) hP hD [0] [] rfl rfl (by decide) (by decide) hk1 hFc hP1 hD1
  have hK := (hK.sub (tys' := []) [] rfl).app (hK1.sub (tys' := []) [] rfl)
  generalize H1 = H at hP hS ⊢
  have hP : va_P (dC, dI) vwCl [(x, .inr (11, [.ref tp, .ref ou, .ref sa, .ref ur, .ref tr, .ref so, .ref ma, .ref ta, .ref jt, .ref fr, .ref jo, .ref un, .ref su, .int 0, .int 0, .int 0]))] H := hP
  have hD : va_D A [(x, .inr (11, [.ref tp, .ref ou, .ref sa, .ref ur, .ref tr, .ref so, .ref ma, .ref ta, .ref jt, .ref fr, .ref jo, .ref un, .ref su, .int 0, .int 0, .int 0]))] := hD
  have hK : va_K (dC, dI) vwCl [] s := hK
  obtain rfl : r9 = 0 := hw
  refine W.widen (k := 0) (n := 0) (Nat.le_of_ble_eq_true rfl) (Nat.le_of_ble_eq_true rfl) ?_
  refine lv_if_eq (tgt := 21) hx hb dX11_join_5 (by decide) (fun c9 => ?_) (fun c9 => absurd (by decide) c9)
  refine lv_iconst (v := (-1)) hx hb dX11_join_21 (by decide) ?_
  have hP9 := hP.sub (ws' := []) [] rfl
  have hD9 := hD.sub (ws' := []) [] (by decide) rfl
  have hK9 := hK.sub (tys' := []) [] rfl
  refine W.widen (k := 0) (n := 0) (Nat.le_of_ble_eq_true rfl) (Nat.le_of_ble_eq_true rfl) ?_
  exact W.iret (v := (-1)) hx hb hr (fun t ht hW => ⟨⟨(-1), (), rfl, rfl, by rw [ht]; exact hP9, va_K.moved hW.alike hK9, hD9⟩, hS.F ht⟩) hS.2.2 dX11_join_22
theorem in_X0_take_X0 : ∀ w ∈ wsX00, w ∈ wsX0_take := fun _ h => List.mem_cons_of_mem _ (List.mem_append_left _ (List.mem_append_right _ h))
theorem in_X0_take_X7 : ∀ w ∈ wsX70, w ∈ wsX0_take := fun _ h => List.mem_cons_of_mem _ (List.mem_append_right _ h)
set_option maxHeartbeats 4000000 in
set_option maxRecDepth 100000 in
theorem c_Ftake (l : Launch) (dC : Nat → ClassId) (dI : Nat → Nat → Nat) (f0 : Nat) (ft : Nat) (fx : Nat) (tp : Nat) (tb : Nat) (n1 : Int32) (n2 : Int32) (sz : Nat)  : Met l yX0_take wsX0_take ({ frames := 1, cells := 0, slots := 0, locals := 20 } : Room) (va_Pc [.ref f0, .ref tp, .int n1, .int n2] (fun U => U.heap.size = sz ∧ zz_X U ∧ va_P (dC, dI) vwCl [(f0, .inr (0, [.ref ft, .int 0, .int 0, .int 0])), (ft, .inr (7, [.ref fx, .int 0])), (tp, .inr (7, [.ref tb, .int 0]))] U.heap ∧ va_K (dC, dI) vwCl [] U ∧ va_D (fun _ => True) [(f0, .inr (0, [.ref ft, .int 0, .int 0, .int 0])), (ft, .inr (7, [.ref fx, .int 0])), (tp, .inr (7, [.ref tb, .int 0]))])) (va_Qv (fun (_ : Unit) => True) (fun (_ : Unit) (t : State) => va_P (dC, dI) vwCl [(tp, .inr (7, [.ref tb, .int 0]))] t.heap ∧ va_K (dC, dI) vwCl [] t ∧ va_D (va_A [(f0, .inr (0, [.ref ft, .int 0, .int 0, .int 0])), (ft, .inr (7, [.ref fx, .int 0])), (tp, .inr (7, [.ref tb, .int 0]))] sz) [(tp, .inr (7, [.ref tb, .int 0]))]) (va_A [(f0, .inr (0, [.ref ft, .int 0, .int 0, .int 0])), (ft, .inr (7, [.ref fx, .int 0])), (tp, .inr (7, [.ref tb, .int 0]))] sz)) 0 0 (va_A [(f0, .inr (0, [.ref ft, .int 0, .int 0, .int 0])), (ft, .inr (7, [.ref fx, .int 0])), (tp, .inr (7, [.ref tb, .int 0]))] sz) := by
  refine Met.ofW (cc := cX0_take) (maxL := 6) (ret := none) (by decide) rfl ?_
  intro p e s m args below meth c s₁ B hml hv
  obtain ⟨rfl, hsz, hzX, hP, hK, hD0⟩ := hv
  have hx := B.exec
  have hb := B.bytes
  have hr := B.returns
  have hts := atoms_spec (ws := wsX0_take) B.pre
  have hown : s.vm.findClass RX0 = some m.cls := findClass_of_methodNamed B.named
  have hlocks := B.notSynchronized
  subst hsz
  have hD := hD0.self (sz := s.heap.size)
  generalize hAe : va_A [(f0, .inr (0, [.ref ft, .int 0, .int 0, .int 0])), (ft, .inr (7, [.ref fx, .int 0])), (tp, .inr (7, [.ref tb, .int 0]))] s.heap.size = A at  hD ⊢
  have hA : ∀ q : Nat, s.heap.size ≤ q → A q := fun q h => by rw [← hAe]; exact Or.inr h
  have hS : va_S A s.heap s.heap [] := va_S.rf
  have hP : va_P (dC, dI) vwCl [(f0, .inr (0, [.ref ft, .int 0, .int 0, .int 0])), (ft, .inr (7, [.ref fx, .int 0])), (tp, .inr (7, [.ref tb, .int 0]))] s.heap := hP
  have hl := lv_entry ([.ref f0, .ref tp, .int n1, .int n2]) (n := 6) (Nat.le_of_ble_eq_true rfl)
  rw [lg_entry_eq]
  generalize (lg_sl ([.ref f0, .ref tp, .int n1, .int n2]) ++ List.replicate (6 - (lg_sl ([.ref f0, .ref tp, .int n1, .int n2])).length) Slot.unset).toArray = ls at hl ⊢
  have hl : lv_has ls 6 [(0, .ref f0), (1, .ref tp), (2, .int n1), (3, .int n2)] := hl
  skip
  refine lv_aload_n hx hb dX0_take_0 rfl (lv_at hl 0 rfl) ?_
  refine va_get (D := (dC, dI)) (ci := 0) (v := .ref ft) (C := RX0) (T := TX0) (N := 4) hx hb hts in_X0_take_X0 hown hK hP 0 rfl rfl 0 (by decide) (hts (.fieldLink RX0 14 "ClayAccounts$Fragment" "text" "LClayAccounts$Text;") (by decide +kernel)) (fun _ h9 => h9) rfl dX0_take_1 ?_
  have hPc := hP.sub (ws' := [(ft, .inr (7, [.ref fx, .int 0]))]) [1] rfl
  have hDc := hD.sub (ws' := [(ft, .inr (7, [.ref fx, .int 0]))]) [1] (by decide) rfl
  have hKc := hK.sub (tys' := []) [] rfl
  have hFc := va_free (wc := [(ft, .inr (7, [.ref fx, .int 0]))]) hD hS hA [1] rfl
  refine va_callv (va_runV (As := []) (rest := []) ⟨hx, hb, hml, hown, hts⟩ (c_clear l dC dI ft fx 0 s.heap.size ) (cwV 0 hts gX0_take_X7_clear rfl rfl rfl (by decide +kernel) ⟨Nat.le_of_ble_eq_true rfl, Nat.le_of_ble_eq_true rfl⟩) ⟨fun a U g mk q => by obtain ⟨q0, q1, qX, qP, qK, qD⟩ := q; exact ⟨q0, q1, zz_X.same (u := U) (U := U.calling g mk a) rfl qX, qP, va_K.moved (u := U) (U := U.calling g mk a) (Vm.Alike.refl U.vm) qK, qD⟩, va_recv hKc hPc (ci := 7) (q0 := 0) rfl rfl, fun U hU hW => ⟨rfl, by rw [hU], zz_X.warm hW hzX, by rw [hU]; exact hPc, va_K.moved hW.alike hKc, hDc.weaken (fun _ _ _ _ => trivial)⟩⟩ rfl rfl hl.1 rfl (lv_room (Nat.le_of_ble_eq_true rfl)) dX0_take_4 ⟨Nat.le_of_ble_eq_true rfl, Nat.le_of_ble_eq_true rfl⟩) hS (fun q _ h => hFc q h) hFc (fun u t H1 locs ht hvm hw hB hz1 hk1 hS => ?_)
  obtain ⟨hP1, hK1, hD1⟩ := hB
  rw [ht] at hP1
  have hK1 := va_K.moved hvm.symm hK1
  obtain ⟨hP, hD⟩ := va_join (wr := [(f0, .inr (0, [.ref ft, .int 0, .int 0, .int 0])), (tp, .inr (7, [.ref tb, .int 0]))]) (w1 := [(ft, .inr (7, [.ref fx, .int 0]))]) hP hD [1] [0, 2] rfl rfl (by decide) (by decide) hk1 hFc hP1 hD1
  have hK := (hK.sub (tys' := []) [] rfl).app (hK1.sub (tys' := []) [] rfl)
  generalize H1 = H at hP hS ⊢
  have hP : va_P (dC, dI) vwCl [(f0, .inr (0, [.ref ft, .int 0, .int 0, .int 0])), (tp, .inr (7, [.ref tb, .int 0])), (ft, .inr (7, [.ref fx, .int 0]))] H := hP
  have hD : va_D A [(f0, .inr (0, [.ref ft, .int 0, .int 0, .int 0])), (tp, .inr (7, [.ref tb, .int 0])), (ft, .inr (7, [.ref fx, .int 0]))] := hD
  have hK : va_K (dC, dI) vwCl [] s := hK
  refine W.widen (k := 0) (n := 0) (Nat.le_of_ble_eq_true rfl) (Nat.le_of_ble_eq_true rfl) ?_
  refine lv_aload_n hx hb dX0_take_7 rfl (lv_at hl 0 rfl) ?_
  refine lv_iconst (v := 1) hx hb dX0_take_8 (by decide) ?_
  refine va_put (D := (dC, dI)) (ci := 0) (v := .int 1) (ty := .int) (C := RX0) (T := TX0) (N := 4) hx hb hts in_X0_take_X0 tyX0 tyX0_ok nmX0 hown hK hP hD hS 0 rfl rfl 3 (by decide) (hts (.fieldLink RX0 23 "ClayAccounts$Fragment" "rowCount" "I") (by decide +kernel)) (fun _ h9 => h9) rfl (by decide +kernel) rfl rfl (Nat.le_of_ble_eq_true rfl) dX0_take_9 (fun H locs hP hD hS => ?_)
  have hP : va_P (dC, dI) vwCl [(f0, .inr (0, [.ref ft, .int 0, .int 0, .int 1])), (tp, .inr (7, [.ref tb, .int 0])), (ft, .inr (7, [.ref fx, .int 0]))] H := hP
  have hD : va_D A [(f0, .inr (0, [.ref ft, .int 0, .int 0, .int 1])), (tp, .inr (7, [.ref tb, .int 0])), (ft, .inr (7, [.ref fx, .int 0]))] := hD
  refine lv_iconst (v := 0) hx hb dX0_take_12 (by decide) ?_
  refine lv_istore (lv' := [(4, .int 0), (0, .ref f0), (1, .ref tp), (2, .int n1), (3, .int n2)]) hx hb dX0_take_13 hl (by decide) rfl (fun ls hl => ?_)
  refine lv_iload hx hb dX0_take_15 (lv_at hl 0 rfl) ?_
  refine lv_aload_n hx hb dX0_take_17 rfl (lv_at hl 2 rfl) ?_
  refine va_get (D := (dC, dI)) (ci := 7) (v := .int 0) (C := RX7) (T := TX7) (N := 2) hx hb hts in_X0_take_X7 hown hK hP 1 rfl rfl 1 (by decide) (hts (.fieldLink RX0 27 "ClayAccounts$Text" "size" "I") (by decide +kernel)) (fun _ h9 => h9) rfl dX0_take_18 ?_
  refine lv_icmp_ge (tgt := 68) hx hb dX0_take_21 (by decide) (fun c9 => ?_) (fun c9 => absurd (by decide) c9)
  refine lv_aload_n hx hb dX0_take_68 rfl (lv_at hl 1 rfl) ?_
  refine lv_iload_n hx hb dX0_take_69 rfl (lv_at hl 3 rfl) ?_
  refine va_put (D := (dC, dI)) (ci := 0) (v := .int n1) (ty := .int) (C := RX0) (T := TX0) (N := 4) hx hb hts in_X0_take_X0 tyX0 tyX0_ok nmX0 hown hK hP hD hS 0 rfl rfl 1 (by decide) (hts (.fieldLink RX0 37 "ClayAccounts$Fragment" "left" "I") (by decide +kernel)) (fun _ h9 => h9) rfl (by decide +kernel) rfl rfl (Nat.le_of_ble_eq_true rfl) dX0_take_70 (fun H locs hP hD hS => ?_)
  have hP : va_P (dC, dI) vwCl [(f0, .inr (0, [.ref ft, .int n1, .int 0, .int 1])), (tp, .inr (7, [.ref tb, .int 0])), (ft, .inr (7, [.ref fx, .int 0]))] H := hP
  have hD : va_D A [(f0, .inr (0, [.ref ft, .int n1, .int 0, .int 1])), (tp, .inr (7, [.ref tb, .int 0])), (ft, .inr (7, [.ref fx, .int 0]))] := hD
  refine lv_aload_n hx hb dX0_take_73 rfl (lv_at hl 1 rfl) ?_
  refine lv_iload_n hx hb dX0_take_74 rfl (lv_at hl 4 rfl) ?_
  refine va_put (D := (dC, dI)) (ci := 0) (v := .int n2) (ty := .int) (C := RX0) (T := TX0) (N := 4) hx hb hts in_X0_take_X0 tyX0 tyX0_ok nmX0 hown hK hP hD hS 0 rfl rfl 2 (by decide) (hts (.fieldLink RX0 40 "ClayAccounts$Fragment" "right" "I") (by decide +kernel)) (fun _ h9 => h9) rfl (by decide +kernel) rfl rfl (Nat.le_of_ble_eq_true rfl) dX0_take_75 (fun H locs hP hD hS => ?_)
  have hP : va_P (dC, dI) vwCl [(f0, .inr (0, [.ref ft, .int n1, .int n2, .int 1])), (tp, .inr (7, [.ref tb, .int 0])), (ft, .inr (7, [.ref fx, .int 0]))] H := hP
  have hD : va_D A [(f0, .inr (0, [.ref ft, .int n1, .int n2, .int 1])), (tp, .inr (7, [.ref tb, .int 0])), (ft, .inr (7, [.ref fx, .int 0]))] := hD
  have hP9 := hP.sub (ws' := [(tp, .inr (7, [.ref tb, .int 0]))]) [1] rfl
  have hD9 := hD.sub (ws' := [(tp, .inr (7, [.ref tb, .int 0]))]) [1] (by decide) rfl
  have hK9 := hK.sub (tys' := []) [] rfl
  refine W.widen (k := 0) (n := 0) (Nat.le_of_ble_eq_true rfl) (Nat.le_of_ble_eq_true rfl) ?_
  exact W.vret hx hb hr (fun t ht hW => ⟨⟨(), rfl, trivial, by rw [ht]; exact hP9, va_K.moved hW.alike hK9, hD9⟩, hS.F ht⟩) hS.2.2 dX0_take_78
theorem in_X11_fragment_X11 : ∀ w ∈ wsX110, w ∈ wsX11_fragment := fun _ h => List.mem_cons_of_mem _ (List.mem_append_left _ (List.mem_append_left _ (List.mem_append_right _ h)))
theorem in_X11_fragment_X7 : ∀ w ∈ wsX70, w ∈ wsX11_fragment := fun _ h => List.mem_cons_of_mem _ (List.mem_append_left _ (List.mem_append_right _ h))
set_option maxHeartbeats 4000000 in
set_option maxRecDepth 100000 in
theorem c_fragment (l : Launch) (dC : Nat → ClassId) (dI : Nat → Nat → Nat) (x : Nat) (tp : Nat) (ou : Nat) (sa : Nat) (ur : Nat) (tr : Nat) (so : Nat) (ma : Nat) (ta : Nat) (jt : Nat) (fr : Nat) (jo : Nat) (un : Nat) (su : Nat) (tb : Nat) (kf : ClassId) (gf : Nat → Option Nat) (f0 : Nat) (ft : Nat) (fx : Nat) (n1 : Int32) (n2 : Int32) (sz : Nat) (hgf : gf 0 = some f0) : Met l yX11_fragment wsX11_fragment ({ frames := 2, cells := 0, slots := 0, locals := 45 } : Room) (va_Pc [.ref x, .int n1, .int n2] (fun U => U.heap.size = sz ∧ zz_X U ∧ va_P (dC, dI) vwCl [(x, .inr (11, [.ref tp, .ref ou, .ref sa, .ref ur, .ref tr, .ref so, .ref ma, .ref ta, .ref jt, .ref fr, .ref jo, .ref un, .ref su, .int 0, .int 0, .int 0])), (tp, .inr (7, [.ref tb, .int 0])), (fr, .inl (kf, 12, .inr (.inr (.inr (.inr gf))))), (f0, .inr (0, [.ref ft, .int 0, .int 0, .int 0])), (ft, .inr (7, [.ref fx, .int 0]))] U.heap ∧ va_K (dC, dI) vwCl [(kf, .object RX0)] U ∧ va_D (fun _ => True) [(x, .inr (11, [.ref tp, .ref ou, .ref sa, .ref ur, .ref tr, .ref so, .ref ma, .ref ta, .ref jt, .ref fr, .ref jo, .ref un, .ref su, .int 0, .int 0, .int 0])), (tp, .inr (7, [.ref tb, .int 0])), (fr, .inl (kf, 12, .inr (.inr (.inr (.inr gf))))), (f0, .inr (0, [.ref ft, .int 0, .int 0, .int 0])), (ft, .inr (7, [.ref fx, .int 0]))])) (va_Qi (fun (r : Int32) (_ : Unit) => r = zz_frag n1 n2) (fun (_ : Unit) (t : State) => va_P (dC, dI) vwCl [] t.heap ∧ va_K (dC, dI) vwCl [] t ∧ va_D (va_A [(x, .inr (11, [.ref tp, .ref ou, .ref sa, .ref ur, .ref tr, .ref so, .ref ma, .ref ta, .ref jt, .ref fr, .ref jo, .ref un, .ref su, .int 0, .int 0, .int 0])), (tp, .inr (7, [.ref tb, .int 0])), (fr, .inl (kf, 12, .inr (.inr (.inr (.inr gf))))), (f0, .inr (0, [.ref ft, .int 0, .int 0, .int 0])), (ft, .inr (7, [.ref fx, .int 0]))] sz) []) (va_A [(x, .inr (11, [.ref tp, .ref ou, .ref sa, .ref ur, .ref tr, .ref so, .ref ma, .ref ta, .ref jt, .ref fr, .ref jo, .ref un, .ref su, .int 0, .int 0, .int 0])), (tp, .inr (7, [.ref tb, .int 0])), (fr, .inl (kf, 12, .inr (.inr (.inr (.inr gf))))), (f0, .inr (0, [.ref ft, .int 0, .int 0, .int 0])), (ft, .inr (7, [.ref fx, .int 0]))] sz)) 0 0 (va_A [(x, .inr (11, [.ref tp, .ref ou, .ref sa, .ref ur, .ref tr, .ref so, .ref ma, .ref ta, .ref jt, .ref fr, .ref jo, .ref un, .ref su, .int 0, .int 0, .int 0])), (tp, .inr (7, [.ref tb, .int 0])), (fr, .inl (kf, 12, .inr (.inr (.inr (.inr gf))))), (f0, .inr (0, [.ref ft, .int 0, .int 0, .int 0])), (ft, .inr (7, [.ref fx, .int 0]))] sz) := by
  refine Met.ofW (cc := cX11_fragment) (maxL := 4) (ret := (some .int)) (by decide) rfl ?_
  intro p e s m args below meth c s₁ B hml hv
  obtain ⟨rfl, hsz, hzX, hP, hK, hD0⟩ := hv
  have hx := B.exec
  have hb := B.bytes
  have hr := B.returns
  have hts := atoms_spec (ws := wsX11_fragment) B.pre
  have hown : s.vm.findClass RX11 = some m.cls := findClass_of_methodNamed B.named
  have hlocks := B.notSynchronized
  subst hsz
  have hD := hD0.self (sz := s.heap.size)
  generalize hAe : va_A [(x, .inr (11, [.ref tp, .ref ou, .ref sa, .ref ur, .ref tr, .ref so, .ref ma, .ref ta, .ref jt, .ref fr, .ref jo, .ref un, .ref su, .int 0, .int 0, .int 0])), (tp, .inr (7, [.ref tb, .int 0])), (fr, .inl (kf, 12, .inr (.inr (.inr (.inr gf))))), (f0, .inr (0, [.ref ft, .int 0, .int 0, .int 0])), (ft, .inr (7, [.ref fx, .int 0]))] s.heap.size = A at  hD ⊢
  have hA : ∀ q : Nat, s.heap.size ≤ q → A q := fun q h => by rw [← hAe]; exact Or.inr h
  have hS : va_S A s.heap s.heap [] := va_S.rf
  have hP : va_P (dC, dI) vwCl [(x, .inr (11, [.ref tp, .ref ou, .ref sa, .ref ur, .ref tr, .ref so, .ref ma, .ref ta, .ref jt, .ref fr, .ref jo, .ref un, .ref su, .int 0, .int 0, .int 0])), (tp, .inr (7, [.ref tb, .int 0])), (fr, .inl (kf, 12, .inr (.inr (.inr (.inr gf))))), (f0, .inr (0, [.ref ft, .int 0, .int 0, .int 0])), (ft, .inr (7, [.ref fx, .int 0]))] s.heap := hP
  have hl := lv_entry ([.ref x, .int n1, .int n2]) (n := 4) (Nat.le_of_ble_eq_true rfl)
  rw [lg_entry_eq]
  generalize (lg_sl ([.ref x, .int n1, .int n2]) ++ List.replicate (4 - (lg_sl ([.ref x, .int n1, .int n2])).length) Slot.unset).toArray = ls at hl ⊢
  have hl : lv_has ls 4 [(0, .ref x), (1, .int n1), (2, .int n2)] := hl
  skip
  refine lv_aload_n hx hb dX11_fragment_0 rfl (lv_at hl 0 rfl) ?_
  refine va_get (D := (dC, dI)) (ci := 11) (v := .int 0) (C := RX11) (T := TX11) (N := 16) hx hb hts in_X11_fragment_X11 hown hK hP 0 rfl rfl 14 (by decide) (hts (.fieldLink RX11 94 "ClayAccounts" "fragmentCount" "I") (by decide +kernel)) (fun _ h9 => h9) rfl dX11_fragment_1 ?_
  refine lv_bipush (v := 12) hx hb dX11_fragment_4 (by decide) ?_
  refine lv_icmp_ge (tgt := 40) hx hb dX11_fragment_6 (by decide) (fun c9 => absurd c9 (by decide)) (fun c9 => ?_)
  refine lv_iload_n hx hb dX11_fragment_9 rfl (lv_at hl 1 rfl) ?_
  have hPc := hP.sub (ws' := []) [] rfl
  have hDc := hD.sub (ws' := []) [] (by decide) rfl
  have hKc := hK.sub (tys' := []) [] rfl
  have hFc := va_free (wc := []) hD hS hA [] rfl
  refine va_calli (va_runS (As := [.int n1]) (rest := []) ⟨hx, hb, hml, hown, hts⟩ (c_isEdge l dC dI n1 s.heap.size ) (va_cwS 1 hts gX11_fragment_X11_isEdge rfl rfl rfl (by decide +kernel) ⟨Nat.le_of_ble_eq_true rfl, Nat.le_of_ble_eq_true rfl⟩) ⟨fun a U g mk q => by obtain ⟨q0, q1, qX, qP, qK, qD⟩ := q; exact ⟨q0, q1, zz_X.same (u := U) (U := U.calling g mk a) rfl qX, qP, va_K.moved (u := U) (U := U.calling g mk a) (Vm.Alike.refl U.vm) qK, qD⟩, fun U hU hW => ⟨rfl, by rw [hU], zz_X.warm hW hzX, by rw [hU]; exact hPc, va_K.moved hW.alike hKc, hDc.weaken (fun _ _ _ _ => trivial)⟩⟩ rfl rfl hl.1 rfl (lv_room (Nat.le_of_ble_eq_true rfl)) dX11_fragment_10 ⟨Nat.le_of_ble_eq_true rfl, Nat.le_of_ble_eq_true rfl⟩) hS (fun q _ h => hFc q h) hFc (fun r9 u t H1 locs ht hvm hw hB hz1 hk1 hS => ?_)
  obtain ⟨hP1, hK1, hD1⟩ := hB
  rw [ht] at hP1
  have hK1 := va_K.moved hvm.symm hK1
  obtain ⟨hP, hD⟩ := va_join (wr := [(x, .inr (11, [.ref tp, .ref ou, .ref sa, .ref ur, .ref tr, .ref so, .ref ma, .ref ta, .ref jt, .ref fr, .ref jo, .ref un, .ref su, .int 0, .int 0, .int 0])), (tp, .inr (7, [.ref tb, .int 0])), (fr, .inl (kf, 12, .inr (.inr (.inr (.inr gf))))), (f0, .inr (0, [.ref ft, .int 0, .int 0, .int 0])), (ft, .inr (7, [.ref fx, .int 0]))]) (w1 := []) hP hD [] [0, 1, 2, 3, 4] rfl rfl (by decide) (by decide) hk1 hFc hP1 hD1
  have hK := (hK.sub (tys' := [(kf, .object RX0)]) [0] rfl).app (hK1.sub (tys' := []) [] rfl)
  generalize H1 = H at hP hS ⊢
  have hP : va_P (dC, dI) vwCl [(x, .inr (11, [.ref tp, .ref ou, .ref sa, .ref ur, .ref tr, .ref so, .ref ma, .ref ta, .ref jt, .ref fr, .ref jo, .ref un, .ref su, .int 0, .int 0, .int 0])), (tp, .inr (7, [.ref tb, .int 0])), (fr, .inl (kf, 12, .inr (.inr (.inr (.inr gf))))), (f0, .inr (0, [.ref ft, .int 0, .int 0, .int 0])), (ft, .inr (7, [.ref fx, .int 0]))] H := hP
  have hD : va_D A [(x, .inr (11, [.ref tp, .ref ou, .ref sa, .ref ur, .ref tr, .ref so, .ref ma, .ref ta, .ref jt, .ref fr, .ref jo, .ref un, .ref su, .int 0, .int 0, .int 0])), (tp, .inr (7, [.ref tb, .int 0])), (fr, .inl (kf, 12, .inr (.inr (.inr (.inr gf))))), (f0, .inr (0, [.ref ft, .int 0, .int 0, .int 0])), (ft, .inr (7, [.ref fx, .int 0]))] := hD
  have hK : va_K (dC, dI) vwCl [(kf, .object RX0)] s := hK
  replace hw : r9 = zz_edge n1 := hw
  subst hw
  refine W.widen (k := 0) (n := 0) (Nat.le_of_ble_eq_true rfl) (Nat.le_of_ble_eq_true rfl) ?_
  refine lv_if_eq (tgt := 40) hx hb dX11_fragment_13 (by decide) (fun c_1 => ?_) (fun c_1 => ?_)
  · refine lv_iconst (v := 0) hx hb dX11_fragment_40 (by decide) ?_
    refine lv_istore_n (lv' := [(3, .int 0), (0, .ref x), (1, .int n1), (2, .int n2)]) hx hb dX11_fragment_41 rfl hl (by decide) rfl (fun ls hl => ?_)
    refine lv_iload_n hx hb dX11_fragment_42 rfl (lv_at hl 0 rfl) ?_
    refine lv_if_eq (tgt := 74) hx hb dX11_fragment_43 (by decide) (fun c9 => ?_) (fun c9 => absurd (by decide) c9)
    refine lv_aload_n hx hb dX11_fragment_74 rfl (lv_at hl 1 rfl) ?_
    refine va_get (D := (dC, dI)) (ci := 11) (v := .ref tp) (C := RX11) (T := TX11) (N := 16) hx hb hts in_X11_fragment_X11 hown hK hP 0 rfl rfl 0 (by decide) (hts (.fieldLink RX11 14 "ClayAccounts" "tape" "LClayAccounts$Text;") (by decide +kernel)) (fun _ h9 => h9) rfl dX11_fragment_75 ?_
    have hPc := hP.sub (ws' := [(tp, .inr (7, [.ref tb, .int 0]))]) [1] rfl
    have hDc := hD.sub (ws' := [(tp, .inr (7, [.ref tb, .int 0]))]) [1] (by decide) rfl
    have hKc := hK.sub (tys' := []) [] rfl
    have hFc := va_free (wc := [(tp, .inr (7, [.ref tb, .int 0]))]) hD hS hA [1] rfl
    refine va_callv (va_runV (As := []) (rest := []) ⟨hx, hb, hml, hown, hts⟩ (c_clear l dC dI tp tb 0 H.size ) (cwV 0 hts gX11_fragment_X7_clear rfl rfl rfl (by decide +kernel) ⟨Nat.le_of_ble_eq_true rfl, Nat.le_of_ble_eq_true rfl⟩) ⟨fun a U g mk q => by obtain ⟨q0, q1, qX, qP, qK, qD⟩ := q; exact ⟨q0, q1, zz_X.same (u := U) (U := U.calling g mk a) rfl qX, qP, va_K.moved (u := U) (U := U.calling g mk a) (Vm.Alike.refl U.vm) qK, qD⟩, va_recv hKc hPc (ci := 7) (q0 := 0) rfl rfl, fun U hU hW => ⟨rfl, by rw [hU], zz_X.warm hW hzX, by rw [hU]; exact hPc, va_K.moved hW.alike hKc, hDc.weaken (fun _ _ _ _ => trivial)⟩⟩ rfl rfl hl.1 rfl (lv_room (Nat.le_of_ble_eq_true rfl)) dX11_fragment_78 ⟨Nat.le_of_ble_eq_true rfl, Nat.le_of_ble_eq_true rfl⟩) hS (fun q _ h => hFc q h) hFc (fun u t H1 locs ht hvm hw hB hz1 hk1 hS => ?_)
    obtain ⟨hP1, hK1, hD1⟩ := hB
    rw [ht] at hP1
    have hK1 := va_K.moved hvm.symm hK1
    obtain ⟨hP, hD⟩ := va_join (wr := [(x, .inr (11, [.ref tp, .ref ou, .ref sa, .ref ur, .ref tr, .ref so, .ref ma, .ref ta, .ref jt, .ref fr, .ref jo, .ref un, .ref su, .int 0, .int 0, .int 0])), (fr, .inl (kf, 12, .inr (.inr (.inr (.inr gf))))), (f0, .inr (0, [.ref ft, .int 0, .int 0, .int 0])), (ft, .inr (7, [.ref fx, .int 0]))]) (w1 := [(tp, .inr (7, [.ref tb, .int 0]))]) hP hD [1] [0, 2, 3, 4] rfl rfl (by decide) (by decide) hk1 hFc hP1 hD1
    have hK := (hK.sub (tys' := [(kf, .object RX0)]) [0] rfl).app (hK1.sub (tys' := []) [] rfl)
    generalize H1 = H at hP hS ⊢
    have hP : va_P (dC, dI) vwCl [(x, .inr (11, [.ref tp, .ref ou, .ref sa, .ref ur, .ref tr, .ref so, .ref ma, .ref ta, .ref jt, .ref fr, .ref jo, .ref un, .ref su, .int 0, .int 0, .int 0])), (fr, .inl (kf, 12, .inr (.inr (.inr (.inr gf))))), (f0, .inr (0, [.ref ft, .int 0, .int 0, .int 0])), (ft, .inr (7, [.ref fx, .int 0])), (tp, .inr (7, [.ref tb, .int 0]))] H := hP
    have hD : va_D A [(x, .inr (11, [.ref tp, .ref ou, .ref sa, .ref ur, .ref tr, .ref so, .ref ma, .ref ta, .ref jt, .ref fr, .ref jo, .ref un, .ref su, .int 0, .int 0, .int 0])), (fr, .inl (kf, 12, .inr (.inr (.inr (.inr gf))))), (f0, .inr (0, [.ref ft, .int 0, .int 0, .int 0])), (ft, .inr (7, [.ref fx, .int 0])), (tp, .inr (7, [.ref tb, .int 0]))] := hD
    have hK : va_K (dC, dI) vwCl [(kf, .object RX0)] s := hK
    refine W.widen (k := 0) (n := 0) (Nat.le_of_ble_eq_true rfl) (Nat.le_of_ble_eq_true rfl) ?_
    refine lv_iload_n hx hb dX11_fragment_81 rfl (lv_at hl 0 rfl) ?_
    refine lv_if_eq (tgt := 94) hx hb dX11_fragment_82 (by decide) (fun c9 => ?_) (fun c9 => absurd (by decide) c9)
    refine lv_iconst (v := (-1)) hx hb dX11_fragment_94 (by decide) ?_
    have hP9 := hP.sub (ws' := []) [] rfl
    have hD9 := hD.sub (ws' := []) [] (by decide) rfl
    have hK9 := hK.sub (tys' := []) [] rfl
    refine W.widen (k := 0) (n := 0) (Nat.le_of_ble_eq_true rfl) (Nat.le_of_ble_eq_true rfl) ?_
    exact W.iret (v := (-1)) hx hb hr (fun t ht hW => ⟨⟨(-1), (), rfl, (by simp [zz_frag, c_1]), by rw [ht]; exact hP9, va_K.moved hW.alike hK9, hD9⟩, hS.F ht⟩) hS.2.2 dX11_fragment_95
  · refine lv_iload_n hx hb dX11_fragment_16 rfl (lv_at hl 2 rfl) ?_
    have hPc := hP.sub (ws' := []) [] rfl
    have hDc := hD.sub (ws' := []) [] (by decide) rfl
    have hKc := hK.sub (tys' := []) [] rfl
    have hFc := va_free (wc := []) hD hS hA [] rfl
    refine va_calli (va_runS (As := [.int n2]) (rest := []) ⟨hx, hb, hml, hown, hts⟩ (c_isEdge l dC dI n2 H.size ) (va_cwS 1 hts gX11_fragment_X11_isEdge rfl rfl rfl (by decide +kernel) ⟨Nat.le_of_ble_eq_true rfl, Nat.le_of_ble_eq_true rfl⟩) ⟨fun a U g mk q => by obtain ⟨q0, q1, qX, qP, qK, qD⟩ := q; exact ⟨q0, q1, zz_X.same (u := U) (U := U.calling g mk a) rfl qX, qP, va_K.moved (u := U) (U := U.calling g mk a) (Vm.Alike.refl U.vm) qK, qD⟩, fun U hU hW => ⟨rfl, by rw [hU], zz_X.warm hW hzX, by rw [hU]; exact hPc, va_K.moved hW.alike hKc, hDc.weaken (fun _ _ _ _ => trivial)⟩⟩ rfl rfl hl.1 rfl (lv_room (Nat.le_of_ble_eq_true rfl)) dX11_fragment_17 ⟨Nat.le_of_ble_eq_true rfl, Nat.le_of_ble_eq_true rfl⟩) hS (fun q _ h => hFc q h) hFc (fun r9 u t H1 locs ht hvm hw hB hz1 hk1 hS => ?_)
    obtain ⟨hP1, hK1, hD1⟩ := hB
    rw [ht] at hP1
    have hK1 := va_K.moved hvm.symm hK1
    obtain ⟨hP, hD⟩ := va_join (wr := [(x, .inr (11, [.ref tp, .ref ou, .ref sa, .ref ur, .ref tr, .ref so, .ref ma, .ref ta, .ref jt, .ref fr, .ref jo, .ref un, .ref su, .int 0, .int 0, .int 0])), (tp, .inr (7, [.ref tb, .int 0])), (fr, .inl (kf, 12, .inr (.inr (.inr (.inr gf))))), (f0, .inr (0, [.ref ft, .int 0, .int 0, .int 0])), (ft, .inr (7, [.ref fx, .int 0]))]) (w1 := []) hP hD [] [0, 1, 2, 3, 4] rfl rfl (by decide) (by decide) hk1 hFc hP1 hD1
    have hK := (hK.sub (tys' := [(kf, .object RX0)]) [0] rfl).app (hK1.sub (tys' := []) [] rfl)
    generalize H1 = H at hP hS ⊢
    have hP : va_P (dC, dI) vwCl [(x, .inr (11, [.ref tp, .ref ou, .ref sa, .ref ur, .ref tr, .ref so, .ref ma, .ref ta, .ref jt, .ref fr, .ref jo, .ref un, .ref su, .int 0, .int 0, .int 0])), (tp, .inr (7, [.ref tb, .int 0])), (fr, .inl (kf, 12, .inr (.inr (.inr (.inr gf))))), (f0, .inr (0, [.ref ft, .int 0, .int 0, .int 0])), (ft, .inr (7, [.ref fx, .int 0]))] H := hP
    have hD : va_D A [(x, .inr (11, [.ref tp, .ref ou, .ref sa, .ref ur, .ref tr, .ref so, .ref ma, .ref ta, .ref jt, .ref fr, .ref jo, .ref un, .ref su, .int 0, .int 0, .int 0])), (tp, .inr (7, [.ref tb, .int 0])), (fr, .inl (kf, 12, .inr (.inr (.inr (.inr gf))))), (f0, .inr (0, [.ref ft, .int 0, .int 0, .int 0])), (ft, .inr (7, [.ref fx, .int 0]))] := hD
    have hK : va_K (dC, dI) vwCl [(kf, .object RX0)] s := hK
    replace hw : r9 = zz_edge n2 := hw
    subst hw
    refine W.widen (k := 0) (n := 0) (Nat.le_of_ble_eq_true rfl) (Nat.le_of_ble_eq_true rfl) ?_
    refine lv_if_eq (tgt := 40) hx hb dX11_fragment_20 (by decide) (fun c_2 => ?_) (fun c_2 => ?_)
    · refine lv_iconst (v := 0) hx hb dX11_fragment_40 (by decide) ?_
      refine lv_istore_n (lv' := [(3, .int 0), (0, .ref x), (1, .int n1), (2, .int n2)]) hx hb dX11_fragment_41 rfl hl (by decide) rfl (fun ls hl => ?_)
      refine lv_iload_n hx hb dX11_fragment_42 rfl (lv_at hl 0 rfl) ?_
      refine lv_if_eq (tgt := 74) hx hb dX11_fragment_43 (by decide) (fun c9 => ?_) (fun c9 => absurd (by decide) c9)
      refine lv_aload_n hx hb dX11_fragment_74 rfl (lv_at hl 1 rfl) ?_
      refine va_get (D := (dC, dI)) (ci := 11) (v := .ref tp) (C := RX11) (T := TX11) (N := 16) hx hb hts in_X11_fragment_X11 hown hK hP 0 rfl rfl 0 (by decide) (hts (.fieldLink RX11 14 "ClayAccounts" "tape" "LClayAccounts$Text;") (by decide +kernel)) (fun _ h9 => h9) rfl dX11_fragment_75 ?_
      have hPc := hP.sub (ws' := [(tp, .inr (7, [.ref tb, .int 0]))]) [1] rfl
      have hDc := hD.sub (ws' := [(tp, .inr (7, [.ref tb, .int 0]))]) [1] (by decide) rfl
      have hKc := hK.sub (tys' := []) [] rfl
      have hFc := va_free (wc := [(tp, .inr (7, [.ref tb, .int 0]))]) hD hS hA [1] rfl
      refine va_callv (va_runV (As := []) (rest := []) ⟨hx, hb, hml, hown, hts⟩ (c_clear l dC dI tp tb 0 H.size ) (cwV 0 hts gX11_fragment_X7_clear rfl rfl rfl (by decide +kernel) ⟨Nat.le_of_ble_eq_true rfl, Nat.le_of_ble_eq_true rfl⟩) ⟨fun a U g mk q => by obtain ⟨q0, q1, qX, qP, qK, qD⟩ := q; exact ⟨q0, q1, zz_X.same (u := U) (U := U.calling g mk a) rfl qX, qP, va_K.moved (u := U) (U := U.calling g mk a) (Vm.Alike.refl U.vm) qK, qD⟩, va_recv hKc hPc (ci := 7) (q0 := 0) rfl rfl, fun U hU hW => ⟨rfl, by rw [hU], zz_X.warm hW hzX, by rw [hU]; exact hPc, va_K.moved hW.alike hKc, hDc.weaken (fun _ _ _ _ => trivial)⟩⟩ rfl rfl hl.1 rfl (lv_room (Nat.le_of_ble_eq_true rfl)) dX11_fragment_78 ⟨Nat.le_of_ble_eq_true rfl, Nat.le_of_ble_eq_true rfl⟩) hS (fun q _ h => hFc q h) hFc (fun u t H1 locs ht hvm hw hB hz1 hk1 hS => ?_)
      obtain ⟨hP1, hK1, hD1⟩ := hB
      rw [ht] at hP1
      have hK1 := va_K.moved hvm.symm hK1
      obtain ⟨hP, hD⟩ := va_join (wr := [(x, .inr (11, [.ref tp, .ref ou, .ref sa, .ref ur, .ref tr, .ref so, .ref ma, .ref ta, .ref jt, .ref fr, .ref jo, .ref un, .ref su, .int 0, .int 0, .int 0])), (fr, .inl (kf, 12, .inr (.inr (.inr (.inr gf))))), (f0, .inr (0, [.ref ft, .int 0, .int 0, .int 0])), (ft, .inr (7, [.ref fx, .int 0]))]) (w1 := [(tp, .inr (7, [.ref tb, .int 0]))]) hP hD [1] [0, 2, 3, 4] rfl rfl (by decide) (by decide) hk1 hFc hP1 hD1
      have hK := (hK.sub (tys' := [(kf, .object RX0)]) [0] rfl).app (hK1.sub (tys' := []) [] rfl)
      generalize H1 = H at hP hS ⊢
      have hP : va_P (dC, dI) vwCl [(x, .inr (11, [.ref tp, .ref ou, .ref sa, .ref ur, .ref tr, .ref so, .ref ma, .ref ta, .ref jt, .ref fr, .ref jo, .ref un, .ref su, .int 0, .int 0, .int 0])), (fr, .inl (kf, 12, .inr (.inr (.inr (.inr gf))))), (f0, .inr (0, [.ref ft, .int 0, .int 0, .int 0])), (ft, .inr (7, [.ref fx, .int 0])), (tp, .inr (7, [.ref tb, .int 0]))] H := hP
      have hD : va_D A [(x, .inr (11, [.ref tp, .ref ou, .ref sa, .ref ur, .ref tr, .ref so, .ref ma, .ref ta, .ref jt, .ref fr, .ref jo, .ref un, .ref su, .int 0, .int 0, .int 0])), (fr, .inl (kf, 12, .inr (.inr (.inr (.inr gf))))), (f0, .inr (0, [.ref ft, .int 0, .int 0, .int 0])), (ft, .inr (7, [.ref fx, .int 0])), (tp, .inr (7, [.ref tb, .int 0]))] := hD
      have hK : va_K (dC, dI) vwCl [(kf, .object RX0)] s := hK
      refine W.widen (k := 0) (n := 0) (Nat.le_of_ble_eq_true rfl) (Nat.le_of_ble_eq_true rfl) ?_
      refine lv_iload_n hx hb dX11_fragment_81 rfl (lv_at hl 0 rfl) ?_
      refine lv_if_eq (tgt := 94) hx hb dX11_fragment_82 (by decide) (fun c9 => ?_) (fun c9 => absurd (by decide) c9)
      refine lv_iconst (v := (-1)) hx hb dX11_fragment_94 (by decide) ?_
      have hP9 := hP.sub (ws' := []) [] rfl
      have hD9 := hD.sub (ws' := []) [] (by decide) rfl
      have hK9 := hK.sub (tys' := []) [] rfl
      refine W.widen (k := 0) (n := 0) (Nat.le_of_ble_eq_true rfl) (Nat.le_of_ble_eq_true rfl) ?_
      exact W.iret (v := (-1)) hx hb hr (fun t ht hW => ⟨⟨(-1), (), rfl, (by simp [zz_frag, c_1, c_2]), by rw [ht]; exact hP9, va_K.moved hW.alike hK9, hD9⟩, hS.F ht⟩) hS.2.2 dX11_fragment_95
    · refine lv_aload_n hx hb dX11_fragment_23 rfl (lv_at hl 0 rfl) ?_
      refine va_get (D := (dC, dI)) (ci := 11) (v := .ref tp) (C := RX11) (T := TX11) (N := 16) hx hb hts in_X11_fragment_X11 hown hK hP 0 rfl rfl 0 (by decide) (hts (.fieldLink RX11 14 "ClayAccounts" "tape" "LClayAccounts$Text;") (by decide +kernel)) (fun _ h9 => h9) rfl dX11_fragment_24 ?_
      refine va_get (D := (dC, dI)) (ci := 7) (v := .int 0) (C := RX7) (T := TX7) (N := 2) hx hb hts in_X11_fragment_X7 hown hK hP 1 rfl rfl 1 (by decide) (hts (.fieldLink RX11 100 "ClayAccounts$Text" "size" "I") (by decide +kernel)) (fun _ h9 => h9) rfl dX11_fragment_27 ?_
      refine lv_sipush (v := 200) hx hb dX11_fragment_30 (by decide) ?_
      refine lv_icmp_gt (tgt := 40) hx hb dX11_fragment_33 (by decide) (fun c9 => absurd c9 (by decide)) (fun c9 => ?_)
      refine lv_iconst (v := 1) hx hb dX11_fragment_36 (by decide) ?_
      refine lv_goto (tgt := 41) hx hb dX11_fragment_37 (by decide) ?_
      refine lv_istore_n (lv' := [(3, .int 1), (0, .ref x), (1, .int n1), (2, .int n2)]) hx hb dX11_fragment_41 rfl hl (by decide) rfl (fun ls hl => ?_)
      refine lv_iload_n hx hb dX11_fragment_42 rfl (lv_at hl 0 rfl) ?_
      refine lv_if_eq (tgt := 74) hx hb dX11_fragment_43 (by decide) (fun c9 => absurd c9 (by decide)) (fun c9 => ?_)
      refine lv_aload_n hx hb dX11_fragment_46 rfl (lv_at hl 1 rfl) ?_
      refine va_get (D := (dC, dI)) (ci := 11) (v := .ref fr) (C := RX11) (T := TX11) (N := 16) hx hb hts in_X11_fragment_X11 hown hK hP 0 rfl rfl 9 (by decide) (hts (.fieldLink RX11 65 "ClayAccounts" "fragments" "[LClayAccounts$Fragment;") (by decide +kernel)) (fun _ h9 => h9) rfl dX11_fragment_47 ?_
      refine lv_aload_n hx hb dX11_fragment_50 rfl (lv_at hl 1 rfl) ?_
      refine va_get (D := (dC, dI)) (ci := 11) (v := .int 0) (C := RX11) (T := TX11) (N := 16) hx hb hts in_X11_fragment_X11 hown hK hP 0 rfl rfl 14 (by decide) (hts (.fieldLink RX11 94 "ClayAccounts" "fragmentCount" "I") (by decide +kernel)) (fun _ h9 => h9) rfl dX11_fragment_51 ?_
      refine va_aldq hx hb hK hP 2 0 rfl rfl (show ¬ ((0 : Int32) < 0 ∨ 12 ≤ (0 : Int32).toNatClampNeg) by decide) dX11_fragment_54 ?_
      rw [show va_rf (gf (0 : Int32).toNatClampNeg) = .ref f0 from by rw [show (0 : Int32).toNatClampNeg = 0 from by decide, hgf]; rfl]
      refine lv_aload_n hx hb dX11_fragment_55 rfl (lv_at hl 1 rfl) ?_
      refine va_get (D := (dC, dI)) (ci := 11) (v := .ref tp) (C := RX11) (T := TX11) (N := 16) hx hb hts in_X11_fragment_X11 hown hK hP 0 rfl rfl 0 (by decide) (hts (.fieldLink RX11 14 "ClayAccounts" "tape" "LClayAccounts$Text;") (by decide +kernel)) (fun _ h9 => h9) rfl dX11_fragment_56 ?_
      refine lv_iload_n hx hb dX11_fragment_59 rfl (lv_at hl 2 rfl) ?_
      refine lv_iload_n hx hb dX11_fragment_60 rfl (lv_at hl 3 rfl) ?_
      have hPc := hP.sub (ws' := [(f0, .inr (0, [.ref ft, .int 0, .int 0, .int 0])), (ft, .inr (7, [.ref fx, .int 0])), (tp, .inr (7, [.ref tb, .int 0]))]) [3, 4, 1] rfl
      have hDc := hD.sub (ws' := [(f0, .inr (0, [.ref ft, .int 0, .int 0, .int 0])), (ft, .inr (7, [.ref fx, .int 0])), (tp, .inr (7, [.ref tb, .int 0]))]) [3, 4, 1] (by decide) rfl
      have hKc := hK.sub (tys' := []) [] rfl
      have hFc := va_free (wc := [(f0, .inr (0, [.ref ft, .int 0, .int 0, .int 0])), (ft, .inr (7, [.ref fx, .int 0])), (tp, .inr (7, [.ref tb, .int 0]))]) hD hS hA [3, 4, 1] rfl
      refine va_callv (va_runV (As := [.ref tp, .int n1, .int n2]) (rest := []) ⟨hx, hb, hml, hown, hts⟩ (c_Ftake l dC dI f0 ft fx tp tb n1 n2 H.size ) (cwV 3 hts gX11_fragment_X0_take rfl rfl rfl (by decide +kernel) ⟨Nat.le_of_ble_eq_true rfl, Nat.le_of_ble_eq_true rfl⟩) ⟨fun a U g mk q => by obtain ⟨q0, q1, qX, qP, qK, qD⟩ := q; exact ⟨q0, q1, zz_X.same (u := U) (U := U.calling g mk a) rfl qX, qP, va_K.moved (u := U) (U := U.calling g mk a) (Vm.Alike.refl U.vm) qK, qD⟩, va_recv hKc hPc (ci := 0) (q0 := 0) rfl rfl, fun U hU hW => ⟨rfl, by rw [hU], zz_X.warm hW hzX, by rw [hU]; exact hPc, va_K.moved hW.alike hKc, hDc.weaken (fun _ _ _ _ => trivial)⟩⟩ rfl rfl hl.1 rfl (lv_room (Nat.le_of_ble_eq_true rfl)) dX11_fragment_61 ⟨Nat.le_of_ble_eq_true rfl, Nat.le_of_ble_eq_true rfl⟩) hS (fun q _ h => hFc q h) hFc (fun u t H1 locs ht hvm hw hB hz1 hk1 hS => ?_)
      obtain ⟨hP1, hK1, hD1⟩ := hB
      rw [ht] at hP1
      have hK1 := va_K.moved hvm.symm hK1
      obtain ⟨hP, hD⟩ := va_join (wr := [(x, .inr (11, [.ref tp, .ref ou, .ref sa, .ref ur, .ref tr, .ref so, .ref ma, .ref ta, .ref jt, .ref fr, .ref jo, .ref un, .ref su, .int 0, .int 0, .int 0])), (fr, .inl (kf, 12, .inr (.inr (.inr (.inr gf)))))]) (w1 := [(tp, .inr (7, [.ref tb, .int 0]))]) hP hD [3, 4, 1] [0, 2] rfl rfl (by decide) (by decide) hk1 hFc hP1 hD1
      have hK := (hK.sub (tys' := [(kf, .object RX0)]) [0] rfl).app (hK1.sub (tys' := []) [] rfl)
      generalize H1 = H at hP hS ⊢
      have hP : va_P (dC, dI) vwCl [(x, .inr (11, [.ref tp, .ref ou, .ref sa, .ref ur, .ref tr, .ref so, .ref ma, .ref ta, .ref jt, .ref fr, .ref jo, .ref un, .ref su, .int 0, .int 0, .int 0])), (fr, .inl (kf, 12, .inr (.inr (.inr (.inr gf))))), (tp, .inr (7, [.ref tb, .int 0]))] H := hP
      have hD : va_D A [(x, .inr (11, [.ref tp, .ref ou, .ref sa, .ref ur, .ref tr, .ref so, .ref ma, .ref ta, .ref jt, .ref fr, .ref jo, .ref un, .ref su, .int 0, .int 0, .int 0])), (fr, .inl (kf, 12, .inr (.inr (.inr (.inr gf))))), (tp, .inr (7, [.ref tb, .int 0]))] := hD
      have hK : va_K (dC, dI) vwCl [(kf, .object RX0)] s := hK
      refine W.widen (k := 0) (n := 0) (Nat.le_of_ble_eq_true rfl) (Nat.le_of_ble_eq_true rfl) ?_
      refine lv_aload_n hx hb dX11_fragment_64 rfl (lv_at hl 1 rfl) ?_
      refine lv_dup hx hb dX11_fragment_65 rfl ?_
      refine va_get (D := (dC, dI)) (ci := 11) (v := .int 0) (C := RX11) (T := TX11) (N := 16) hx hb hts in_X11_fragment_X11 hown hK hP 0 rfl rfl 14 (by decide) (hts (.fieldLink RX11 94 "ClayAccounts" "fragmentCount" "I") (by decide +kernel)) (fun _ h9 => h9) rfl dX11_fragment_66 ?_
      refine lv_iconst (v := 1) hx hb dX11_fragment_69 (by decide) ?_
      refine lv_iadd hx hb dX11_fragment_70 ?_
      refine zz_top (y := 1) (by decide) ?_
      refine va_put (D := (dC, dI)) (ci := 11) (v := .int 1) (ty := .int) (C := RX11) (T := TX11) (N := 16) hx hb hts in_X11_fragment_X11 tyX11 tyX11_ok nmX11 hown hK hP hD hS 0 rfl rfl 14 (by decide) (hts (.fieldLink RX11 94 "ClayAccounts" "fragmentCount" "I") (by decide +kernel)) (fun _ h9 => h9) rfl (by decide +kernel) rfl rfl (Nat.le_of_ble_eq_true rfl) dX11_fragment_71 (fun H locs hP hD hS => ?_)
      have hP : va_P (dC, dI) vwCl [(x, .inr (11, [.ref tp, .ref ou, .ref sa, .ref ur, .ref tr, .ref so, .ref ma, .ref ta, .ref jt, .ref fr, .ref jo, .ref un, .ref su, .int 0, .int 1, .int 0])), (fr, .inl (kf, 12, .inr (.inr (.inr (.inr gf))))), (tp, .inr (7, [.ref tb, .int 0]))] H := hP
      have hD : va_D A [(x, .inr (11, [.ref tp, .ref ou, .ref sa, .ref ur, .ref tr, .ref so, .ref ma, .ref ta, .ref jt, .ref fr, .ref jo, .ref un, .ref su, .int 0, .int 1, .int 0])), (fr, .inl (kf, 12, .inr (.inr (.inr (.inr gf))))), (tp, .inr (7, [.ref tb, .int 0]))] := hD
      refine lv_aload_n hx hb dX11_fragment_74 rfl (lv_at hl 1 rfl) ?_
      refine va_get (D := (dC, dI)) (ci := 11) (v := .ref tp) (C := RX11) (T := TX11) (N := 16) hx hb hts in_X11_fragment_X11 hown hK hP 0 rfl rfl 0 (by decide) (hts (.fieldLink RX11 14 "ClayAccounts" "tape" "LClayAccounts$Text;") (by decide +kernel)) (fun _ h9 => h9) rfl dX11_fragment_75 ?_
      have hPc := hP.sub (ws' := [(tp, .inr (7, [.ref tb, .int 0]))]) [2] rfl
      have hDc := hD.sub (ws' := [(tp, .inr (7, [.ref tb, .int 0]))]) [2] (by decide) rfl
      have hKc := hK.sub (tys' := []) [] rfl
      have hFc := va_free (wc := [(tp, .inr (7, [.ref tb, .int 0]))]) hD hS hA [2] rfl
      refine va_callv (va_runV (As := []) (rest := []) ⟨hx, hb, hml, hown, hts⟩ (c_clear l dC dI tp tb 0 H.size ) (cwV 0 hts gX11_fragment_X7_clear rfl rfl rfl (by decide +kernel) ⟨Nat.le_of_ble_eq_true rfl, Nat.le_of_ble_eq_true rfl⟩) ⟨fun a U g mk q => by obtain ⟨q0, q1, qX, qP, qK, qD⟩ := q; exact ⟨q0, q1, zz_X.same (u := U) (U := U.calling g mk a) rfl qX, qP, va_K.moved (u := U) (U := U.calling g mk a) (Vm.Alike.refl U.vm) qK, qD⟩, va_recv hKc hPc (ci := 7) (q0 := 0) rfl rfl, fun U hU hW => ⟨rfl, by rw [hU], zz_X.warm hW hzX, by rw [hU]; exact hPc, va_K.moved hW.alike hKc, hDc.weaken (fun _ _ _ _ => trivial)⟩⟩ rfl rfl hl.1 rfl (lv_room (Nat.le_of_ble_eq_true rfl)) dX11_fragment_78 ⟨Nat.le_of_ble_eq_true rfl, Nat.le_of_ble_eq_true rfl⟩) hS (fun q _ h => hFc q h) hFc (fun u t H1 locs ht hvm hw hB hz1 hk1 hS => ?_)
      obtain ⟨hP1, hK1, hD1⟩ := hB
      rw [ht] at hP1
      have hK1 := va_K.moved hvm.symm hK1
      obtain ⟨hP, hD⟩ := va_join (wr := [(x, .inr (11, [.ref tp, .ref ou, .ref sa, .ref ur, .ref tr, .ref so, .ref ma, .ref ta, .ref jt, .ref fr, .ref jo, .ref un, .ref su, .int 0, .int 1, .int 0])), (fr, .inl (kf, 12, .inr (.inr (.inr (.inr gf)))))]) (w1 := [(tp, .inr (7, [.ref tb, .int 0]))]) hP hD [2] [0, 1] rfl rfl (by decide) (by decide) hk1 hFc hP1 hD1
      have hK := (hK.sub (tys' := [(kf, .object RX0)]) [0] rfl).app (hK1.sub (tys' := []) [] rfl)
      generalize H1 = H at hP hS ⊢
      have hP : va_P (dC, dI) vwCl [(x, .inr (11, [.ref tp, .ref ou, .ref sa, .ref ur, .ref tr, .ref so, .ref ma, .ref ta, .ref jt, .ref fr, .ref jo, .ref un, .ref su, .int 0, .int 1, .int 0])), (fr, .inl (kf, 12, .inr (.inr (.inr (.inr gf))))), (tp, .inr (7, [.ref tb, .int 0]))] H := hP
      have hD : va_D A [(x, .inr (11, [.ref tp, .ref ou, .ref sa, .ref ur, .ref tr, .ref so, .ref ma, .ref ta, .ref jt, .ref fr, .ref jo, .ref un, .ref su, .int 0, .int 1, .int 0])), (fr, .inl (kf, 12, .inr (.inr (.inr (.inr gf))))), (tp, .inr (7, [.ref tb, .int 0]))] := hD
      have hK : va_K (dC, dI) vwCl [(kf, .object RX0)] s := hK
      refine W.widen (k := 0) (n := 0) (Nat.le_of_ble_eq_true rfl) (Nat.le_of_ble_eq_true rfl) ?_
      refine lv_iload_n hx hb dX11_fragment_81 rfl (lv_at hl 0 rfl) ?_
      refine lv_if_eq (tgt := 94) hx hb dX11_fragment_82 (by decide) (fun c9 => absurd c9 (by decide)) (fun c9 => ?_)
      refine lv_aload_n hx hb dX11_fragment_85 rfl (lv_at hl 1 rfl) ?_
      refine va_get (D := (dC, dI)) (ci := 11) (v := .int 1) (C := RX11) (T := TX11) (N := 16) hx hb hts in_X11_fragment_X11 hown hK hP 0 rfl rfl 14 (by decide) (hts (.fieldLink RX11 94 "ClayAccounts" "fragmentCount" "I") (by decide +kernel)) (fun _ h9 => h9) rfl dX11_fragment_86 ?_
      refine lv_iconst (v := 1) hx hb dX11_fragment_89 (by decide) ?_
      refine lv_isub hx hb dX11_fragment_90 ?_
      refine zz_top (y := 0) (by decide) ?_
      refine lv_goto (tgt := 95) hx hb dX11_fragment_91 (by decide) ?_
      have hP9 := hP.sub (ws' := []) [] rfl
      have hD9 := hD.sub (ws' := []) [] (by decide) rfl
      have hK9 := hK.sub (tys' := []) [] rfl
      refine W.widen (k := 0) (n := 0) (Nat.le_of_ble_eq_true rfl) (Nat.le_of_ble_eq_true rfl) ?_
      exact W.iret (v := 0) hx hb hr (fun t ht hW => ⟨⟨0, (), rfl, (by simp [zz_frag, c_1, c_2]), by rw [ht]; exact hP9, va_K.moved hW.alike hK9, hD9⟩, hS.F ht⟩) hS.2.2 dX11_fragment_95
theorem in_X3_forget_X3 : ∀ w ∈ wsX30, w ∈ wsX3_forget := fun _ h => List.mem_cons_of_mem _ (List.mem_append_right _ h)
set_option maxHeartbeats 4000000 in
set_option maxRecDepth 100000 in
theorem c_forget (l : Launch) (dC : Nat → ClassId) (dI : Nat → Nat → Nat) (ma : Nat) (mp : Nat) (mw : Nat) (mb : Nat) (kp : ClassId) (fp : Nat → Int32) (sz : Nat)  : Met l yX3_forget wsX3_forget ({ frames := 1, cells := 0, slots := 0, locals := 23 } : Room) (va_Pc [.ref ma] (fun U => U.heap.size = sz ∧ zz_X U ∧ va_P (dC, dI) vwCl [(ma, .inr (3, [.ref mp, .int 0, .int 0, .ref mw, .ref mb])), (mp, .inl (kp, 12, .inl fp))] U.heap ∧ va_K (dC, dI) vwCl [(kp, .int)] U ∧ va_D (fun _ => True) [(ma, .inr (3, [.ref mp, .int 0, .int 0, .ref mw, .ref mb])), (mp, .inl (kp, 12, .inl fp))])) (va_Qv (fun (_ : Unit) => True) (fun (_ : Unit) (t : State) => va_P (dC, dI) vwCl [(ma, .inr (3, [.ref mp, .int 0, .int 0, .ref mw, .ref mb]))] t.heap ∧ va_K (dC, dI) vwCl [] t ∧ va_D (va_A [(ma, .inr (3, [.ref mp, .int 0, .int 0, .ref mw, .ref mb])), (mp, .inl (kp, 12, .inl fp))] sz) [(ma, .inr (3, [.ref mp, .int 0, .int 0, .ref mw, .ref mb]))]) (va_A [(ma, .inr (3, [.ref mp, .int 0, .int 0, .ref mw, .ref mb])), (mp, .inl (kp, 12, .inl fp))] sz)) 0 0 (va_A [(ma, .inr (3, [.ref mp, .int 0, .int 0, .ref mw, .ref mb])), (mp, .inl (kp, 12, .inl fp))] sz) := by
  refine Met.ofW (cc := cX3_forget) (maxL := 1) (ret := none) (by decide) rfl ?_
  intro p e s m args below meth c s₁ B hml hv
  obtain ⟨rfl, hsz, hzX, hP, hK, hD0⟩ := hv
  have hx := B.exec
  have hb := B.bytes
  have hr := B.returns
  have hts := atoms_spec (ws := wsX3_forget) B.pre
  have hown : s.vm.findClass RX3 = some m.cls := findClass_of_methodNamed B.named
  have hlocks := B.notSynchronized
  subst hsz
  have hD := hD0.self (sz := s.heap.size)
  generalize hAe : va_A [(ma, .inr (3, [.ref mp, .int 0, .int 0, .ref mw, .ref mb])), (mp, .inl (kp, 12, .inl fp))] s.heap.size = A at  hD ⊢
  have hA : ∀ q : Nat, s.heap.size ≤ q → A q := fun q h => by rw [← hAe]; exact Or.inr h
  have hS : va_S A s.heap s.heap [] := va_S.rf
  have hP : va_P (dC, dI) vwCl [(ma, .inr (3, [.ref mp, .int 0, .int 0, .ref mw, .ref mb])), (mp, .inl (kp, 12, .inl fp))] s.heap := hP
  have hl := lv_entry ([.ref ma]) (n := 1) (Nat.le_of_ble_eq_true rfl)
  rw [lg_entry_eq]
  generalize (lg_sl ([.ref ma]) ++ List.replicate (1 - (lg_sl ([.ref ma])).length) Slot.unset).toArray = ls at hl ⊢
  have hl : lv_has ls 1 [(0, .ref ma)] := hl
  skip
  refine lv_aload_n hx hb dX3_forget_0 rfl (lv_at hl 0 rfl) ?_
  refine va_get (D := (dC, dI)) (ci := 3) (v := .ref mp) (C := RX3) (T := TX3) (N := 5) hx hb hts in_X3_forget_X3 hown hK hP 0 rfl rfl 0 (by decide) (hts (.fieldLink RX3 9 "ClayAccounts$Matcher" "partners" "[I") (by decide +kernel)) (fun _ h9 => h9) rfl dX3_forget_1 ?_
  refine lv_iconst (v := (-1)) hx hb dX3_forget_4 (by decide) ?_
  have hPc := hP.sub (ws' := [(mp, .inl (kp, 12, .inl fp))]) [1] rfl
  have hDc := hD.sub (ws' := [(mp, .inl (kp, 12, .inl fp))]) [1] (by decide) rfl
  have hKc := hK.sub (tys' := [(kp, .int)]) [0] rfl
  have hFc := va_free (wc := [(mp, .inl (kp, 12, .inl fp))]) hD hS hA [1] rfl
  refine va_callv (va_runS (As := [.ref mp, .int (-1)]) (rest := []) ⟨hx, hb, hml, hown, hts⟩ (c_fill_i l dC dI mp kp 12 fp ((-1)) s.heap.size (by decide)) (va_cwS 2 hts gX3_forget_J7_fill_53178 rfl rfl rfl (by decide +kernel) ⟨Nat.le_of_ble_eq_true rfl, Nat.le_of_ble_eq_true rfl⟩) ⟨fun a U g mk q => by obtain ⟨q0, q1, qX, qP, qK, qD⟩ := q; exact ⟨q0, q1, zz_X.same (u := U) (U := U.calling g mk a) rfl qX, qP, va_K.moved (u := U) (U := U.calling g mk a) (Vm.Alike.refl U.vm) qK, qD⟩, fun U hU hW => ⟨rfl, by rw [hU], zz_X.warm hW hzX, by rw [hU]; exact hPc, va_K.moved hW.alike hKc, hDc.weaken (fun _ _ _ _ => trivial)⟩⟩ rfl rfl hl.1 rfl (lv_room (Nat.le_of_ble_eq_true rfl)) dX3_forget_5 ⟨Nat.le_of_ble_eq_true rfl, Nat.le_of_ble_eq_true rfl⟩) hS (fun q _ h => hFc q h) hFc (fun u t H1 locs ht hvm hw hB hz1 hk1 hS => ?_)
  obtain ⟨f_1, hP1, hK1, hD1⟩ := hB
  rw [ht] at hP1
  have hK1 := va_K.moved hvm.symm hK1
  obtain ⟨hP, hD⟩ := va_join (wr := [(ma, .inr (3, [.ref mp, .int 0, .int 0, .ref mw, .ref mb]))]) (w1 := [(mp, .inl (kp, 12, .inl f_1))]) hP hD [1] [0] rfl rfl (by decide) (by decide) hk1 hFc hP1 hD1
  have hK := (hK.sub (tys' := [(kp, .int)]) [0] rfl).app (hK1.sub (tys' := []) [] rfl)
  generalize H1 = H at hP hS ⊢
  have hP : va_P (dC, dI) vwCl [(ma, .inr (3, [.ref mp, .int 0, .int 0, .ref mw, .ref mb])), (mp, .inl (kp, 12, .inl f_1))] H := hP
  have hD : va_D A [(ma, .inr (3, [.ref mp, .int 0, .int 0, .ref mw, .ref mb])), (mp, .inl (kp, 12, .inl f_1))] := hD
  have hK : va_K (dC, dI) vwCl [(kp, .int)] s := hK
  refine W.widen (k := 0) (n := 0) (Nat.le_of_ble_eq_true rfl) (Nat.le_of_ble_eq_true rfl) ?_
  refine lv_aload_n hx hb dX3_forget_8 rfl (lv_at hl 0 rfl) ?_
  refine lv_iconst (v := 0) hx hb dX3_forget_9 (by decide) ?_
  refine va_put (D := (dC, dI)) (ci := 3) (v := .int 0) (ty := .int) (C := RX3) (T := TX3) (N := 5) hx hb hts in_X3_forget_X3 tyX3 tyX3_ok nmX3 hown hK hP hD hS 0 rfl rfl 1 (by decide) (hts (.fieldLink RX3 27 "ClayAccounts$Matcher" "pairCount" "I") (by decide +kernel)) (fun _ h9 => h9) rfl (by decide +kernel) rfl rfl (Nat.le_of_ble_eq_true rfl) dX3_forget_10 (fun H locs hP hD hS => ?_)
  have hP : va_P (dC, dI) vwCl [(ma, .inr (3, [.ref mp, .int 0, .int 0, .ref mw, .ref mb])), (mp, .inl (kp, 12, .inl f_1))] H := hP
  have hD : va_D A [(ma, .inr (3, [.ref mp, .int 0, .int 0, .ref mw, .ref mb])), (mp, .inl (kp, 12, .inl f_1))] := hD
  refine lv_aload_n hx hb dX3_forget_13 rfl (lv_at hl 0 rfl) ?_
  refine lv_iconst (v := 0) hx hb dX3_forget_14 (by decide) ?_
  refine va_put (D := (dC, dI)) (ci := 3) (v := .int 0) (ty := .int) (C := RX3) (T := TX3) (N := 5) hx hb hts in_X3_forget_X3 tyX3 tyX3_ok nmX3 hown hK hP hD hS 0 rfl rfl 2 (by decide) (hts (.fieldLink RX3 31 "ClayAccounts$Matcher" "sureCount" "I") (by decide +kernel)) (fun _ h9 => h9) rfl (by decide +kernel) rfl rfl (Nat.le_of_ble_eq_true rfl) dX3_forget_15 (fun H locs hP hD hS => ?_)
  have hP : va_P (dC, dI) vwCl [(ma, .inr (3, [.ref mp, .int 0, .int 0, .ref mw, .ref mb])), (mp, .inl (kp, 12, .inl f_1))] H := hP
  have hD : va_D A [(ma, .inr (3, [.ref mp, .int 0, .int 0, .ref mw, .ref mb])), (mp, .inl (kp, 12, .inl f_1))] := hD
  have hP9 := hP.sub (ws' := [(ma, .inr (3, [.ref mp, .int 0, .int 0, .ref mw, .ref mb]))]) [0] rfl
  have hD9 := hD.sub (ws' := [(ma, .inr (3, [.ref mp, .int 0, .int 0, .ref mw, .ref mb]))]) [0] (by decide) rfl
  have hK9 := hK.sub (tys' := []) [] rfl
  refine W.widen (k := 0) (n := 0) (Nat.le_of_ble_eq_true rfl) (Nat.le_of_ble_eq_true rfl) ?_
  exact W.vret hx hb hr (fun t ht hW => ⟨⟨(), rfl, trivial, by rw [ht]; exact hP9, va_K.moved hW.alike hK9, hD9⟩, hS.F ht⟩) hS.2.2 dX3_forget_18
theorem in_X3_pairUp_X3 : ∀ w ∈ wsX30, w ∈ wsX3_pairUp := fun _ h => List.mem_cons_of_mem _ (List.mem_append_right _ h)
set_option maxHeartbeats 4000000 in
set_option maxRecDepth 100000 in
theorem c_pairUp (l : Launch) (dC : Nat → ClassId) (dI : Nat → Nat → Nat) (ma : Nat) (mp : Nat) (mw : Nat) (mb : Nat) (kp : ClassId) (kq : ClassId) (fp : Nat → Int32) (fq : Nat → Int32) (sz : Nat)  : Met l yX3_pairUp wsX3_pairUp ({ frames := 2, cells := 0, slots := 0, locals := 43 } : Room) (va_Pc [.ref ma, .int 0] (fun U => U.heap.size = sz ∧ zz_X U ∧ va_P (dC, dI) vwCl [(ma, .inr (3, [.ref mp, .int 0, .int 0, .ref mw, .ref mb])), (mp, .inl (kp, 12, .inl fp)), (mb, .inl (kq, 4096, .inl fq))] U.heap ∧ va_K (dC, dI) vwCl [(kp, .int), (kq, .int)] U ∧ va_D (fun _ => True) [(ma, .inr (3, [.ref mp, .int 0, .int 0, .ref mw, .ref mb])), (mp, .inl (kp, 12, .inl fp)), (mb, .inl (kq, 4096, .inl fq))])) (va_Qv (fun (_ : Unit) => True) (fun (_ : Unit) (t : State) => va_P (dC, dI) vwCl [(ma, .inr (3, [.ref mp, .int 0, .int 0, .ref mw, .ref mb]))] t.heap ∧ va_K (dC, dI) vwCl [] t ∧ va_D (va_A [(ma, .inr (3, [.ref mp, .int 0, .int 0, .ref mw, .ref mb])), (mp, .inl (kp, 12, .inl fp)), (mb, .inl (kq, 4096, .inl fq))] sz) [(ma, .inr (3, [.ref mp, .int 0, .int 0, .ref mw, .ref mb]))]) (va_A [(ma, .inr (3, [.ref mp, .int 0, .int 0, .ref mw, .ref mb])), (mp, .inl (kp, 12, .inl fp)), (mb, .inl (kq, 4096, .inl fq))] sz)) 0 0 (va_A [(ma, .inr (3, [.ref mp, .int 0, .int 0, .ref mw, .ref mb])), (mp, .inl (kp, 12, .inl fp)), (mb, .inl (kq, 4096, .inl fq))] sz) := by
  refine Met.ofW (cc := cX3_pairUp) (maxL := 6) (ret := none) (by decide) rfl ?_
  intro p e s m args below meth c s₁ B hml hv
  obtain ⟨rfl, hsz, hzX, hP, hK, hD0⟩ := hv
  have hx := B.exec
  have hb := B.bytes
  have hr := B.returns
  have hts := atoms_spec (ws := wsX3_pairUp) B.pre
  have hown : s.vm.findClass RX3 = some m.cls := findClass_of_methodNamed B.named
  have hlocks := B.notSynchronized
  subst hsz
  have hD := hD0.self (sz := s.heap.size)
  generalize hAe : va_A [(ma, .inr (3, [.ref mp, .int 0, .int 0, .ref mw, .ref mb])), (mp, .inl (kp, 12, .inl fp)), (mb, .inl (kq, 4096, .inl fq))] s.heap.size = A at  hD ⊢
  have hA : ∀ q : Nat, s.heap.size ≤ q → A q := fun q h => by rw [← hAe]; exact Or.inr h
  have hS : va_S A s.heap s.heap [] := va_S.rf
  have hP : va_P (dC, dI) vwCl [(ma, .inr (3, [.ref mp, .int 0, .int 0, .ref mw, .ref mb])), (mp, .inl (kp, 12, .inl fp)), (mb, .inl (kq, 4096, .inl fq))] s.heap := hP
  have hl := lv_entry ([.ref ma, .int 0]) (n := 6) (Nat.le_of_ble_eq_true rfl)
  rw [lg_entry_eq]
  generalize (lg_sl ([.ref ma, .int 0]) ++ List.replicate (6 - (lg_sl ([.ref ma, .int 0])).length) Slot.unset).toArray = ls at hl ⊢
  have hl : lv_has ls 6 [(0, .ref ma), (1, .int 0)] := hl
  skip
  refine lv_aload_n hx hb dX3_pairUp_0 rfl (lv_at hl 0 rfl) ?_
  have hPc := hP.sub (ws' := [(ma, .inr (3, [.ref mp, .int 0, .int 0, .ref mw, .ref mb])), (mp, .inl (kp, 12, .inl fp))]) [0, 1] rfl
  have hDc := hD.sub (ws' := [(ma, .inr (3, [.ref mp, .int 0, .int 0, .ref mw, .ref mb])), (mp, .inl (kp, 12, .inl fp))]) [0, 1] (by decide) rfl
  have hKc := hK.sub (tys' := [(kp, .int)]) [0] rfl
  have hFc := va_free (wc := [(ma, .inr (3, [.ref mp, .int 0, .int 0, .ref mw, .ref mb])), (mp, .inl (kp, 12, .inl fp))]) hD hS hA [0, 1] rfl
  refine va_callv (va_runV (As := []) (rest := []) ⟨hx, hb, hml, hown, hts⟩ (c_forget l dC dI ma mp mw mb kp fp s.heap.size ) (cwV 0 hts gX3_pairUp_X3_forget rfl rfl rfl (by decide +kernel) ⟨Nat.le_of_ble_eq_true rfl, Nat.le_of_ble_eq_true rfl⟩) ⟨fun a U g mk q => by obtain ⟨q0, q1, qX, qP, qK, qD⟩ := q; exact ⟨q0, q1, zz_X.same (u := U) (U := U.calling g mk a) rfl qX, qP, va_K.moved (u := U) (U := U.calling g mk a) (Vm.Alike.refl U.vm) qK, qD⟩, va_recv hKc hPc (ci := 3) (q0 := 0) rfl rfl, fun U hU hW => ⟨rfl, by rw [hU], zz_X.warm hW hzX, by rw [hU]; exact hPc, va_K.moved hW.alike hKc, hDc.weaken (fun _ _ _ _ => trivial)⟩⟩ rfl rfl hl.1 rfl (lv_room (Nat.le_of_ble_eq_true rfl)) dX3_pairUp_1 ⟨Nat.le_of_ble_eq_true rfl, Nat.le_of_ble_eq_true rfl⟩) hS (fun q _ h => hFc q h) hFc (fun u t H1 locs ht hvm hw hB hz1 hk1 hS => ?_)
  obtain ⟨hP1, hK1, hD1⟩ := hB
  rw [ht] at hP1
  have hK1 := va_K.moved hvm.symm hK1
  obtain ⟨hP, hD⟩ := va_join (wr := [(mb, .inl (kq, 4096, .inl fq))]) (w1 := [(ma, .inr (3, [.ref mp, .int 0, .int 0, .ref mw, .ref mb]))]) hP hD [0, 1] [2] rfl rfl (by decide) (by decide) hk1 hFc hP1 hD1
  have hK := (hK.sub (tys' := [(kp, .int), (kq, .int)]) [0, 1] rfl).app (hK1.sub (tys' := []) [] rfl)
  generalize H1 = H at hP hS ⊢
  have hP : va_P (dC, dI) vwCl [(mb, .inl (kq, 4096, .inl fq)), (ma, .inr (3, [.ref mp, .int 0, .int 0, .ref mw, .ref mb]))] H := hP
  have hD : va_D A [(mb, .inl (kq, 4096, .inl fq)), (ma, .inr (3, [.ref mp, .int 0, .int 0, .ref mw, .ref mb]))] := hD
  have hK : va_K (dC, dI) vwCl [(kp, .int), (kq, .int)] s := hK
  refine W.widen (k := 0) (n := 0) (Nat.le_of_ble_eq_true rfl) (Nat.le_of_ble_eq_true rfl) ?_
  refine lv_iload_n hx hb dX3_pairUp_4 rfl (lv_at hl 1 rfl) ?_
  refine lv_bipush (v := 12) hx hb dX3_pairUp_5 (by decide) ?_
  refine va_mmin hx hb (by rw [hml]; exact hl.1.symm) hown (hts (.methodLink RX3 37 Lib.Math.min.name) (by decide +kernel)) (hts (.static Lib.Math.min.name) (by decide +kernel)) (hts (.initialized "java/lang/Math") (by decide +kernel)) (hts (.code Lib.Math.min.name Lib.Math.min.code 2 (some .int)) (by decide +kernel)) (Nat.le_of_ble_eq_true rfl) (Nat.le_of_ble_eq_true rfl) (Nat.le_of_ble_eq_true rfl) (Nat.le_of_ble_eq_true rfl) dX3_pairUp_7 ?_
  refine zz_top (y := 0) (by decide) ?_
  refine lv_istore_n (lv' := [(2, .int 0), (0, .ref ma), (1, .int 0)]) hx hb dX3_pairUp_10 rfl hl (by decide) rfl (fun ls hl => ?_)
  refine lv_iconst (v := 1) hx hb dX3_pairUp_11 (by decide) ?_
  refine lv_iload_n hx hb dX3_pairUp_12 rfl (lv_at hl 0 rfl) ?_
  refine lv_ishl hx hb dX3_pairUp_13 ?_
  refine zz_top (y := 1) (by decide) ?_
  refine lv_istore_n (lv' := [(3, .int 1), (2, .int 0), (0, .ref ma), (1, .int 0)]) hx hb dX3_pairUp_14 rfl hl (by decide) rfl (fun ls hl => ?_)
  refine lv_aload_n hx hb dX3_pairUp_15 rfl (lv_at hl 2 rfl) ?_
  refine va_get (D := (dC, dI)) (ci := 3) (v := .ref mb) (C := RX3) (T := TX3) (N := 5) hx hb hts in_X3_pairUp_X3 hown hK hP 1 rfl rfl 4 (by decide) (hts (.fieldLink RX3 18 "ClayAccounts$Matcher" "best" "[I") (by decide +kernel)) (fun _ h9 => h9) rfl dX3_pairUp_16 ?_
  refine lv_iconst (v := 0) hx hb dX3_pairUp_19 (by decide) ?_
  refine lv_iconst (v := 0) hx hb dX3_pairUp_20 (by decide) ?_
  refine va_iast hx hb hK hP hD hS 0 1 rfl rfl (show ¬ ((0 : Int32) < 0 ∨ 4096 ≤ (0 : Int32).toNatClampNeg) by decide) dX3_pairUp_21 (fun H locs hP hD hS => ?_)
  have hP : va_P (dC, dI) vwCl [(mb, .inl (kq, 4096, .inl (upd fq (0 : Int32).toNatClampNeg 0))), (ma, .inr (3, [.ref mp, .int 0, .int 0, .ref mw, .ref mb]))] H := hP
  have hD : va_D A [(mb, .inl (kq, 4096, .inl (upd fq (0 : Int32).toNatClampNeg 0))), (ma, .inr (3, [.ref mp, .int 0, .int 0, .ref mw, .ref mb]))] := hD
  generalize upd fq (0 : Int32).toNatClampNeg 0 = f_1 at hP hD
  refine lv_iload_n hx hb dX3_pairUp_22 rfl (lv_at hl 1 rfl) ?_
  refine lv_iconst (v := 1) hx hb dX3_pairUp_23 (by decide) ?_
  refine lv_isub hx hb dX3_pairUp_24 ?_
  refine zz_top (y := (-1)) (by decide) ?_
  refine lv_istore (lv' := [(4, .int (-1)), (3, .int 1), (2, .int 0), (0, .ref ma), (1, .int 0)]) hx hb dX3_pairUp_25 hl (by decide) rfl (fun ls hl => ?_)
  refine lv_iload hx hb dX3_pairUp_27 (lv_at hl 0 rfl) ?_
  refine lv_if_lt (tgt := 78) hx hb dX3_pairUp_29 (by decide) (fun c9 => ?_) (fun c9 => absurd (by decide) c9)
  refine lv_iload_n hx hb dX3_pairUp_78 rfl (lv_at hl 1 rfl) ?_
  refine lv_iconst (v := 1) hx hb dX3_pairUp_79 (by decide) ?_
  refine lv_isub hx hb dX3_pairUp_80 ?_
  refine zz_top (y := 0) (by decide) ?_
  refine lv_istore (lv' := [(4, .int 0), (3, .int 1), (2, .int 0), (0, .ref ma), (1, .int 0)]) hx hb dX3_pairUp_81 hl (by decide) rfl (fun ls hl => ?_)
  refine lv_iconst (v := 0) hx hb dX3_pairUp_83 (by decide) ?_
  refine lv_istore (lv' := [(5, .int 0), (4, .int 0), (3, .int 1), (2, .int 0), (0, .ref ma), (1, .int 0)]) hx hb dX3_pairUp_84 hl (by decide) rfl (fun ls hl => ?_)
  refine lv_iload hx hb dX3_pairUp_86 (lv_at hl 0 rfl) ?_
  refine lv_iload_n hx hb dX3_pairUp_88 rfl (lv_at hl 3 rfl) ?_
  refine lv_icmp_ge (tgt := 119) hx hb dX3_pairUp_89 (by decide) (fun c9 => ?_) (fun c9 => absurd (by decide) c9)
  have hP9 := hP.sub (ws' := [(ma, .inr (3, [.ref mp, .int 0, .int 0, .ref mw, .ref mb]))]) [1] rfl
  have hD9 := hD.sub (ws' := [(ma, .inr (3, [.ref mp, .int 0, .int 0, .ref mw, .ref mb]))]) [1] (by decide) rfl
  have hK9 := hK.sub (tys' := []) [] rfl
  refine W.widen (k := 0) (n := 0) (Nat.le_of_ble_eq_true rfl) (Nat.le_of_ble_eq_true rfl) ?_
  exact W.vret hx hb hr (fun t ht hW => ⟨⟨(), rfl, trivial, by rw [ht]; exact hP9, va_K.moved hW.alike hK9, hD9⟩, hS.F ht⟩) hS.2.2 dX3_pairUp_119
theorem in_X11_match_X11 : ∀ w ∈ wsX110, w ∈ wsX11_match := fun _ h => List.mem_cons_of_mem _ (List.mem_append_left _ (List.mem_append_left _ (List.mem_append_left _ (List.mem_append_left _ (List.mem_append_left _ (List.mem_append_left _ (List.mem_append_left _ (List.mem_append_left _ (List.mem_append_left _ (List.mem_append_left _ (List.mem_append_right _ h)))))))))))
theorem in_X11_match_X3 : ∀ w ∈ wsX30, w ∈ wsX11_match := fun _ h => List.mem_cons_of_mem _ (List.mem_append_left _ (List.mem_append_left _ (List.mem_append_left _ (List.mem_append_left _ (List.mem_append_left _ (List.mem_append_left _ (List.mem_append_left _ (List.mem_append_left _ (List.mem_append_left _ (List.mem_append_right _ h))))))))))
set_option maxHeartbeats 4000000 in
set_option maxRecDepth 100000 in
theorem c_match (l : Launch) (dC : Nat → ClassId) (dI : Nat → Nat → Nat) (x : Nat) (tp : Nat) (ou : Nat) (sa : Nat) (ur : Nat) (tr : Nat) (so : Nat) (ma : Nat) (ta : Nat) (jt : Nat) (fr : Nat) (jo : Nat) (un : Nat) (su : Nat) (mp : Nat) (mw : Nat) (mb : Nat) (kp : ClassId) (kq : ClassId) (fp : Nat → Int32) (fq : Nat → Int32) (sz : Nat)  : Met l yX11_match wsX11_match ({ frames := 3, cells := 0, slots := 0, locals := 68 } : Room) (va_Pc [.ref x] (fun U => U.heap.size = sz ∧ zz_X U ∧ va_P (dC, dI) vwCl [(x, .inr (11, [.ref tp, .ref ou, .ref sa, .ref ur, .ref tr, .ref so, .ref ma, .ref ta, .ref jt, .ref fr, .ref jo, .ref un, .ref su, .int 0, .int 0, .int 0])), (ma, .inr (3, [.ref mp, .int 0, .int 0, .ref mw, .ref mb])), (mp, .inl (kp, 12, .inl fp)), (mb, .inl (kq, 4096, .inl fq))] U.heap ∧ va_K (dC, dI) vwCl [(kp, .int), (kq, .int)] U ∧ va_D (fun _ => True) [(x, .inr (11, [.ref tp, .ref ou, .ref sa, .ref ur, .ref tr, .ref so, .ref ma, .ref ta, .ref jt, .ref fr, .ref jo, .ref un, .ref su, .int 0, .int 0, .int 0])), (ma, .inr (3, [.ref mp, .int 0, .int 0, .ref mw, .ref mb])), (mp, .inl (kp, 12, .inl fp)), (mb, .inl (kq, 4096, .inl fq))])) (va_Qi (fun (r : Int32) (_ : Unit) => r = 0) (fun (_ : Unit) (t : State) => va_P (dC, dI) vwCl [] t.heap ∧ va_K (dC, dI) vwCl [] t ∧ va_D (va_A [(x, .inr (11, [.ref tp, .ref ou, .ref sa, .ref ur, .ref tr, .ref so, .ref ma, .ref ta, .ref jt, .ref fr, .ref jo, .ref un, .ref su, .int 0, .int 0, .int 0])), (ma, .inr (3, [.ref mp, .int 0, .int 0, .ref mw, .ref mb])), (mp, .inl (kp, 12, .inl fp)), (mb, .inl (kq, 4096, .inl fq))] sz) []) (va_A [(x, .inr (11, [.ref tp, .ref ou, .ref sa, .ref ur, .ref tr, .ref so, .ref ma, .ref ta, .ref jt, .ref fr, .ref jo, .ref un, .ref su, .int 0, .int 0, .int 0])), (ma, .inr (3, [.ref mp, .int 0, .int 0, .ref mw, .ref mb])), (mp, .inl (kp, 12, .inl fp)), (mb, .inl (kq, 4096, .inl fq))] sz)) 0 0 (va_A [(x, .inr (11, [.ref tp, .ref ou, .ref sa, .ref ur, .ref tr, .ref so, .ref ma, .ref ta, .ref jt, .ref fr, .ref jo, .ref un, .ref su, .int 0, .int 0, .int 0])), (ma, .inr (3, [.ref mp, .int 0, .int 0, .ref mw, .ref mb])), (mp, .inl (kp, 12, .inl fp)), (mb, .inl (kq, 4096, .inl fq))] sz) := by
  refine Met.ofW (cc := cX11_match) (maxL := 3) (ret := (some .int)) (by decide) rfl ?_
  intro p e s m args below meth c s₁ B hml hv
  obtain ⟨rfl, hsz, hzX, hP, hK, hD0⟩ := hv
  have hx := B.exec
  have hb := B.bytes
  have hr := B.returns
  have hts := atoms_spec (ws := wsX11_match) B.pre
  have hown : s.vm.findClass RX11 = some m.cls := findClass_of_methodNamed B.named
  have hlocks := B.notSynchronized
  subst hsz
  have hD := hD0.self (sz := s.heap.size)
  generalize hAe : va_A [(x, .inr (11, [.ref tp, .ref ou, .ref sa, .ref ur, .ref tr, .ref so, .ref ma, .ref ta, .ref jt, .ref fr, .ref jo, .ref un, .ref su, .int 0, .int 0, .int 0])), (ma, .inr (3, [.ref mp, .int 0, .int 0, .ref mw, .ref mb])), (mp, .inl (kp, 12, .inl fp)), (mb, .inl (kq, 4096, .inl fq))] s.heap.size = A at  hD ⊢
  have hA : ∀ q : Nat, s.heap.size ≤ q → A q := fun q h => by rw [← hAe]; exact Or.inr h
  have hS : va_S A s.heap s.heap [] := va_S.rf
  have hP : va_P (dC, dI) vwCl [(x, .inr (11, [.ref tp, .ref ou, .ref sa, .ref ur, .ref tr, .ref so, .ref ma, .ref ta, .ref jt, .ref fr, .ref jo, .ref un, .ref su, .int 0, .int 0, .int 0])), (ma, .inr (3, [.ref mp, .int 0, .int 0, .ref mw, .ref mb])), (mp, .inl (kp, 12, .inl fp)), (mb, .inl (kq, 4096, .inl fq))] s.heap := hP
  have hl := lv_entry ([.ref x]) (n := 3) (Nat.le_of_ble_eq_true rfl)
  rw [lg_entry_eq]
  generalize (lg_sl ([.ref x]) ++ List.replicate (3 - (lg_sl ([.ref x])).length) Slot.unset).toArray = ls at hl ⊢
  have hl : lv_has ls 3 [(0, .ref x)] := hl
  skip
  refine lv_iconst (v := 0) hx hb dX11_match_0 (by decide) ?_
  refine lv_istore_n (lv' := [(1, .int 0), (0, .ref x)]) hx hb dX11_match_1 rfl hl (by decide) rfl (fun ls hl => ?_)
  refine lv_iload_n hx hb dX11_match_2 rfl (lv_at hl 0 rfl) ?_
  refine lv_aload_n hx hb dX11_match_3 rfl (lv_at hl 1 rfl) ?_
  refine va_get (D := (dC, dI)) (ci := 11) (v := .int 0) (C := RX11) (T := TX11) (N := 16) hx hb hts in_X11_match_X11 hown hK hP 0 rfl rfl 14 (by decide) (hts (.fieldLink RX11 94 "ClayAccounts" "fragmentCount" "I") (by decide +kernel)) (fun _ h9 => h9) rfl dX11_match_4 ?_
  refine lv_icmp_ge (tgt := 58) hx hb dX11_match_7 (by decide) (fun c9 => ?_) (fun c9 => absurd (by decide) c9)
  refine lv_aload_n hx hb dX11_match_58 rfl (lv_at hl 1 rfl) ?_
  refine va_get (D := (dC, dI)) (ci := 11) (v := .ref ma) (C := RX11) (T := TX11) (N := 16) hx hb hts in_X11_match_X11 hown hK hP 0 rfl rfl 6 (by decide) (hts (.fieldLink RX11 48 "ClayAccounts" "matcher" "LClayAccounts$Matcher;") (by decide +kernel)) (fun _ h9 => h9) rfl dX11_match_59 ?_
  refine lv_aload_n hx hb dX11_match_62 rfl (lv_at hl 1 rfl) ?_
  refine va_get (D := (dC, dI)) (ci := 11) (v := .int 0) (C := RX11) (T := TX11) (N := 16) hx hb hts in_X11_match_X11 hown hK hP 0 rfl rfl 14 (by decide) (hts (.fieldLink RX11 94 "ClayAccounts" "fragmentCount" "I") (by decide +kernel)) (fun _ h9 => h9) rfl dX11_match_63 ?_
  have hPc := hP.sub (ws' := [(ma, .inr (3, [.ref mp, .int 0, .int 0, .ref mw, .ref mb])), (mp, .inl (kp, 12, .inl fp)), (mb, .inl (kq, 4096, .inl fq))]) [1, 2, 3] rfl
  have hDc := hD.sub (ws' := [(ma, .inr (3, [.ref mp, .int 0, .int 0, .ref mw, .ref mb])), (mp, .inl (kp, 12, .inl fp)), (mb, .inl (kq, 4096, .inl fq))]) [1, 2, 3] (by decide) rfl
  have hKc := hK.sub (tys' := [(kp, .int), (kq, .int)]) [0, 1] rfl
  have hFc := va_free (wc := [(ma, .inr (3, [.ref mp, .int 0, .int 0, .ref mw, .ref mb])), (mp, .inl (kp, 12, .inl fp)), (mb, .inl (kq, 4096, .inl fq))]) hD hS hA [1, 2, 3] rfl
  refine va_callv (va_runV (As := [.int 0]) (rest := []) ⟨hx, hb, hml, hown, hts⟩ (c_pairUp l dC dI ma mp mw mb kp kq fp fq s.heap.size ) (cwV 1 hts gX11_match_X3_pairUp rfl rfl rfl (by decide +kernel) ⟨Nat.le_of_ble_eq_true rfl, Nat.le_of_ble_eq_true rfl⟩) ⟨fun a U g mk q => by obtain ⟨q0, q1, qX, qP, qK, qD⟩ := q; exact ⟨q0, q1, zz_X.same (u := U) (U := U.calling g mk a) rfl qX, qP, va_K.moved (u := U) (U := U.calling g mk a) (Vm.Alike.refl U.vm) qK, qD⟩, va_recv hKc hPc (ci := 3) (q0 := 0) rfl rfl, fun U hU hW => ⟨rfl, by rw [hU], zz_X.warm hW hzX, by rw [hU]; exact hPc, va_K.moved hW.alike hKc, hDc.weaken (fun _ _ _ _ => trivial)⟩⟩ rfl rfl hl.1 rfl (lv_room (Nat.le_of_ble_eq_true rfl)) dX11_match_66 ⟨Nat.le_of_ble_eq_true rfl, Nat.le_of_ble_eq_true rfl⟩) hS (fun q _ h => hFc q h) hFc (fun u t H1 locs ht hvm hw hB hz1 hk1 hS => ?_)
  obtain ⟨hP1, hK1, hD1⟩ := hB
  rw [ht] at hP1
  have hK1 := va_K.moved hvm.symm hK1
  obtain ⟨hP, hD⟩ := va_join (wr := [(x, .inr (11, [.ref tp, .ref ou, .ref sa, .ref ur, .ref tr, .ref so, .ref ma, .ref ta, .ref jt, .ref fr, .ref jo, .ref un, .ref su, .int 0, .int 0, .int 0]))]) (w1 := [(ma, .inr (3, [.ref mp, .int 0, .int 0, .ref mw, .ref mb]))]) hP hD [1, 2, 3] [0] rfl rfl (by decide) (by decide) hk1 hFc hP1 hD1
  have hK := (hK.sub (tys' := [(kp, .int), (kq, .int)]) [0, 1] rfl).app (hK1.sub (tys' := []) [] rfl)
  generalize H1 = H at hP hS ⊢
  have hP : va_P (dC, dI) vwCl [(x, .inr (11, [.ref tp, .ref ou, .ref sa, .ref ur, .ref tr, .ref so, .ref ma, .ref ta, .ref jt, .ref fr, .ref jo, .ref un, .ref su, .int 0, .int 0, .int 0])), (ma, .inr (3, [.ref mp, .int 0, .int 0, .ref mw, .ref mb]))] H := hP
  have hD : va_D A [(x, .inr (11, [.ref tp, .ref ou, .ref sa, .ref ur, .ref tr, .ref so, .ref ma, .ref ta, .ref jt, .ref fr, .ref jo, .ref un, .ref su, .int 0, .int 0, .int 0])), (ma, .inr (3, [.ref mp, .int 0, .int 0, .ref mw, .ref mb]))] := hD
  have hK : va_K (dC, dI) vwCl [(kp, .int), (kq, .int)] s := hK
  refine W.widen (k := 0) (n := 0) (Nat.le_of_ble_eq_true rfl) (Nat.le_of_ble_eq_true rfl) ?_
  refine lv_aload_n hx hb dX11_match_69 rfl (lv_at hl 1 rfl) ?_
  refine va_get (D := (dC, dI)) (ci := 11) (v := .ref ma) (C := RX11) (T := TX11) (N := 16) hx hb hts in_X11_match_X11 hown hK hP 0 rfl rfl 6 (by decide) (hts (.fieldLink RX11 48 "ClayAccounts" "matcher" "LClayAccounts$Matcher;") (by decide +kernel)) (fun _ h9 => h9) rfl dX11_match_70 ?_
  refine va_get (D := (dC, dI)) (ci := 3) (v := .int 0) (C := RX3) (T := TX3) (N := 5) hx hb hts in_X11_match_X3 hown hK hP 1 rfl rfl 1 (by decide) (hts (.fieldLink RX11 254 "ClayAccounts$Matcher" "pairCount" "I") (by decide +kernel)) (fun _ h9 => h9) rfl dX11_match_73 ?_
  have hP9 := hP.sub (ws' := []) [] rfl
  have hD9 := hD.sub (ws' := []) [] (by decide) rfl
  have hK9 := hK.sub (tys' := []) [] rfl
  refine W.widen (k := 0) (n := 0) (Nat.le_of_ble_eq_true rfl) (Nat.le_of_ble_eq_true rfl) ?_
  exact W.iret (v := 0) hx hb hr (fun t ht hW => ⟨⟨0, (), rfl, rfl, by rw [ht]; exact hP9, va_K.moved hW.alike hK9, hD9⟩, hS.F ht⟩) hS.2.2 dX11_match_76
theorem in_X11_count_X11 : ∀ w ∈ wsX110, w ∈ wsX11_count := fun _ h => List.mem_cons_of_mem _ (List.mem_append_left _ (List.mem_append_left _ (List.mem_append_left _ (List.mem_append_right _ h))))
theorem in_X11_count_X3 : ∀ w ∈ wsX30, w ∈ wsX11_count := fun _ h => List.mem_cons_of_mem _ (List.mem_append_left _ (List.mem_append_right _ h))
theorem in_X11_count_X7 : ∀ w ∈ wsX70, w ∈ wsX11_count := fun _ h => List.mem_cons_of_mem _ (List.mem_append_right _ h)
theorem in_X11_count_X9 : ∀ w ∈ wsX90, w ∈ wsX11_count := fun _ h => List.mem_cons_of_mem _ (List.mem_append_left _ (List.mem_append_left _ (List.mem_append_right _ h)))
set_option maxHeartbeats 4000000 in
set_option maxRecDepth 100000 in
theorem c_count (l : Launch) (dC : Nat → ClassId) (dI : Nat → Nat → Nat) (x : Nat) (tp : Nat) (ou : Nat) (sa : Nat) (ur : Nat) (tr : Nat) (so : Nat) (ma : Nat) (ta : Nat) (jt : Nat) (fr : Nat) (jo : Nat) (un : Nat) (su : Nat) (tb : Nat) (ob : Nat) (u1 : Nat) (u2 : Nat) (u3 : Nat) (u4 : Nat) (u5 : Nat) (u6 : Nat) (mp : Nat) (mw : Nat) (mb : Nat) (n1 : Int32) (sz : Nat)  : Met l yX11_count wsX11_count ({ frames := 0, cells := 0, slots := 0, locals := 0 } : Room) (va_Pc [.ref x, .int n1] (fun U => U.heap.size = sz ∧ zz_X U ∧ va_P (dC, dI) vwCl [(x, .inr (11, [.ref tp, .ref ou, .ref sa, .ref ur, .ref tr, .ref so, .ref ma, .ref ta, .ref jt, .ref fr, .ref jo, .ref un, .ref su, .int 0, .int 0, .int 0])), (tp, .inr (7, [.ref tb, .int 0])), (ou, .inr (7, [.ref ob, .int 0])), (un, .inr (9, [.ref u1, .ref u2, .ref u3, .ref u4, .ref u5, .ref u6, .int 0])), (ma, .inr (3, [.ref mp, .int 0, .int 0, .ref mw, .ref mb]))] U.heap ∧ va_K (dC, dI) vwCl [] U ∧ va_D (fun _ => True) [(x, .inr (11, [.ref tp, .ref ou, .ref sa, .ref ur, .ref tr, .ref so, .ref ma, .ref ta, .ref jt, .ref fr, .ref jo, .ref un, .ref su, .int 0, .int 0, .int 0])), (tp, .inr (7, [.ref tb, .int 0])), (ou, .inr (7, [.ref ob, .int 0])), (un, .inr (9, [.ref u1, .ref u2, .ref u3, .ref u4, .ref u5, .ref u6, .int 0])), (ma, .inr (3, [.ref mp, .int 0, .int 0, .ref mw, .ref mb]))])) (va_Qi (fun (r : Int32) (_ : Unit) => r = zz_cnt n1) (fun (_ : Unit) (t : State) => va_P (dC, dI) vwCl [] t.heap ∧ va_K (dC, dI) vwCl [] t ∧ va_D (va_A [(x, .inr (11, [.ref tp, .ref ou, .ref sa, .ref ur, .ref tr, .ref so, .ref ma, .ref ta, .ref jt, .ref fr, .ref jo, .ref un, .ref su, .int 0, .int 0, .int 0])), (tp, .inr (7, [.ref tb, .int 0])), (ou, .inr (7, [.ref ob, .int 0])), (un, .inr (9, [.ref u1, .ref u2, .ref u3, .ref u4, .ref u5, .ref u6, .int 0])), (ma, .inr (3, [.ref mp, .int 0, .int 0, .ref mw, .ref mb]))] sz) []) (va_A [(x, .inr (11, [.ref tp, .ref ou, .ref sa, .ref ur, .ref tr, .ref so, .ref ma, .ref ta, .ref jt, .ref fr, .ref jo, .ref un, .ref su, .int 0, .int 0, .int 0])), (tp, .inr (7, [.ref tb, .int 0])), (ou, .inr (7, [.ref ob, .int 0])), (un, .inr (9, [.ref u1, .ref u2, .ref u3, .ref u4, .ref u5, .ref u6, .int 0])), (ma, .inr (3, [.ref mp, .int 0, .int 0, .ref mw, .ref mb]))] sz)) 0 0 (va_A [(x, .inr (11, [.ref tp, .ref ou, .ref sa, .ref ur, .ref tr, .ref so, .ref ma, .ref ta, .ref jt, .ref fr, .ref jo, .ref un, .ref su, .int 0, .int 0, .int 0])), (tp, .inr (7, [.ref tb, .int 0])), (ou, .inr (7, [.ref ob, .int 0])), (un, .inr (9, [.ref u1, .ref u2, .ref u3, .ref u4, .ref u5, .ref u6, .int 0])), (ma, .inr (3, [.ref mp, .int 0, .int 0, .ref mw, .ref mb]))] sz) := by
  refine Met.ofW (cc := cX11_count) (maxL := 2) (ret := (some .int)) (by decide) rfl ?_
  intro p e s m args below meth c s₁ B hml hv
  obtain ⟨rfl, hsz, hzX, hP, hK, hD0⟩ := hv
  have hx := B.exec
  have hb := B.bytes
  have hr := B.returns
  have hts := atoms_spec (ws := wsX11_count) B.pre
  have hown : s.vm.findClass RX11 = some m.cls := findClass_of_methodNamed B.named
  have hlocks := B.notSynchronized
  subst hsz
  have hD := hD0.self (sz := s.heap.size)
  generalize hAe : va_A [(x, .inr (11, [.ref tp, .ref ou, .ref sa, .ref ur, .ref tr, .ref so, .ref ma, .ref ta, .ref jt, .ref fr, .ref jo, .ref un, .ref su, .int 0, .int 0, .int 0])), (tp, .inr (7, [.ref tb, .int 0])), (ou, .inr (7, [.ref ob, .int 0])), (un, .inr (9, [.ref u1, .ref u2, .ref u3, .ref u4, .ref u5, .ref u6, .int 0])), (ma, .inr (3, [.ref mp, .int 0, .int 0, .ref mw, .ref mb]))] s.heap.size = A at  hD ⊢
  have hA : ∀ q : Nat, s.heap.size ≤ q → A q := fun q h => by rw [← hAe]; exact Or.inr h
  have hS : va_S A s.heap s.heap [] := va_S.rf
  have hP : va_P (dC, dI) vwCl [(x, .inr (11, [.ref tp, .ref ou, .ref sa, .ref ur, .ref tr, .ref so, .ref ma, .ref ta, .ref jt, .ref fr, .ref jo, .ref un, .ref su, .int 0, .int 0, .int 0])), (tp, .inr (7, [.ref tb, .int 0])), (ou, .inr (7, [.ref ob, .int 0])), (un, .inr (9, [.ref u1, .ref u2, .ref u3, .ref u4, .ref u5, .ref u6, .int 0])), (ma, .inr (3, [.ref mp, .int 0, .int 0, .ref mw, .ref mb]))] s.heap := hP
  have hl := lv_entry ([.ref x, .int n1]) (n := 2) (Nat.le_of_ble_eq_true rfl)
  rw [lg_entry_eq]
  generalize (lg_sl ([.ref x, .int n1]) ++ List.replicate (2 - (lg_sl ([.ref x, .int n1])).length) Slot.unset).toArray = ls at hl ⊢
  have hl : lv_has ls 2 [(0, .ref x), (1, .int n1)] := hl
  skip
  refine lv_iload_n hx hb dX11_count_0 rfl (lv_at hl 1 rfl) ?_
  by_cases hlo : (n1 : Int32).toInt < 0
  · refine lv_tableOut (tgt := 82) hx hb dX11_count_1 (Or.inl hlo) (by decide) ?_
    refine lv_iconst (v := (-1)) hx hb dX11_count_82 (by decide) ?_
    have hP9 := hP.sub (ws' := []) [] rfl
    have hD9 := hD.sub (ws' := []) [] (by decide) rfl
    have hK9 := hK.sub (tys' := []) [] rfl
    refine W.widen (k := 0) (n := 0) (Nat.le_of_ble_eq_true rfl) (Nat.le_of_ble_eq_true rfl) ?_
    exact W.iret (v := (-1)) hx hb hr (fun t ht hW => ⟨⟨(-1), (), rfl, (by simp [zz_cnt, hlo]), by rw [ht]; exact hP9, va_K.moved hW.alike hK9, hD9⟩, hS.F ht⟩) hS.2.2 dX11_count_83
  · by_cases hhi : 5 < (n1 : Int32).toInt
    · refine lv_tableOut (tgt := 82) hx hb dX11_count_1 (Or.inr hhi) (by decide) ?_
      refine lv_iconst (v := (-1)) hx hb dX11_count_82 (by decide) ?_
      have hP9 := hP.sub (ws' := []) [] rfl
      have hD9 := hD.sub (ws' := []) [] (by decide) rfl
      have hK9 := hK.sub (tys' := []) [] rfl
      refine W.widen (k := 0) (n := 0) (Nat.le_of_ble_eq_true rfl) (Nat.le_of_ble_eq_true rfl) ?_
      exact W.iret (v := (-1)) hx hb hr (fun t ht hW => ⟨⟨(-1), (), rfl, (by simp [zz_cnt, hlo, hhi]), by rw [ht]; exact hP9, va_K.moved hW.alike hK9, hD9⟩, hS.F ht⟩) hS.2.2 dX11_count_83
    · rcases (show (n1 : Int32).toInt = 0 ∨ (n1 : Int32).toInt = 1 ∨ (n1 : Int32).toInt = 2 ∨ (n1 : Int32).toInt = 3 ∨ (n1 : Int32).toInt = 4 ∨ (n1 : Int32).toInt = 5 by omega) with hv | hv | hv | hv | hv | hv
      · refine lv_tableIn (off := 39) (tgt := 40) hx hb dX11_count_1 (by omega) (by omega) (by rw [hv]; rfl) (by decide) ?_
        refine lv_aload_n hx hb dX11_count_40 rfl (lv_at hl 0 rfl) ?_
        refine va_get (D := (dC, dI)) (ci := 11) (v := .ref un) (C := RX11) (T := TX11) (N := 16) hx hb hts in_X11_count_X11 hown hK hP 0 rfl rfl 11 (by decide) (hts (.fieldLink RX11 76 "ClayAccounts" "units" "LClayAccounts$Units;") (by decide +kernel)) (fun _ h9 => h9) rfl dX11_count_41 ?_
        refine va_get (D := (dC, dI)) (ci := 9) (v := .int 0) (C := RX9) (T := TX9) (N := 7) hx hb hts in_X11_count_X9 hown hK hP 3 rfl rfl 6 (by decide) (hts (.fieldLink RX11 128 "ClayAccounts$Units" "systemCount" "I") (by decide +kernel)) (fun _ h9 => h9) rfl dX11_count_44 ?_
        have hP9 := hP.sub (ws' := []) [] rfl
        have hD9 := hD.sub (ws' := []) [] (by decide) rfl
        have hK9 := hK.sub (tys' := []) [] rfl
        refine W.widen (k := 0) (n := 0) (Nat.le_of_ble_eq_true rfl) (Nat.le_of_ble_eq_true rfl) ?_
        exact W.iret (v := 0) hx hb hr (fun t ht hW => ⟨⟨0, (), rfl, (by simp [zz_cnt, hv]), by rw [ht]; exact hP9, va_K.moved hW.alike hK9, hD9⟩, hS.F ht⟩) hS.2.2 dX11_count_47
      · refine lv_tableIn (off := 47) (tgt := 48) hx hb dX11_count_1 (by omega) (by omega) (by rw [hv]; rfl) (by decide) ?_
        refine lv_aload_n hx hb dX11_count_48 rfl (lv_at hl 0 rfl) ?_
        refine va_get (D := (dC, dI)) (ci := 11) (v := .int 0) (C := RX11) (T := TX11) (N := 16) hx hb hts in_X11_count_X11 hown hK hP 0 rfl rfl 13 (by decide) (hts (.fieldLink RX11 90 "ClayAccounts" "tabletCount" "I") (by decide +kernel)) (fun _ h9 => h9) rfl dX11_count_49 ?_
        have hP9 := hP.sub (ws' := []) [] rfl
        have hD9 := hD.sub (ws' := []) [] (by decide) rfl
        have hK9 := hK.sub (tys' := []) [] rfl
        refine W.widen (k := 0) (n := 0) (Nat.le_of_ble_eq_true rfl) (Nat.le_of_ble_eq_true rfl) ?_
        exact W.iret (v := 0) hx hb hr (fun t ht hW => ⟨⟨0, (), rfl, (by simp [zz_cnt, hv]), by rw [ht]; exact hP9, va_K.moved hW.alike hK9, hD9⟩, hS.F ht⟩) hS.2.2 dX11_count_52
      · refine lv_tableIn (off := 52) (tgt := 53) hx hb dX11_count_1 (by omega) (by omega) (by rw [hv]; rfl) (by decide) ?_
        refine lv_aload_n hx hb dX11_count_53 rfl (lv_at hl 0 rfl) ?_
        refine va_get (D := (dC, dI)) (ci := 11) (v := .int 0) (C := RX11) (T := TX11) (N := 16) hx hb hts in_X11_count_X11 hown hK hP 0 rfl rfl 14 (by decide) (hts (.fieldLink RX11 94 "ClayAccounts" "fragmentCount" "I") (by decide +kernel)) (fun _ h9 => h9) rfl dX11_count_54 ?_
        have hP9 := hP.sub (ws' := []) [] rfl
        have hD9 := hD.sub (ws' := []) [] (by decide) rfl
        have hK9 := hK.sub (tys' := []) [] rfl
        refine W.widen (k := 0) (n := 0) (Nat.le_of_ble_eq_true rfl) (Nat.le_of_ble_eq_true rfl) ?_
        exact W.iret (v := 0) hx hb hr (fun t ht hW => ⟨⟨0, (), rfl, (by simp [zz_cnt, hv]), by rw [ht]; exact hP9, va_K.moved hW.alike hK9, hD9⟩, hS.F ht⟩) hS.2.2 dX11_count_57
      · refine lv_tableIn (off := 57) (tgt := 58) hx hb dX11_count_1 (by omega) (by omega) (by rw [hv]; rfl) (by decide) ?_
        refine lv_aload_n hx hb dX11_count_58 rfl (lv_at hl 0 rfl) ?_
        refine va_get (D := (dC, dI)) (ci := 11) (v := .ref ma) (C := RX11) (T := TX11) (N := 16) hx hb hts in_X11_count_X11 hown hK hP 0 rfl rfl 6 (by decide) (hts (.fieldLink RX11 48 "ClayAccounts" "matcher" "LClayAccounts$Matcher;") (by decide +kernel)) (fun _ h9 => h9) rfl dX11_count_59 ?_
        refine va_get (D := (dC, dI)) (ci := 3) (v := .int 0) (C := RX3) (T := TX3) (N := 5) hx hb hts in_X11_count_X3 hown hK hP 4 rfl rfl 2 (by decide) (hts (.fieldLink RX11 260 "ClayAccounts$Matcher" "sureCount" "I") (by decide +kernel)) (fun _ h9 => h9) rfl dX11_count_62 ?_
        have hP9 := hP.sub (ws' := []) [] rfl
        have hD9 := hD.sub (ws' := []) [] (by decide) rfl
        have hK9 := hK.sub (tys' := []) [] rfl
        refine W.widen (k := 0) (n := 0) (Nat.le_of_ble_eq_true rfl) (Nat.le_of_ble_eq_true rfl) ?_
        exact W.iret (v := 0) hx hb hr (fun t ht hW => ⟨⟨0, (), rfl, (by simp [zz_cnt, hv]), by rw [ht]; exact hP9, va_K.moved hW.alike hK9, hD9⟩, hS.F ht⟩) hS.2.2 dX11_count_65
      · refine lv_tableIn (off := 65) (tgt := 66) hx hb dX11_count_1 (by omega) (by omega) (by rw [hv]; rfl) (by decide) ?_
        refine lv_aload_n hx hb dX11_count_66 rfl (lv_at hl 0 rfl) ?_
        refine va_get (D := (dC, dI)) (ci := 11) (v := .ref tp) (C := RX11) (T := TX11) (N := 16) hx hb hts in_X11_count_X11 hown hK hP 0 rfl rfl 0 (by decide) (hts (.fieldLink RX11 14 "ClayAccounts" "tape" "LClayAccounts$Text;") (by decide +kernel)) (fun _ h9 => h9) rfl dX11_count_67 ?_
        refine va_get (D := (dC, dI)) (ci := 7) (v := .int 0) (C := RX7) (T := TX7) (N := 2) hx hb hts in_X11_count_X7 hown hK hP 1 rfl rfl 1 (by decide) (hts (.fieldLink RX11 100 "ClayAccounts$Text" "size" "I") (by decide +kernel)) (fun _ h9 => h9) rfl dX11_count_70 ?_
        have hP9 := hP.sub (ws' := []) [] rfl
        have hD9 := hD.sub (ws' := []) [] (by decide) rfl
        have hK9 := hK.sub (tys' := []) [] rfl
        refine W.widen (k := 0) (n := 0) (Nat.le_of_ble_eq_true rfl) (Nat.le_of_ble_eq_true rfl) ?_
        exact W.iret (v := 0) hx hb hr (fun t ht hW => ⟨⟨0, (), rfl, (by simp [zz_cnt, hv]), by rw [ht]; exact hP9, va_K.moved hW.alike hK9, hD9⟩, hS.F ht⟩) hS.2.2 dX11_count_73
      · refine lv_tableIn (off := 73) (tgt := 74) hx hb dX11_count_1 (by omega) (by omega) (by rw [hv]; rfl) (by decide) ?_
        refine lv_aload_n hx hb dX11_count_74 rfl (lv_at hl 0 rfl) ?_
        refine va_get (D := (dC, dI)) (ci := 11) (v := .ref ou) (C := RX11) (T := TX11) (N := 16) hx hb hts in_X11_count_X11 hown hK hP 0 rfl rfl 1 (by decide) (hts (.fieldLink RX11 18 "ClayAccounts" "out" "LClayAccounts$Text;") (by decide +kernel)) (fun _ h9 => h9) rfl dX11_count_75 ?_
        refine va_get (D := (dC, dI)) (ci := 7) (v := .int 0) (C := RX7) (T := TX7) (N := 2) hx hb hts in_X11_count_X7 hown hK hP 2 rfl rfl 1 (by decide) (hts (.fieldLink RX11 100 "ClayAccounts$Text" "size" "I") (by decide +kernel)) (fun _ h9 => h9) rfl dX11_count_78 ?_
        have hP9 := hP.sub (ws' := []) [] rfl
        have hD9 := hD.sub (ws' := []) [] (by decide) rfl
        have hK9 := hK.sub (tys' := []) [] rfl
        refine W.widen (k := 0) (n := 0) (Nat.le_of_ble_eq_true rfl) (Nat.le_of_ble_eq_true rfl) ?_
        exact W.iret (v := 0) hx hb hr (fun t ht hW => ⟨⟨0, (), rfl, (by simp [zz_cnt, hv]), by rw [ht]; exact hP9, va_K.moved hW.alike hK9, hD9⟩, hS.F ht⟩) hS.2.2 dX11_count_81
