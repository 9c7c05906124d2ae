set_option maxHeartbeats 4000000 in
set_option maxRecDepth 100000 in
theorem l_system (l : Launch) (hlst : l.stackTraces = false) (dC : Nat → ClassId) (dI : Nat → Nat → Nat) (x : Nat) (tp : Nat) (ou : Nat) (sa : Nat) (ur : Nat) (tr : Nat) (so : Nat) (ma : Nat) (ta : Nat) (jt : Nat) (fr : Nat) (jo : Nat) (un : Nat) (su : Nat) (u1 : Nat) (u2 : Nat) (u3 : Nat) (u4 : Nat) (u5 : Nat) (u6 : Nat) (ot : Nat) (sr : Nat) (n1 : Int32) (n2 : Int32) (sz : Nat)  : vx_Met l yL_system wzL_system ({ frames := 8, cells := 1, slots := 6, locals := 112 } : Room) (va_Pc [.ref x, .int n1, .int n2, .ref ot] (fun U => U.heap.size = sz ∧ zz_X U ∧ vx_Zq Bundle.tN "UNASSIGNED_STACK" Bundle.steD (va_A [(x, .inr (11, [.ref tp, .ref ou, .ref sa, .ref ur, .ref tr, .ref so, .ref ma, .ref ta, .ref jt, .ref fr, .ref jo, .ref un, .ref su, .int 0, .int 0, .int 0])), (un, .inr (9, [.ref u1, .ref u2, .ref u3, .ref u4, .ref u5, .ref u6, .int 0]))] sz) U U.heap ∧ vx_Zq Bundle.tN "SUPPRESSED_SENTINEL" Bundle.listD (va_A [(x, .inr (11, [.ref tp, .ref ou, .ref sa, .ref ur, .ref tr, .ref so, .ref ma, .ref ta, .ref jt, .ref fr, .ref jo, .ref un, .ref su, .int 0, .int 0, .int 0])), (un, .inr (9, [.ref u1, .ref u2, .ref u3, .ref u4, .ref u5, .ref u6, .int 0]))] sz) U U.heap ∧ vk_R RX11 137 "no such SYSTEM, or no such question" sr U ∧ zz_TH U ∧ va_P (dC, dI) vwCl [(x, .inr (11, [.ref tp, .ref ou, .ref sa, .ref ur, .ref tr, .ref so, .ref ma, .ref ta, .ref jt, .ref fr, .ref jo, .ref un, .ref su, .int 0, .int 0, .int 0])), (un, .inr (9, [.ref u1, .ref u2, .ref u3, .ref u4, .ref u5, .ref u6, .int 0]))] U.heap ∧ va_K (dC, dI) vwCl [] U ∧ va_D (fun _ => True) [(x, .inr (11, [.ref tp, .ref ou, .ref sa, .ref ur, .ref tr, .ref so, .ref ma, .ref ta, .ref jt, .ref fr, .ref jo, .ref un, .ref su, .int 0, .int 0, .int 0])), (un, .inr (9, [.ref u1, .ref u2, .ref u3, .ref u4, .ref u5, .ref u6, .int 0]))])) (va_Qi (fun (r : Int32) (_ : Unit) => r = 1) (fun (_ : Unit) (t : State) => va_P (dC, dI) vwCl [] t.heap ∧ va_K (dC, dI) vwCl [] t ∧ va_D (va_A [(x, .inr (11, [.ref tp, .ref ou, .ref sa, .ref ur, .ref tr, .ref so, .ref ma, .ref ta, .ref jt, .ref fr, .ref jo, .ref un, .ref su, .int 0, .int 0, .int 0])), (un, .inr (9, [.ref u1, .ref u2, .ref u3, .ref u4, .ref u5, .ref u6, .int 0]))] sz) []) (va_A [(x, .inr (11, [.ref tp, .ref ou, .ref sa, .ref ur, .ref tr, .ref so, .ref ma, .ref ta, .ref jt, .ref fr, .ref jo, .ref un, .ref su, .int 0, .int 0, .int 0])), (un, .inr (9, [.ref u1, .ref u2, .ref u3, .ref u4, .ref u5, .ref u6, .int 0]))] sz)) (vx_X (fun (_ : Unit) => False) (fun (E : String) (_ : Unit) (_ : State) => E = "java/util/NoSuchElementException") (va_A [(x, .inr (11, [.ref tp, .ref ou, .ref sa, .ref ur, .ref tr, .ref so, .ref ma, .ref ta, .ref jt, .ref fr, .ref jo, .ref un, .ref su, .int 0, .int 0, .int 0])), (un, .inr (9, [.ref u1, .ref u2, .ref u3, .ref u4, .ref u5, .ref u6, .int 0]))] sz)) 1 6 (va_A [(x, .inr (11, [.ref tp, .ref ou, .ref sa, .ref ur, .ref tr, .ref so, .ref ma, .ref ta, .ref jt, .ref fr, .ref jo, .ref un, .ref su, .int 0, .int 0, .int 0])), (un, .inr (9, [.ref u1, .ref u2, .ref u3, .ref u4, .ref u5, .ref u6, .int 0]))] sz) := by
  refine vx_ofWH (cc := cL_system) (maxL := 5) (ret := (some .int)) (by decide) rfl ?_
  intro p e s m args below meth c s₁ B hml hv
  obtain ⟨rfl, hsz, hzX, hzU, hzN, hzR, hzC, hP, hK, hD0⟩ := hv
  have hx := B.exec
  have hb := B.bytes
  have hr := B.returns
  have hts := atoms_spec (ws := wzL_system) B.pre
  have hown : s.vm.findClass RL = some m.cls := findClass_of_methodNamed B.named
  have hlocks := B.notSynchronized
  subst hsz
  have hD := hD0.self (sz := s.heap.size)
  generalize hAe : va_A [(x, .inr (11, [.ref tp, .ref ou, .ref sa, .ref ur, .ref tr, .ref so, .ref ma, .ref ta, .ref jt, .ref fr, .ref jo, .ref un, .ref su, .int 0, .int 0, .int 0])), (un, .inr (9, [.ref u1, .ref u2, .ref u3, .ref u4, .ref u5, .ref u6, .int 0]))] s.heap.size = A at hzU hzN hzR hzC hD ⊢
  have hA : ∀ q : Nat, s.heap.size ≤ q → A q := fun q h => by rw [← hAe]; exact Or.inr h
  have hS : va_S A s.heap s.heap [] := va_S.rf
  have hP : va_P (dC, dI) vwCl [(x, .inr (11, [.ref tp, .ref ou, .ref sa, .ref ur, .ref tr, .ref so, .ref ma, .ref ta, .ref jt, .ref fr, .ref jo, .ref un, .ref su, .int 0, .int 0, .int 0])), (un, .inr (9, [.ref u1, .ref u2, .ref u3, .ref u4, .ref u5, .ref u6, .int 0]))] s.heap := hP
  have hl := lv_entry ([.ref x, .int n1, .int n2, .ref ot]) (n := 5) (Nat.le_of_ble_eq_true rfl)
  rw [lg_entry_eq]
  generalize (lg_sl ([.ref x, .int n1, .int n2, .ref ot]) ++ List.replicate (5 - (lg_sl ([.ref x, .int n1, .int n2, .ref ot])).length) Slot.unset).toArray = ls at hl ⊢
  have hl : lv_has ls 5 [(0, .ref x), (1, .int n1), (2, .int n2), (3, .ref ot)] := hl
  skip
  refine lv_aload_n hx hb dL_system_0 rfl (lv_at hl 3 rfl) ?_
  refine lv_iconst (v := 0) hx hb dL_system_1 (by decide) ?_
  refine lv_aload_n hx hb dL_system_2 rfl (lv_at hl 0 rfl) ?_
  refine lv_iload_n hx hb dL_system_3 rfl (lv_at hl 1 rfl) ?_
  refine lv_iload_n hx hb dL_system_4 rfl (lv_at hl 2 rfl) ?_
  have hPc := hP.sub (ws' := [(x, .inr (11, [.ref tp, .ref ou, .ref sa, .ref ur, .ref tr, .ref so, .ref ma, .ref ta, .ref jt, .ref fr, .ref jo, .ref un, .ref su, .int 0, .int 0, .int 0])), (un, .inr (9, [.ref u1, .ref u2, .ref u3, .ref u4, .ref u5, .ref u6, .int 0]))]) [0, 1] rfl
  have hDc := hD.sub (ws' := [(x, .inr (11, [.ref tp, .ref ou, .ref sa, .ref ur, .ref tr, .ref so, .ref ma, .ref ta, .ref jt, .ref fr, .ref jo, .ref un, .ref su, .int 0, .int 0, .int 0])), (un, .inr (9, [.ref u1, .ref u2, .ref u3, .ref u4, .ref u5, .ref u6, .int 0]))]) [0, 1] (by decide) rfl
  have hKc := hK.sub (tys' := []) [] rfl
  have hFc := va_free (wc := [(x, .inr (11, [.ref tp, .ref ou, .ref sa, .ref ur, .ref tr, .ref so, .ref ma, .ref ta, .ref jt, .ref fr, .ref jo, .ref un, .ref su, .int 0, .int 0, .int 0])), (un, .inr (9, [.ref u1, .ref u2, .ref u3, .ref u4, .ref u5, .ref u6, .int 0]))]) hD hS hA [0, 1] rfl
  refine vx_calli (vx_runV (As := [.int n1, .int n2]) (rest := [.int 0, .ref ot]) ⟨hx, hb, hml, hown, hts⟩ (t_system l hlst dC dI x tp ou sa ur tr so ma ta jt fr jo un su u1 u2 u3 u4 u5 u6 sr n1 n2 s.heap.size ) (cwV 2 hts gL_system_X11_system rfl rfl rfl (by decide +kernel) ⟨Nat.le_of_ble_eq_true rfl, Nat.le_of_ble_eq_true rfl⟩) ⟨fun a U g mk q => by obtain ⟨q0, q1, qX, qz0, qz1, qz2, qz3, qP, qK, qD⟩ := q; exact ⟨q0, q1, zz_X.same (u := U) (U := U.calling g mk a) rfl qX, vx_Zq.moved (u := U) (U := U.calling g mk a) (Vm.Alike.refl U.vm) qz0, vx_Zq.moved (u := U) (U := U.calling g mk a) (Vm.Alike.refl U.vm) qz1, vk_R.same rfl qz2, zz_TH.same rfl qz3, qP, va_K.moved (u := U) (U := U.calling g mk a) (Vm.Alike.refl U.vm) qK, qD⟩, va_recv hKc hPc (ci := 11) (q0 := 0) rfl rfl, fun U hU hW => ⟨rfl, by rw [hU], zz_X.warm hW hzX, (by rw [hU]; exact vx_Zq.narrow (vx_Zq.kept (vx_Zq.moved hW.alike hzU) hS.2.1) hFc), (by rw [hU]; exact vx_Zq.narrow (vx_Zq.kept (vx_Zq.moved hW.alike hzN) hS.2.1) hFc), vk_R.warm hW hzR, zz_TH.warm hW hzC, by rw [hU]; exact hPc, va_K.moved hW.alike hKc, hDc.weaken (fun _ _ _ _ => trivial)⟩⟩ rfl rfl hl.1 rfl (lv_room (Nat.le_of_ble_eq_true rfl)) dL_system_5 ⟨Nat.le_of_ble_eq_true rfl, Nat.le_of_ble_eq_true rfl⟩) hS (fun q _ h => hFc q h) hFc (fun q _ h => hFc q h) (fun E ce q9 u t H1 locs ht hvm hw hB hz1 hk1 hS hc1 hc2 hc3 => ?_) (fun r9 u t H1 locs ht hvm hw hB hz1 hk1 hS => hw.elim)
  subst hB
  refine vx_catch (name := "java/util/NoSuchElementException") hown [] { startPc := 0, endPc := 10, handlerPc := 13, catchType := 13 } [] (vx_table (x := yL_system) B (hts _ List.mem_cons_self)) (fun z h9 => absurd h9 List.not_mem_nil) (by decide) (by decide) (hts (.classLink RL 13 "java/util/NoSuchElementException") (by decide +kernel)) (va_Nw.use rfl hzC.1) hc1 hc2 hc3 ?_
  generalize H1 = H at hS ⊢
  have hP : va_P (dC, dI) vwCl [] H := fun k q h => by simp at h
  have hD : va_D A [] := ⟨fun i j p q h => by simp at h, fun k q h => by simp at h⟩
  have hK := hK.sub (tys' := []) [] rfl
  refine W.widen (k := 1) (n := 6) (Nat.le_of_ble_eq_true rfl) (Nat.le_of_ble_eq_true rfl) ?_
  refine lv_astore (lv' := [(4, .ref q9), (0, .ref x), (1, .int n1), (2, .int n2), (3, .ref ot)]) hx hb dL_system_13 hl (by decide) rfl (fun ls hl => ?_)
  refine lv_iconst (v := 1) hx hb dL_system_15 (by decide) ?_
  have hP9 := hP.sub (ws' := []) [] rfl
  have hD9 := hD.sub (ws' := []) [] (by decide) rfl
  have hK9 := hK.sub (tys' := []) [] rfl
  refine W.widen (k := 1) (n := 6) (Nat.le_of_ble_eq_true rfl) (Nat.le_of_ble_eq_true rfl) ?_
  exact vx_ret (W.iret (v := 1) hx hb hr (fun t ht hW => ⟨⟨1, (), rfl, rfl, by rw [ht]; exact hP9, va_K.moved hW.alike hK9, hD9⟩, hS.F ht⟩) hS.2.2 dL_system_16)
set_option maxHeartbeats 4000000 in
set_option maxRecDepth 100000 in
theorem l_octet (l : Launch) (hlst : l.stackTraces = false) (dC : Nat → ClassId) (dI : Nat → Nat → Nat) (x : Nat) (tp : Nat) (ou : Nat) (sa : Nat) (ur : Nat) (tr : Nat) (so : Nat) (ma : Nat) (ta : Nat) (jt : Nat) (fr : Nat) (jo : Nat) (un : Nat) (su : Nat) (ob : Nat) (ot : Nat) (sr : Nat) (n1 : Int32) (sz : Nat)  : vx_Met l yL_octet wzL_octet ({ frames := 8, cells := 1, slots := 6, locals := 111 } : Room) (va_Pc [.ref x, .int n1, .ref ot] (fun U => U.heap.size = sz ∧ zz_X U ∧ vx_Zq Bundle.tN "UNASSIGNED_STACK" Bundle.steD (va_A [(x, .inr (11, [.ref tp, .ref ou, .ref sa, .ref ur, .ref tr, .ref so, .ref ma, .ref ta, .ref jt, .ref fr, .ref jo, .ref un, .ref su, .int 0, .int 0, .int 0])), (ou, .inr (7, [.ref ob, .int 0]))] sz) U U.heap ∧ vx_Zq Bundle.tN "SUPPRESSED_SENTINEL" Bundle.listD (va_A [(x, .inr (11, [.ref tp, .ref ou, .ref sa, .ref ur, .ref tr, .ref so, .ref ma, .ref ta, .ref jt, .ref fr, .ref jo, .ref un, .ref su, .int 0, .int 0, .int 0])), (ou, .inr (7, [.ref ob, .int 0]))] sz) U U.heap ∧ vk_R RX11 160 "OUT has no such byte" sr U ∧ zz_TH U ∧ va_P (dC, dI) vwCl [(x, .inr (11, [.ref tp, .ref ou, .ref sa, .ref ur, .ref tr, .ref so, .ref ma, .ref ta, .ref jt, .ref fr, .ref jo, .ref un, .ref su, .int 0, .int 0, .int 0])), (ou, .inr (7, [.ref ob, .int 0]))] U.heap ∧ va_K (dC, dI) vwCl [] U ∧ va_D (fun _ => True) [(x, .inr (11, [.ref tp, .ref ou, .ref sa, .ref ur, .ref tr, .ref so, .ref ma, .ref ta, .ref jt, .ref fr, .ref jo, .ref un, .ref su, .int 0, .int 0, .int 0])), (ou, .inr (7, [.ref ob, .int 0]))])) (va_Qi (fun (r : Int32) (_ : Unit) => r = 1) (fun (_ : Unit) (t : State) => va_P (dC, dI) vwCl [] t.heap ∧ va_K (dC, dI) vwCl [] t ∧ va_D (va_A [(x, .inr (11, [.ref tp, .ref ou, .ref sa, .ref ur, .ref tr, .ref so, .ref ma, .ref ta, .ref jt, .ref fr, .ref jo, .ref un, .ref su, .int 0, .int 0, .int 0])), (ou, .inr (7, [.ref ob, .int 0]))] sz) []) (va_A [(x, .inr (11, [.ref tp, .ref ou, .ref sa, .ref ur, .ref tr, .ref so, .ref ma, .ref ta, .ref jt, .ref fr, .ref jo, .ref un, .ref su, .int 0, .int 0, .int 0])), (ou, .inr (7, [.ref ob, .int 0]))] sz)) (vx_X (fun (_ : Unit) => False) (fun (E : String) (_ : Unit) (_ : State) => E = "java/util/NoSuchElementException") (va_A [(x, .inr (11, [.ref tp, .ref ou, .ref sa, .ref ur, .ref tr, .ref so, .ref ma, .ref ta, .ref jt, .ref fr, .ref jo, .ref un, .ref su, .int 0, .int 0, .int 0])), (ou, .inr (7, [.ref ob, .int 0]))] sz)) 1 6 (va_A [(x, .inr (11, [.ref tp, .ref ou, .ref sa, .ref ur, .ref tr, .ref so, .ref ma, .ref ta, .ref jt, .ref fr, .ref jo, .ref un, .ref su, .int 0, .int 0, .int 0])), (ou, .inr (7, [.ref ob, .int 0]))] sz) := by
  refine vx_ofWH (cc := cL_octet) (maxL := 4) (ret := (some .int)) (by decide) rfl ?_
  intro p e s m args below meth c s₁ B hml hv
  obtain ⟨rfl, hsz, hzX, hzU, hzN, hzR, hzC, hP, hK, hD0⟩ := hv
  have hx := B.exec
  have hb := B.bytes
  have hr := B.returns
  have hts := atoms_spec (ws := wzL_octet) B.pre
  have hown : s.vm.findClass RL = some m.cls := findClass_of_methodNamed B.named
  have hlocks := B.notSynchronized
  subst hsz
  have hD := hD0.self (sz := s.heap.size)
  generalize hAe : va_A [(x, .inr (11, [.ref tp, .ref ou, .ref sa, .ref ur, .ref tr, .ref so, .ref ma, .ref ta, .ref jt, .ref fr, .ref jo, .ref un, .ref su, .int 0, .int 0, .int 0])), (ou, .inr (7, [.ref ob, .int 0]))] s.heap.size = A at hzU hzN hzR hzC hD ⊢
  have hA : ∀ q : Nat, s.heap.size ≤ q → A q := fun q h => by rw [← hAe]; exact Or.inr h
  have hS : va_S A s.heap s.heap [] := va_S.rf
  have hP : va_P (dC, dI) vwCl [(x, .inr (11, [.ref tp, .ref ou, .ref sa, .ref ur, .ref tr, .ref so, .ref ma, .ref ta, .ref jt, .ref fr, .ref jo, .ref un, .ref su, .int 0, .int 0, .int 0])), (ou, .inr (7, [.ref ob, .int 0]))] s.heap := hP
  have hl := lv_entry ([.ref x, .int n1, .ref ot]) (n := 4) (Nat.le_of_ble_eq_true rfl)
  rw [lg_entry_eq]
  generalize (lg_sl ([.ref x, .int n1, .ref ot]) ++ List.replicate (4 - (lg_sl ([.ref x, .int n1, .ref ot])).length) Slot.unset).toArray = ls at hl ⊢
  have hl : lv_has ls 4 [(0, .ref x), (1, .int n1), (2, .ref ot)] := hl
  skip
  refine lv_aload_n hx hb dL_octet_0 rfl (lv_at hl 2 rfl) ?_
  refine lv_iconst (v := 0) hx hb dL_octet_1 (by decide) ?_
  refine lv_aload_n hx hb dL_octet_2 rfl (lv_at hl 0 rfl) ?_
  refine lv_iload_n hx hb dL_octet_3 rfl (lv_at hl 1 rfl) ?_
  have hPc := hP.sub (ws' := [(x, .inr (11, [.ref tp, .ref ou, .ref sa, .ref ur, .ref tr, .ref so, .ref ma, .ref ta, .ref jt, .ref fr, .ref jo, .ref un, .ref su, .int 0, .int 0, .int 0])), (ou, .inr (7, [.ref ob, .int 0]))]) [0, 1] rfl
  have hDc := hD.sub (ws' := [(x, .inr (11, [.ref tp, .ref ou, .ref sa, .ref ur, .ref tr, .ref so, .ref ma, .ref ta, .ref jt, .ref fr, .ref jo, .ref un, .ref su, .int 0, .int 0, .int 0])), (ou, .inr (7, [.ref ob, .int 0]))]) [0, 1] (by decide) rfl
  have hKc := hK.sub (tys' := []) [] rfl
  have hFc := va_free (wc := [(x, .inr (11, [.ref tp, .ref ou, .ref sa, .ref ur, .ref tr, .ref so, .ref ma, .ref ta, .ref jt, .ref fr, .ref jo, .ref un, .ref su, .int 0, .int 0, .int 0])), (ou, .inr (7, [.ref ob, .int 0]))]) hD hS hA [0, 1] rfl
  refine vx_calli (vx_runV (As := [.int n1]) (rest := [.int 0, .ref ot]) ⟨hx, hb, hml, hown, hts⟩ (t_octet l hlst dC dI x tp ou sa ur tr so ma ta jt fr jo un su ob sr n1 s.heap.size ) (cwV 1 hts gL_octet_X11_octet rfl rfl rfl (by decide +kernel) ⟨Nat.le_of_ble_eq_true rfl, Nat.le_of_ble_eq_true rfl⟩) ⟨fun a U g mk q => by obtain ⟨q0, q1, qX, qz0, qz1, qz2, qz3, qP, qK, qD⟩ := q; exact ⟨q0, q1, zz_X.same (u := U) (U := U.calling g mk a) rfl qX, vx_Zq.moved (u := U) (U := U.calling g mk a) (Vm.Alike.refl U.vm) qz0, vx_Zq.moved (u := U) (U := U.calling g mk a) (Vm.Alike.refl U.vm) qz1, vk_R.same rfl qz2, zz_TH.same rfl qz3, qP, va_K.moved (u := U) (U := U.calling g mk a) (Vm.Alike.refl U.vm) qK, qD⟩, va_recv hKc hPc (ci := 11) (q0 := 0) rfl rfl, fun U hU hW => ⟨rfl, by rw [hU], zz_X.warm hW hzX, (by rw [hU]; exact vx_Zq.narrow (vx_Zq.kept (vx_Zq.moved hW.alike hzU) hS.2.1) hFc), (by rw [hU]; exact vx_Zq.narrow (vx_Zq.kept (vx_Zq.moved hW.alike hzN) hS.2.1) hFc), vk_R.warm hW hzR, zz_TH.warm hW hzC, by rw [hU]; exact hPc, va_K.moved hW.alike hKc, hDc.weaken (fun _ _ _ _ => trivial)⟩⟩ rfl rfl hl.1 rfl (lv_room (Nat.le_of_ble_eq_true rfl)) dL_octet_4 ⟨Nat.le_of_ble_eq_true rfl, Nat.le_of_ble_eq_true rfl⟩) hS (fun q _ h => hFc q h) hFc (fun q _ h => hFc q h) (fun E ce q9 u t H1 locs ht hvm hw hB hz1 hk1 hS hc1 hc2 hc3 => ?_) (fun r9 u t H1 locs ht hvm hw hB hz1 hk1 hS => hw.elim)
  subst hB
  refine vx_catch (name := "java/util/NoSuchElementException") hown [] { startPc := 0, endPc := 9, handlerPc := 12, catchType := 13 } [] (vx_table (x := yL_octet) B (hts _ List.mem_cons_self)) (fun z h9 => absurd h9 List.not_mem_nil) (by decide) (by decide) (hts (.classLink RL 13 "java/util/NoSuchElementException") (by decide +kernel)) (va_Nw.use rfl hzC.1) hc1 hc2 hc3 ?_
  generalize H1 = H at hS ⊢
  have hP : va_P (dC, dI) vwCl [] H := fun k q h => by simp at h
  have hD : va_D A [] := ⟨fun i j p q h => by simp at h, fun k q h => by simp at h⟩
  have hK := hK.sub (tys' := []) [] rfl
  refine W.widen (k := 1) (n := 6) (Nat.le_of_ble_eq_true rfl) (Nat.le_of_ble_eq_true rfl) ?_
  refine lv_astore_n (lv' := [(3, .ref q9), (0, .ref x), (1, .int n1), (2, .ref ot)]) hx hb dL_octet_12 rfl hl (by decide) rfl (fun ls hl => ?_)
  refine lv_iconst (v := 1) hx hb dL_octet_13 (by decide) ?_
  have hP9 := hP.sub (ws' := []) [] rfl
  have hD9 := hD.sub (ws' := []) [] (by decide) rfl
  have hK9 := hK.sub (tys' := []) [] rfl
  refine W.widen (k := 1) (n := 6) (Nat.le_of_ble_eq_true rfl) (Nat.le_of_ble_eq_true rfl) ?_
  exact vx_ret (W.iret (v := 1) hx hb hr (fun t ht hW => ⟨⟨1, (), rfl, rfl, by rw [ht]; exact hP9, va_K.moved hW.alike hK9, hD9⟩, hS.F ht⟩) hS.2.2 dL_octet_14)
set_option maxHeartbeats 4000000 in
set_option maxRecDepth 100000 in
theorem l_line (l : Launch) (hlst : l.stackTraces = false) (dC : Nat → ClassId) (dI : Nat → Nat → Nat) (x : Nat) (tp : Nat) (ou : Nat) (sa : Nat) (ur : Nat) (tr : Nat) (so : Nat) (ma : Nat) (ta : Nat) (jt : Nat) (fr : Nat) (jo : Nat) (un : Nat) (su : Nat) (ot : Nat) (sr : Nat) (n1 : Int32) (n2 : Int32) (n3 : Int32) (sz : Nat)  : vx_Met l yL_line wzL_line ({ frames := 8, cells := 1, slots := 6, locals := 114 } : Room) (va_Pc [.ref x, .int n1, .int n2, .int n3, .ref ot] (fun U => U.heap.size = sz ∧ zz_X U ∧ vx_Zq Bundle.tN "UNASSIGNED_STACK" Bundle.steD (va_A [(x, .inr (11, [.ref tp, .ref ou, .ref sa, .ref ur, .ref tr, .ref so, .ref ma, .ref ta, .ref jt, .ref fr, .ref jo, .ref un, .ref su, .int 0, .int 0, .int 0]))] sz) U U.heap ∧ vx_Zq Bundle.tN "SUPPRESSED_SENTINEL" Bundle.listD (va_A [(x, .inr (11, [.ref tp, .ref ou, .ref sa, .ref ur, .ref tr, .ref so, .ref ma, .ref ta, .ref jt, .ref fr, .ref jo, .ref un, .ref su, .int 0, .int 0, .int 0]))] sz) U U.heap ∧ vk_R RX11 173 "no such LINE, or no such question" sr U ∧ zz_TH U ∧ va_P (dC, dI) vwCl [(x, .inr (11, [.ref tp, .ref ou, .ref sa, .ref ur, .ref tr, .ref so, .ref ma, .ref ta, .ref jt, .ref fr, .ref jo, .ref un, .ref su, .int 0, .int 0, .int 0]))] U.heap ∧ va_K (dC, dI) vwCl [] U ∧ va_D (fun _ => True) [(x, .inr (11, [.ref tp, .ref ou, .ref sa, .ref ur, .ref tr, .ref so, .ref ma, .ref ta, .ref jt, .ref fr, .ref jo, .ref un, .ref su, .int 0, .int 0, .int 0]))])) (va_Qi (fun (r : Int32) (_ : Unit) => r = 1) (fun (_ : Unit) (t : State) => va_P (dC, dI) vwCl [] t.heap ∧ va_K (dC, dI) vwCl [] t ∧ va_D (va_A [(x, .inr (11, [.ref tp, .ref ou, .ref sa, .ref ur, .ref tr, .ref so, .ref ma, .ref ta, .ref jt, .ref fr, .ref jo, .ref un, .ref su, .int 0, .int 0, .int 0]))] sz) []) (va_A [(x, .inr (11, [.ref tp, .ref ou, .ref sa, .ref ur, .ref tr, .ref so, .ref ma, .ref ta, .ref jt, .ref fr, .ref jo, .ref un, .ref su, .int 0, .int 0, .int 0]))] sz)) (vx_X (fun (_ : Unit) => False) (fun (E : String) (_ : Unit) (_ : State) => E = "java/util/NoSuchElementException") (va_A [(x, .inr (11, [.ref tp, .ref ou, .ref sa, .ref ur, .ref tr, .ref so, .ref ma, .ref ta, .ref jt, .ref fr, .ref jo, .ref un, .ref su, .int 0, .int 0, .int 0]))] sz)) 1 6 (va_A [(x, .inr (11, [.ref tp, .ref ou, .ref sa, .ref ur, .ref tr, .ref so, .ref ma, .ref ta, .ref jt, .ref fr, .ref jo, .ref un, .ref su, .int 0, .int 0, .int 0]))] sz) := by
  refine vx_ofWH (cc := cL_line) (maxL := 6) (ret := (some .int)) (by decide) rfl ?_
  intro p e s m args below meth c s₁ B hml hv
  obtain ⟨rfl, hsz, hzX, hzU, hzN, hzR, hzC, hP, hK, hD0⟩ := hv
  have hx := B.exec
  have hb := B.bytes
  have hr := B.returns
  have hts := atoms_spec (ws := wzL_line) B.pre
  have hown : s.vm.findClass RL = some m.cls := findClass_of_methodNamed B.named
  have hlocks := B.notSynchronized
  subst hsz
  have hD := hD0.self (sz := s.heap.size)
  generalize hAe : va_A [(x, .inr (11, [.ref tp, .ref ou, .ref sa, .ref ur, .ref tr, .ref so, .ref ma, .ref ta, .ref jt, .ref fr, .ref jo, .ref un, .ref su, .int 0, .int 0, .int 0]))] s.heap.size = A at hzU hzN hzR hzC hD ⊢
  have hA : ∀ q : Nat, s.heap.size ≤ q → A q := fun q h => by rw [← hAe]; exact Or.inr h
  have hS : va_S A s.heap s.heap [] := va_S.rf
  have hP : va_P (dC, dI) vwCl [(x, .inr (11, [.ref tp, .ref ou, .ref sa, .ref ur, .ref tr, .ref so, .ref ma, .ref ta, .ref jt, .ref fr, .ref jo, .ref un, .ref su, .int 0, .int 0, .int 0]))] s.heap := hP
  have hl := lv_entry ([.ref x, .int n1, .int n2, .int n3, .ref ot]) (n := 6) (Nat.le_of_ble_eq_true rfl)
  rw [lg_entry_eq]
  generalize (lg_sl ([.ref x, .int n1, .int n2, .int n3, .ref ot]) ++ List.replicate (6 - (lg_sl ([.ref x, .int n1, .int n2, .int n3, .ref ot])).length) Slot.unset).toArray = ls at hl ⊢
  have hl : lv_has ls 6 [(0, .ref x), (1, .int n1), (2, .int n2), (3, .int n3), (4, .ref ot)] := hl
  skip
  refine lv_aload hx hb dL_line_0 (lv_at hl 4 rfl) ?_
  refine lv_iconst (v := 0) hx hb dL_line_2 (by decide) ?_
  refine lv_aload_n hx hb dL_line_3 rfl (lv_at hl 0 rfl) ?_
  refine lv_iload_n hx hb dL_line_4 rfl (lv_at hl 1 rfl) ?_
  refine lv_iload_n hx hb dL_line_5 rfl (lv_at hl 2 rfl) ?_
  refine lv_iload_n hx hb dL_line_6 rfl (lv_at hl 3 rfl) ?_
  have hPc := hP.sub (ws' := [(x, .inr (11, [.ref tp, .ref ou, .ref sa, .ref ur, .ref tr, .ref so, .ref ma, .ref ta, .ref jt, .ref fr, .ref jo, .ref un, .ref su, .int 0, .int 0, .int 0]))]) [0] rfl
  have hDc := hD.sub (ws' := [(x, .inr (11, [.ref tp, .ref ou, .ref sa, .ref ur, .ref tr, .ref so, .ref ma, .ref ta, .ref jt, .ref fr, .ref jo, .ref un, .ref su, .int 0, .int 0, .int 0]))]) [0] (by decide) rfl
  have hKc := hK.sub (tys' := []) [] rfl
  have hFc := va_free (wc := [(x, .inr (11, [.ref tp, .ref ou, .ref sa, .ref ur, .ref tr, .ref so, .ref ma, .ref ta, .ref jt, .ref fr, .ref jo, .ref un, .ref su, .int 0, .int 0, .int 0]))]) hD hS hA [0] rfl
  refine vx_calli (vx_runV (As := [.int n1, .int n2, .int n3]) (rest := [.int 0, .ref ot]) ⟨hx, hb, hml, hown, hts⟩ (t_line l hlst dC dI x tp ou sa ur tr so ma ta jt fr jo un su sr n1 n2 n3 s.heap.size ) (cwV 3 hts gL_line_X11_line rfl rfl rfl (by decide +kernel) ⟨Nat.le_of_ble_eq_true rfl, Nat.le_of_ble_eq_true rfl⟩) ⟨fun a U g mk q => by obtain ⟨q0, q1, qX, qz0, qz1, qz2, qz3, qP, qK, qD⟩ := q; exact ⟨q0, q1, zz_X.same (u := U) (U := U.calling g mk a) rfl qX, vx_Zq.moved (u := U) (U := U.calling g mk a) (Vm.Alike.refl U.vm) qz0, vx_Zq.moved (u := U) (U := U.calling g mk a) (Vm.Alike.refl U.vm) qz1, vk_R.same rfl qz2, zz_TH.same rfl qz3, qP, va_K.moved (u := U) (U := U.calling g mk a) (Vm.Alike.refl U.vm) qK, qD⟩, va_recv hKc hPc (ci := 11) (q0 := 0) rfl rfl, fun U hU hW => ⟨rfl, by rw [hU], zz_X.warm hW hzX, (by rw [hU]; exact vx_Zq.narrow (vx_Zq.kept (vx_Zq.moved hW.alike hzU) hS.2.1) hFc), (by rw [hU]; exact vx_Zq.narrow (vx_Zq.kept (vx_Zq.moved hW.alike hzN) hS.2.1) hFc), vk_R.warm hW hzR, zz_TH.warm hW hzC, by rw [hU]; exact hPc, va_K.moved hW.alike hKc, hDc.weaken (fun _ _ _ _ => trivial)⟩⟩ rfl rfl hl.1 rfl (lv_room (Nat.le_of_ble_eq_true rfl)) dL_line_7 ⟨Nat.le_of_ble_eq_true rfl, Nat.le_of_ble_eq_true rfl⟩) hS (fun q _ h => hFc q h) hFc (fun q _ h => hFc q h) (fun E ce q9 u t H1 locs ht hvm hw hB hz1 hk1 hS hc1 hc2 hc3 => ?_) (fun r9 u t H1 locs ht hvm hw hB hz1 hk1 hS => hw.elim)
  subst hB
  refine vx_catch (name := "java/util/NoSuchElementException") hown [] { startPc := 0, endPc := 12, handlerPc := 15, catchType := 13 } [] (vx_table (x := yL_line) B (hts _ List.mem_cons_self)) (fun z h9 => absurd h9 List.not_mem_nil) (by decide) (by decide) (hts (.classLink RL 13 "java/util/NoSuchElementException") (by decide +kernel)) (va_Nw.use rfl hzC.1) hc1 hc2 hc3 ?_
  generalize H1 = H at hS ⊢
  have hP : va_P (dC, dI) vwCl [] H := fun k q h => by simp at h
  have hD : va_D A [] := ⟨fun i j p q h => by simp at h, fun k q h => by simp at h⟩
  have hK := hK.sub (tys' := []) [] rfl
  refine W.widen (k := 1) (n := 6) (Nat.le_of_ble_eq_true rfl) (Nat.le_of_ble_eq_true rfl) ?_
  refine lv_astore (lv' := [(5, .ref q9), (0, .ref x), (1, .int n1), (2, .int n2), (3, .int n3), (4, .ref ot)]) hx hb dL_line_15 hl (by decide) rfl (fun ls hl => ?_)
  refine lv_iconst (v := 1) hx hb dL_line_17 (by decide) ?_
  have hP9 := hP.sub (ws' := []) [] rfl
  have hD9 := hD.sub (ws' := []) [] (by decide) rfl
  have hK9 := hK.sub (tys' := []) [] rfl
  refine W.widen (k := 1) (n := 6) (Nat.le_of_ble_eq_true rfl) (Nat.le_of_ble_eq_true rfl) ?_
  exact vx_ret (W.iret (v := 1) hx hb hr (fun t ht hW => ⟨⟨1, (), rfl, rfl, by rw [ht]; exact hP9, va_K.moved hW.alike hK9, hD9⟩, hS.F ht⟩) hS.2.2 dL_line_18)
set_option maxHeartbeats 4000000 in
set_option maxRecDepth 100000 in
theorem l_bound (l : Launch) (hlst : l.stackTraces = false) (dC : Nat → ClassId) (dI : Nat → Nat → Nat) (x : Nat) (tp : Nat) (ou : Nat) (sa : Nat) (ur : Nat) (tr : Nat) (so : Nat) (ma : Nat) (ta : Nat) (jt : Nat) (fr : Nat) (jo : Nat) (un : Nat) (su : Nat) (ot : Nat) (sr : Nat) (n1 : Int32) (n2 : Int32) (n3 : Int32) (sz : Nat)  : vx_Met l yL_bound wzL_bound ({ frames := 8, cells := 1, slots := 6, locals := 114 } : Room) (va_Pc [.ref x, .int n1, .int n2, .int n3, .ref ot] (fun U => U.heap.size = sz ∧ zz_X U ∧ vx_Zq Bundle.tN "UNASSIGNED_STACK" Bundle.steD (va_A [(x, .inr (11, [.ref tp, .ref ou, .ref sa, .ref ur, .ref tr, .ref so, .ref ma, .ref ta, .ref jt, .ref fr, .ref jo, .ref un, .ref su, .int 0, .int 0, .int 0]))] sz) U U.heap ∧ vx_Zq Bundle.tN "SUPPRESSED_SENTINEL" Bundle.listD (va_A [(x, .inr (11, [.ref tp, .ref ou, .ref sa, .ref ur, .ref tr, .ref so, .ref ma, .ref ta, .ref jt, .ref fr, .ref jo, .ref un, .ref su, .int 0, .int 0, .int 0]))] sz) U U.heap ∧ vk_R RX11 206 "no such LINE" sr U ∧ zz_TH U ∧ va_P (dC, dI) vwCl [(x, .inr (11, [.ref tp, .ref ou, .ref sa, .ref ur, .ref tr, .ref so, .ref ma, .ref ta, .ref jt, .ref fr, .ref jo, .ref un, .ref su, .int 0, .int 0, .int 0]))] U.heap ∧ va_K (dC, dI) vwCl [] U ∧ va_D (fun _ => True) [(x, .inr (11, [.ref tp, .ref ou, .ref sa, .ref ur, .ref tr, .ref so, .ref ma, .ref ta, .ref jt, .ref fr, .ref jo, .ref un, .ref su, .int 0, .int 0, .int 0]))])) (va_Qi (fun (r : Int32) (_ : Unit) => r = 1) (fun (_ : Unit) (t : State) => va_P (dC, dI) vwCl [] t.heap ∧ va_K (dC, dI) vwCl [] t ∧ va_D (va_A [(x, .inr (11, [.ref tp, .ref ou, .ref sa, .ref ur, .ref tr, .ref so, .ref ma, .ref ta, .ref jt, .ref fr, .ref jo, .ref un, .ref su, .int 0, .int 0, .int 0]))] sz) []) (va_A [(x, .inr (11, [.ref tp, .ref ou, .ref sa, .ref ur, .ref tr, .ref so, .ref ma, .ref ta, .ref jt, .ref fr, .ref jo, .ref un, .ref su, .int 0, .int 0, .int 0]))] sz)) (vx_X (fun (_ : Unit) => False) (fun (E : String) (_ : Unit) (_ : State) => E = "java/util/NoSuchElementException") (va_A [(x, .inr (11, [.ref tp, .ref ou, .ref sa, .ref ur, .ref tr, .ref so, .ref ma, .ref ta, .ref jt, .ref fr, .ref jo, .ref un, .ref su, .int 0, .int 0, .int 0]))] sz)) 1 6 (va_A [(x, .inr (11, [.ref tp, .ref ou, .ref sa, .ref ur, .ref tr, .ref so, .ref ma, .ref ta, .ref jt, .ref fr, .ref jo, .ref un, .ref su, .int 0, .int 0, .int 0]))] sz) := by
  refine vx_ofWH (cc := cL_bound) (maxL := 6) (ret := (some .int)) (by decide) rfl ?_
  intro p e s m args below meth c s₁ B hml hv
  obtain ⟨rfl, hsz, hzX, hzU, hzN, hzR, hzC, hP, hK, hD0⟩ := hv
  have hx := B.exec
  have hb := B.bytes
  have hr := B.returns
  have hts := atoms_spec (ws := wzL_bound) B.pre
  have hown : s.vm.findClass RL = some m.cls := findClass_of_methodNamed B.named
  have hlocks := B.notSynchronized
  subst hsz
  have hD := hD0.self (sz := s.heap.size)
  generalize hAe : va_A [(x, .inr (11, [.ref tp, .ref ou, .ref sa, .ref ur, .ref tr, .ref so, .ref ma, .ref ta, .ref jt, .ref fr, .ref jo, .ref un, .ref su, .int 0, .int 0, .int 0]))] s.heap.size = A at hzU hzN hzR hzC hD ⊢
  have hA : ∀ q : Nat, s.heap.size ≤ q → A q := fun q h => by rw [← hAe]; exact Or.inr h
  have hS : va_S A s.heap s.heap [] := va_S.rf
  have hP : va_P (dC, dI) vwCl [(x, .inr (11, [.ref tp, .ref ou, .ref sa, .ref ur, .ref tr, .ref so, .ref ma, .ref ta, .ref jt, .ref fr, .ref jo, .ref un, .ref su, .int 0, .int 0, .int 0]))] s.heap := hP
  have hl := lv_entry ([.ref x, .int n1, .int n2, .int n3, .ref ot]) (n := 6) (Nat.le_of_ble_eq_true rfl)
  rw [lg_entry_eq]
  generalize (lg_sl ([.ref x, .int n1, .int n2, .int n3, .ref ot]) ++ List.replicate (6 - (lg_sl ([.ref x, .int n1, .int n2, .int n3, .ref ot])).length) Slot.unset).toArray = ls at hl ⊢
  have hl : lv_has ls 6 [(0, .ref x), (1, .int n1), (2, .int n2), (3, .int n3), (4, .ref ot)] := hl
  skip
  refine lv_aload hx hb dL_bound_0 (lv_at hl 4 rfl) ?_
  refine lv_iconst (v := 0) hx hb dL_bound_2 (by decide) ?_
  refine lv_aload_n hx hb dL_bound_3 rfl (lv_at hl 0 rfl) ?_
  refine lv_iload_n hx hb dL_bound_4 rfl (lv_at hl 1 rfl) ?_
  refine lv_iload_n hx hb dL_bound_5 rfl (lv_at hl 2 rfl) ?_
  refine lv_iload_n hx hb dL_bound_6 rfl (lv_at hl 3 rfl) ?_
  have hPc := hP.sub (ws' := [(x, .inr (11, [.ref tp, .ref ou, .ref sa, .ref ur, .ref tr, .ref so, .ref ma, .ref ta, .ref jt, .ref fr, .ref jo, .ref un, .ref su, .int 0, .int 0, .int 0]))]) [0] rfl
  have hDc := hD.sub (ws' := [(x, .inr (11, [.ref tp, .ref ou, .ref sa, .ref ur, .ref tr, .ref so, .ref ma, .ref ta, .ref jt, .ref fr, .ref jo, .ref un, .ref su, .int 0, .int 0, .int 0]))]) [0] (by decide) rfl
  have hKc := hK.sub (tys' := []) [] rfl
  have hFc := va_free (wc := [(x, .inr (11, [.ref tp, .ref ou, .ref sa, .ref ur, .ref tr, .ref so, .ref ma, .ref ta, .ref jt, .ref fr, .ref jo, .ref un, .ref su, .int 0, .int 0, .int 0]))]) hD hS hA [0] rfl
  refine vx_calli (vx_runV (As := [.int n1, .int n2, .int n3]) (rest := [.int 0, .ref ot]) ⟨hx, hb, hml, hown, hts⟩ (t_bound l hlst dC dI x tp ou sa ur tr so ma ta jt fr jo un su sr n1 n2 n3 s.heap.size ) (cwV 3 hts gL_bound_X11_bound rfl rfl rfl (by decide +kernel) ⟨Nat.le_of_ble_eq_true rfl, Nat.le_of_ble_eq_true rfl⟩) ⟨fun a U g mk q => by obtain ⟨q0, q1, qX, qz0, qz1, qz2, qz3, qP, qK, qD⟩ := q; exact ⟨q0, q1, zz_X.same (u := U) (U := U.calling g mk a) rfl qX, vx_Zq.moved (u := U) (U := U.calling g mk a) (Vm.Alike.refl U.vm) qz0, vx_Zq.moved (u := U) (U := U.calling g mk a) (Vm.Alike.refl U.vm) qz1, vk_R.same rfl qz2, zz_TH.same rfl qz3, qP, va_K.moved (u := U) (U := U.calling g mk a) (Vm.Alike.refl U.vm) qK, qD⟩, va_recv hKc hPc (ci := 11) (q0 := 0) rfl rfl, fun U hU hW => ⟨rfl, by rw [hU], zz_X.warm hW hzX, (by rw [hU]; exact vx_Zq.narrow (vx_Zq.kept (vx_Zq.moved hW.alike hzU) hS.2.1) hFc), (by rw [hU]; exact vx_Zq.narrow (vx_Zq.kept (vx_Zq.moved hW.alike hzN) hS.2.1) hFc), vk_R.warm hW hzR, zz_TH.warm hW hzC, by rw [hU]; exact hPc, va_K.moved hW.alike hKc, hDc.weaken (fun _ _ _ _ => trivial)⟩⟩ rfl rfl hl.1 rfl (lv_room (Nat.le_of_ble_eq_true rfl)) dL_bound_7 ⟨Nat.le_of_ble_eq_true rfl, Nat.le_of_ble_eq_true rfl⟩) hS (fun q _ h => hFc q h) hFc (fun q _ h => hFc q h) (fun E ce q9 u t H1 locs ht hvm hw hB hz1 hk1 hS hc1 hc2 hc3 => ?_) (fun r9 u t H1 locs ht hvm hw hB hz1 hk1 hS => hw.elim)
  subst hB
  refine vx_catch (name := "java/util/NoSuchElementException") hown [] { startPc := 0, endPc := 12, handlerPc := 15, catchType := 13 } [] (vx_table (x := yL_bound) B (hts _ List.mem_cons_self)) (fun z h9 => absurd h9 List.not_mem_nil) (by decide) (by decide) (hts (.classLink RL 13 "java/util/NoSuchElementException") (by decide +kernel)) (va_Nw.use rfl hzC.1) hc1 hc2 hc3 ?_
  generalize H1 = H at hS ⊢
  have hP : va_P (dC, dI) vwCl [] H := fun k q h => by simp at h
  have hD : va_D A [] := ⟨fun i j p q h => by simp at h, fun k q h => by simp at h⟩
  have hK := hK.sub (tys' := []) [] rfl
  refine W.widen (k := 1) (n := 6) (Nat.le_of_ble_eq_true rfl) (Nat.le_of_ble_eq_true rfl) ?_
  refine lv_astore (lv' := [(5, .ref q9), (0, .ref x), (1, .int n1), (2, .int n2), (3, .int n3), (4, .ref ot)]) hx hb dL_bound_15 hl (by decide) rfl (fun ls hl => ?_)
  refine lv_iconst (v := 1) hx hb dL_bound_17 (by decide) ?_
  have hP9 := hP.sub (ws' := []) [] rfl
  have hD9 := hD.sub (ws' := []) [] (by decide) rfl
  have hK9 := hK.sub (tys' := []) [] rfl
  refine W.widen (k := 1) (n := 6) (Nat.le_of_ble_eq_true rfl) (Nat.le_of_ble_eq_true rfl) ?_
  exact vx_ret (W.iret (v := 1) hx hb hr (fun t ht hW => ⟨⟨1, (), rfl, rfl, by rw [ht]; exact hP9, va_K.moved hW.alike hK9, hD9⟩, hS.F ht⟩) hS.2.2 dL_bound_18)
set_option maxHeartbeats 4000000 in
set_option maxRecDepth 100000 in
theorem l_digit (l : Launch) (hlst : l.stackTraces = false) (dC : Nat → ClassId) (dI : Nat → Nat → Nat) (x : Nat) (tp : Nat) (ou : Nat) (sa : Nat) (ur : Nat) (tr : Nat) (so : Nat) (ma : Nat) (ta : Nat) (jt : Nat) (fr : Nat) (jo : Nat) (un : Nat) (su : Nat) (ot : Nat) (sr : Nat) (n1 : Int32) (n2 : Int32) (sz : Nat)  : vx_Met l yL_digit wzL_digit ({ frames := 8, cells := 1, slots := 6, locals := 113 } : Room) (va_Pc [.ref x, .int n1, .int n2, .ref ot] (fun U => U.heap.size = sz ∧ zz_X U ∧ vx_Zq Bundle.tN "UNASSIGNED_STACK" Bundle.steD (va_A [(x, .inr (11, [.ref tp, .ref ou, .ref sa, .ref ur, .ref tr, .ref so, .ref ma, .ref ta, .ref jt, .ref fr, .ref jo, .ref un, .ref su, .int 0, .int 0, .int 0]))] sz) U U.heap ∧ vx_Zq Bundle.tN "SUPPRESSED_SENTINEL" Bundle.listD (va_A [(x, .inr (11, [.ref tp, .ref ou, .ref sa, .ref ur, .ref tr, .ref so, .ref ma, .ref ta, .ref jt, .ref fr, .ref jo, .ref un, .ref su, .int 0, .int 0, .int 0]))] sz) U U.heap ∧ vk_R RX11 213 "no such ?" sr U ∧ zz_TH U ∧ va_P (dC, dI) vwCl [(x, .inr (11, [.ref tp, .ref ou, .ref sa, .ref ur, .ref tr, .ref so, .ref ma, .ref ta, .ref jt, .ref fr, .ref jo, .ref un, .ref su, .int 0, .int 0, .int 0]))] U.heap ∧ va_K (dC, dI) vwCl [] U ∧ va_D (fun _ => True) [(x, .inr (11, [.ref tp, .ref ou, .ref sa, .ref ur, .ref tr, .ref so, .ref ma, .ref ta, .ref jt, .ref fr, .ref jo, .ref un, .ref su, .int 0, .int 0, .int 0]))])) (va_Qi (fun (r : Int32) (_ : Unit) => r = 1) (fun (_ : Unit) (t : State) => va_P (dC, dI) vwCl [] t.heap ∧ va_K (dC, dI) vwCl [] t ∧ va_D (va_A [(x, .inr (11, [.ref tp, .ref ou, .ref sa, .ref ur, .ref tr, .ref so, .ref ma, .ref ta, .ref jt, .ref fr, .ref jo, .ref un, .ref su, .int 0, .int 0, .int 0]))] sz) []) (va_A [(x, .inr (11, [.ref tp, .ref ou, .ref sa, .ref ur, .ref tr, .ref so, .ref ma, .ref ta, .ref jt, .ref fr, .ref jo, .ref un, .ref su, .int 0, .int 0, .int 0]))] sz)) (vx_X (fun (_ : Unit) => False) (fun (E : String) (_ : Unit) (_ : State) => E = "java/util/NoSuchElementException") (va_A [(x, .inr (11, [.ref tp, .ref ou, .ref sa, .ref ur, .ref tr, .ref so, .ref ma, .ref ta, .ref jt, .ref fr, .ref jo, .ref un, .ref su, .int 0, .int 0, .int 0]))] sz)) 1 6 (va_A [(x, .inr (11, [.ref tp, .ref ou, .ref sa, .ref ur, .ref tr, .ref so, .ref ma, .ref ta, .ref jt, .ref fr, .ref jo, .ref un, .ref su, .int 0, .int 0, .int 0]))] sz) := by
  refine vx_ofWH (cc := cL_digit) (maxL := 5) (ret := (some .int)) (by decide) rfl ?_
  intro p e s m args below meth c s₁ B hml hv
  obtain ⟨rfl, hsz, hzX, hzU, hzN, hzR, hzC, hP, hK, hD0⟩ := hv
  have hx := B.exec
  have hb := B.bytes
  have hr := B.returns
  have hts := atoms_spec (ws := wzL_digit) B.pre
  have hown : s.vm.findClass RL = some m.cls := findClass_of_methodNamed B.named
  have hlocks := B.notSynchronized
  subst hsz
  have hD := hD0.self (sz := s.heap.size)
  generalize hAe : va_A [(x, .inr (11, [.ref tp, .ref ou, .ref sa, .ref ur, .ref tr, .ref so, .ref ma, .ref ta, .ref jt, .ref fr, .ref jo, .ref un, .ref su, .int 0, .int 0, .int 0]))] s.heap.size = A at hzU hzN hzR hzC hD ⊢
  have hA : ∀ q : Nat, s.heap.size ≤ q → A q := fun q h => by rw [← hAe]; exact Or.inr h
  have hS : va_S A s.heap s.heap [] := va_S.rf
  have hP : va_P (dC, dI) vwCl [(x, .inr (11, [.ref tp, .ref ou, .ref sa, .ref ur, .ref tr, .ref so, .ref ma, .ref ta, .ref jt, .ref fr, .ref jo, .ref un, .ref su, .int 0, .int 0, .int 0]))] s.heap := hP
  have hl := lv_entry ([.ref x, .int n1, .int n2, .ref ot]) (n := 5) (Nat.le_of_ble_eq_true rfl)
  rw [lg_entry_eq]
  generalize (lg_sl ([.ref x, .int n1, .int n2, .ref ot]) ++ List.replicate (5 - (lg_sl ([.ref x, .int n1, .int n2, .ref ot])).length) Slot.unset).toArray = ls at hl ⊢
  have hl : lv_has ls 5 [(0, .ref x), (1, .int n1), (2, .int n2), (3, .ref ot)] := hl
  skip
  refine lv_aload_n hx hb dL_digit_0 rfl (lv_at hl 3 rfl) ?_
  refine lv_iconst (v := 0) hx hb dL_digit_1 (by decide) ?_
  refine lv_aload_n hx hb dL_digit_2 rfl (lv_at hl 0 rfl) ?_
  refine lv_iload_n hx hb dL_digit_3 rfl (lv_at hl 1 rfl) ?_
  refine lv_iload_n hx hb dL_digit_4 rfl (lv_at hl 2 rfl) ?_
  have hPc := hP.sub (ws' := [(x, .inr (11, [.ref tp, .ref ou, .ref sa, .ref ur, .ref tr, .ref so, .ref ma, .ref ta, .ref jt, .ref fr, .ref jo, .ref un, .ref su, .int 0, .int 0, .int 0]))]) [0] rfl
  have hDc := hD.sub (ws' := [(x, .inr (11, [.ref tp, .ref ou, .ref sa, .ref ur, .ref tr, .ref so, .ref ma, .ref ta, .ref jt, .ref fr, .ref jo, .ref un, .ref su, .int 0, .int 0, .int 0]))]) [0] (by decide) rfl
  have hKc := hK.sub (tys' := []) [] rfl
  have hFc := va_free (wc := [(x, .inr (11, [.ref tp, .ref ou, .ref sa, .ref ur, .ref tr, .ref so, .ref ma, .ref ta, .ref jt, .ref fr, .ref jo, .ref un, .ref su, .int 0, .int 0, .int 0]))]) hD hS hA [0] rfl
  refine vx_calli (vx_runV (As := [.int n1, .int n2]) (rest := [.int 0, .ref ot]) ⟨hx, hb, hml, hown, hts⟩ (t_digit l hlst dC dI x tp ou sa ur tr so ma ta jt fr jo un su sr n1 n2 s.heap.size ) (cwV 2 hts gL_digit_X11_digit rfl rfl rfl (by decide +kernel) ⟨Nat.le_of_ble_eq_true rfl, Nat.le_of_ble_eq_true rfl⟩) ⟨fun a U g mk q => by obtain ⟨q0, q1, qX, qz0, qz1, qz2, qz3, qP, qK, qD⟩ := q; exact ⟨q0, q1, zz_X.same (u := U) (U := U.calling g mk a) rfl qX, vx_Zq.moved (u := U) (U := U.calling g mk a) (Vm.Alike.refl U.vm) qz0, vx_Zq.moved (u := U) (U := U.calling g mk a) (Vm.Alike.refl U.vm) qz1, vk_R.same rfl qz2, zz_TH.same rfl qz3, qP, va_K.moved (u := U) (U := U.calling g mk a) (Vm.Alike.refl U.vm) qK, qD⟩, va_recv hKc hPc (ci := 11) (q0 := 0) rfl rfl, fun U hU hW => ⟨rfl, by rw [hU], zz_X.warm hW hzX, (by rw [hU]; exact vx_Zq.narrow (vx_Zq.kept (vx_Zq.moved hW.alike hzU) hS.2.1) hFc), (by rw [hU]; exact vx_Zq.narrow (vx_Zq.kept (vx_Zq.moved hW.alike hzN) hS.2.1) hFc), vk_R.warm hW hzR, zz_TH.warm hW hzC, by rw [hU]; exact hPc, va_K.moved hW.alike hKc, hDc.weaken (fun _ _ _ _ => trivial)⟩⟩ rfl rfl hl.1 rfl (lv_room (Nat.le_of_ble_eq_true rfl)) dL_digit_5 ⟨Nat.le_of_ble_eq_true rfl, Nat.le_of_ble_eq_true rfl⟩) hS (fun q _ h => hFc q h) hFc (fun q _ h => hFc q h) (fun E ce q9 u t H1 locs ht hvm hw hB hz1 hk1 hS hc1 hc2 hc3 => ?_) (fun r9 u t H1 locs ht hvm hw hB hz1 hk1 hS => hw.elim)
  subst hB
  refine vx_catch (name := "java/util/NoSuchElementException") hown [] { startPc := 0, endPc := 10, handlerPc := 13, catchType := 13 } [] (vx_table (x := yL_digit) B (hts _ List.mem_cons_self)) (fun z h9 => absurd h9 List.not_mem_nil) (by decide) (by decide) (hts (.classLink RL 13 "java/util/NoSuchElementException") (by decide +kernel)) (va_Nw.use rfl hzC.1) hc1 hc2 hc3 ?_
  generalize H1 = H at hS ⊢
  have hP : va_P (dC, dI) vwCl [] H := fun k q h => by simp at h
  have hD : va_D A [] := ⟨fun i j p q h => by simp at h, fun k q h => by simp at h⟩
  have hK := hK.sub (tys' := []) [] rfl
  refine W.widen (k := 1) (n := 6) (Nat.le_of_ble_eq_true rfl) (Nat.le_of_ble_eq_true rfl) ?_
  refine lv_astore (lv' := [(4, .ref q9), (0, .ref x), (1, .int n1), (2, .int n2), (3, .ref ot)]) hx hb dL_digit_13 hl (by decide) rfl (fun ls hl => ?_)
  refine lv_iconst (v := 1) hx hb dL_digit_15 (by decide) ?_
  have hP9 := hP.sub (ws' := []) [] rfl
  have hD9 := hD.sub (ws' := []) [] (by decide) rfl
  have hK9 := hK.sub (tys' := []) [] rfl
  refine W.widen (k := 1) (n := 6) (Nat.le_of_ble_eq_true rfl) (Nat.le_of_ble_eq_true rfl) ?_
  exact vx_ret (W.iret (v := 1) hx hb hr (fun t ht hW => ⟨⟨1, (), rfl, rfl, by rw [ht]; exact hP9, va_K.moved hW.alike hK9, hD9⟩, hS.F ht⟩) hS.2.2 dL_digit_16)
