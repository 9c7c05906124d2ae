set_option maxHeartbeats 4000000 in
set_option maxRecDepth 100000 in
theorem klz_system (l : Launch) (hlst : l.stackTraces = false) (dC : Nat → ClassId) (dI : Nat → Nat → Nat) (h : Sh) (L : List Nat) (hN : sx_nd L) (q : Sg) (hV : sx_V h L q) {a0 : Nat} (ha0 : a0 ∈ L) (ka0 : h.1 a0 = 11) {uu : Nat} (euu : q.2.2.1 a0 11 = uu) {c0 : Nat} (ec0 : q.2.2.1 uu 1 = c0) {f0 : Nat} (ef0 : q.2.2.1 uu 3 = f0) (n1 : Int32) (n2 : Int32) {ot : Nat} (hot : ot ∈ L) (kot : h.1 ot = 200) (lot : h.2.1 ot = 1) : CMz l dC dI h L yL_system wsL_system ({ frames := 7, cells := 1, slots := 6, locals := 104 } : Room) q [.ref a0, .int n1, .int n2, .ref ot] (fun r u => klz_P q n1 n2 uu c0 f0 ot r u) := by
  intro sz
  refine vx_ofWH (cc := cL_system) (maxL := 5) (ret := (some .int)) (by decide) rfl ?_
  intro p e s m args below meth c s₁ B hml hv
  obtain ⟨rfl, hsz, hP, hK, hZ⟩ := hv
  have hx := B.exec
  have hb := B.bytes
  have hr := B.returns
  have hts := atoms_spec (ws := wsL_system) B.pre
  have hown : s.vm.findClass RL = some m.cls := findClass_of_methodNamed B.named
  have hlocks := B.notSynchronized
  subst hsz
  have hD : ∀ g, va_D (AL L s.heap.size) (va_pl L g) := AL_D hN s.heap.size
  have hS : va_S (AL L s.heap.size) s.heap s.heap [] := va_S.rf
  have hl := lv_entry ([.ref a0, .int n1, .int n2, .ref ot]) (n := 5) (Nat.le_of_ble_eq_true rfl)
  rw [lg_entry_eq]
  generalize (lg_sl ([.ref a0, .int n1, .int n2, .ref ot]) ++ List.replicate (5 - (lg_sl ([.ref a0, .int n1, .int n2, .ref ot])).length) Slot.unset).toArray = ls at hl ⊢
  have hl : lv_has ls 5 [(0, .ref a0), (1, .int n1), (2, .int n2), (3, .ref ot)] := hl
  refine lv_aload_n hx hb dL_system_0 rfl (lv_at hl 3 rfl) ?_
  refine lv_iconst (v := 0) hx hb dL_system_1 (by decide) ?_
  refine lv_aload_n hx hb dL_system_2 rfl (lv_at hl 0 rfl) ?_
  refine lv_iload_n hx hb dL_system_3 rfl (lv_at hl 1 rfl) ?_
  refine lv_iload_n hx hb dL_system_4 rfl (lv_at hl 2 rfl) ?_
  refine vx_calli (vx_runV (As := [.int n1, .int n2]) (rest := [.int 0, .ref ot]) ⟨hx, hb, hml, hown, hts⟩ (k_X11_system_e l hlst dC dI h L hN q hV (a0 := a0) ha0 ka0 n1 n2 (uu := uu) euu (c0 := c0) ec0 (f0 := f0) ef0 s.heap.size) (cwV 2 hts gL_system_X11_system rfl rfl rfl (by decide +kernel) ⟨Nat.le_of_ble_eq_true rfl, Nat.le_of_ble_eq_true rfl⟩) ⟨fun a U g mk z => by obtain ⟨z0, z1, zP, zK, zZ⟩ := z; exact ⟨z0, z1, zP, va_K.moved (u := U) (U := U.calling g mk a) (Vm.Alike.refl U.vm) zK, zZ.calling⟩, pl_recv (x := (RX11, TX11, 16)) hK hP ha0 ka0 (by decide) rfl, fun U hU hW9 => ⟨rfl, by rw [hU], by rw [hU]; exact hP, va_K.moved hW9.alike hK, hZ.enter hU hW9 hS (fun _ z => z)⟩⟩ rfl rfl hl.1 rfl (lv_room (Nat.le_of_ble_eq_true rfl)) dL_system_5 ⟨Nat.le_of_ble_eq_true rfl, Nat.le_of_ble_eq_true rfl⟩) hS (fun a _ z => z) (fun a z => z) (fun a _ z => z) (fun E ce q9 u t H1 locs ht hvm hw hB hz1 hk1 hS hc1 hc2 hc3 => ?_) (fun r9 u t H1 locs ht hvm hw hB hz1 hk1 hS => ?_)
  · obtain ⟨⟨hE, hthr⟩, hB⟩ := hB
    subst hE
    unfold sx_at at hB
    rw [ht] at hB
    refine vx_catch (name := "java/util/NoSuchElementException") hown [] { startPc := 0, endPc := 10, handlerPc := 13, catchType := 13 } [] (vx_table (x := yL_system) B (hts _ List.mem_cons_self)) (fun z h9 => absurd h9 List.not_mem_nil) (by decide) (by decide) (hts (.classLink RL 13 "java/util/NoSuchElementException") (by decide +kernel)) (va_Nw.use rfl hZ.2.2.2.2.2.1.1) hc1 hc2 hc3 ?_
    refine lv_astore (lv' := [(4, .ref q9), (0, .ref a0), (1, .int n1), (2, .int n2), (3, .ref ot)]) hx hb dL_system_13 hl (by decide) rfl (fun ls hl => ?_)
    refine lv_iconst (v := 1) hx hb dL_system_15 (by decide) ?_
    exact vx_ret (W.iret (v := 1) hx hb hr (fun t ht hW => ⟨⟨1, q, rfl, Or.inl ⟨rfl, hthr, rfl⟩, by unfold sx_at; rw [ht]; exact hB⟩, hS.F ht⟩) hS.2.2 dL_system_16)
  · unfold sx_at at hB
    rw [ht] at hB
    obtain ⟨hq9, hw⟩ := hw
    subst hq9
    refine lv_i2l (v := r9.toInt64) hx hb dL_system_8 rfl ?_
    refine pl_last hx hb hK hB hD hS hot 1 (sg_F_l kot (by decide) (by decide)) rfl (vp_in_iff.mpr ⟨by decide, by rw [lot]; decide⟩) dL_system_9 (fun H2 locs2 hP2 hS2 => ?_)
    rw [sg_upL kot (by decide) (by decide)] at hP2
    refine lv_goto (tgt := 17) hx hb dL_system_10 (by decide) ?_
    refine lv_iconst (v := 0) hx hb dL_system_17 (by decide) ?_
    exact vx_ret (W.iret (v := 0) hx hb hr (fun t ht hW => ⟨⟨0, _, rfl, Or.inr ⟨rfl, r9, hw, rfl⟩, by unfold sx_at; rw [ht]; exact hP2⟩, hS2.F ht⟩) hS2.2.2 dL_system_18)
