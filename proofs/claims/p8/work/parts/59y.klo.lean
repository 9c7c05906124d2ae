/-- the law's helper for octet: it threw, or the answer lies in out -/
def klo_P (q : Sg) (n1 : Int32) (o0 ob ot : Nat) (k : Int32) (u : Sg) : Prop := k.toInt = 1 ∧ ¬ (0 ≤ n1.toInt ∧ n1.toInt < (q.1 o0 1).toInt) ∧ u = q ∨ k.toInt = 0 ∧ ∃ r : Int32, ((0 ≤ n1.toInt ∧ n1.toInt < (q.1 o0 1).toInt) ∧ r = (q.2.2.2.1 ob n1.toNatClampNeg &&& 255)) ∧ u = sg_pL q ot (vp_updL (q.2.2.2.2 ot) 0 r.toInt64)
set_option maxHeartbeats 4000000 in
set_option maxRecDepth 100000 in
theorem klz_octet (l : Launch) (hlst : l.stackTraces = false) (dC : Nat → ClassId) (dI : Nat → Nat → Nat) (h : Sh) (L : List Nat) (hN : sx_nd L) (q : Sg) (hV : sx_V h L q) {a0 : Nat} (ha0 : a0 ∈ L) (ka0 : h.1 a0 = 11) {o0 : Nat} (eo0 : q.2.2.1 a0 1 = o0) {ob : Nat} (eob : q.2.2.1 o0 0 = ob) (n1 : Int32) {ot : Nat} (hot : ot ∈ L) (kot : h.1 ot = 200) (lot : h.2.1 ot = 1) : CMz l dC dI h L yL_octet wsL_octet ({ frames := 7, cells := 1, slots := 6, locals := 103 } : Room) q [.ref a0, .int n1, .ref ot] (fun r u => klo_P q n1 o0 ob ot r u) := by
  intro sz
  refine vx_ofWH (cc := cL_octet) (maxL := 4) (ret := (some .int)) (by decide) rfl ?_
  intro p e s m args below meth c s₁ B hml hv
  obtain ⟨rfl, hsz, hP, hK, hZ⟩ := hv
  have hx := B.exec
  have hb := B.bytes
  have hr := B.returns
  have hts := atoms_spec (ws := wsL_octet) B.pre
  have hown : s.vm.findClass RL = some m.cls := findClass_of_methodNamed B.named
  have hlocks := B.notSynchronized
  subst hsz
  have hD : ∀ g, va_D (AL L s.heap.size) (va_pl L g) := AL_D hN s.heap.size
  have hS : va_S (AL L s.heap.size) s.heap s.heap [] := va_S.rf
  have hl := lv_entry ([.ref a0, .int n1, .ref ot]) (n := 4) (Nat.le_of_ble_eq_true rfl)
  rw [lg_entry_eq]
  generalize (lg_sl ([.ref a0, .int n1, .ref ot]) ++ List.replicate (4 - (lg_sl ([.ref a0, .int n1, .ref ot])).length) Slot.unset).toArray = ls at hl ⊢
  have hl : lv_has ls 4 [(0, .ref a0), (1, .int n1), (2, .ref ot)] := hl
  refine lv_aload_n hx hb dL_octet_0 rfl (lv_at hl 2 rfl) ?_
  refine lv_iconst (v := 0) hx hb dL_octet_1 (by decide) ?_
  refine lv_aload_n hx hb dL_octet_2 rfl (lv_at hl 0 rfl) ?_
  refine lv_iload_n hx hb dL_octet_3 rfl (lv_at hl 1 rfl) ?_
  refine vx_calli (vx_runV (As := [.int n1]) (rest := [.int 0, .ref ot]) ⟨hx, hb, hml, hown, hts⟩ (k_X11_octet_e l hlst dC dI h L hN q hV (a0 := a0) ha0 ka0 n1 (o0 := o0) eo0 (ob := ob) eob s.heap.size) (cwV 1 hts gL_octet_X11_octet rfl rfl rfl (by decide +kernel) ⟨Nat.le_of_ble_eq_true rfl, Nat.le_of_ble_eq_true rfl⟩) ⟨fun a U g mk z => by obtain ⟨z0, z1, zP, zK, zZ⟩ := z; exact ⟨z0, z1, zP, va_K.moved (u := U) (U := U.calling g mk a) (Vm.Alike.refl U.vm) zK, zZ.calling⟩, pl_recv (x := (RX11, TX11, 16)) hK hP ha0 ka0 (by decide) rfl, fun U hU hW9 => ⟨rfl, by rw [hU], by rw [hU]; exact hP, va_K.moved hW9.alike hK, hZ.enter hU hW9 hS (fun _ z => z)⟩⟩ rfl rfl hl.1 rfl (lv_room (Nat.le_of_ble_eq_true rfl)) dL_octet_4 ⟨Nat.le_of_ble_eq_true rfl, Nat.le_of_ble_eq_true rfl⟩) hS (fun a _ z => z) (fun a z => z) (fun a _ z => z) (fun E ce q9 u t H1 locs ht hvm hw hB hz1 hk1 hS hc1 hc2 hc3 => ?_) (fun r9 u t H1 locs ht hvm hw hB hz1 hk1 hS => ?_)
  · obtain ⟨⟨hE, hthr⟩, hB⟩ := hB
    subst hE
    unfold sx_at at hB
    rw [ht] at hB
    refine vx_catch (name := "java/util/NoSuchElementException") hown [] { startPc := 0, endPc := 9, handlerPc := 12, catchType := 13 } [] (vx_table (x := yL_octet) B (hts _ List.mem_cons_self)) (fun z h9 => absurd h9 List.not_mem_nil) (by decide) (by decide) (hts (.classLink RL 13 "java/util/NoSuchElementException") (by decide +kernel)) (va_Nw.use rfl hZ.2.2.2.2.2.1.1) hc1 hc2 hc3 ?_
    refine lv_astore_n (lv' := [(3, .ref q9), (0, .ref a0), (1, .int n1), (2, .ref ot)]) hx hb dL_octet_12 rfl hl (by decide) rfl (fun ls hl => ?_)
    refine lv_iconst (v := 1) hx hb dL_octet_13 (by decide) ?_
    exact vx_ret (W.iret (v := 1) hx hb hr (fun t ht hW => ⟨⟨1, q, rfl, Or.inl ⟨rfl, hthr, rfl⟩, by unfold sx_at; rw [ht]; exact hB⟩, hS.F ht⟩) hS.2.2 dL_octet_14)
  · unfold sx_at at hB
    rw [ht] at hB
    obtain ⟨hq9, hw⟩ := hw
    subst hq9
    refine lv_i2l (v := r9.toInt64) hx hb dL_octet_7 rfl ?_
    refine pl_last hx hb hK hB hD hS hot 1 (sg_F_l kot (by decide) (by decide)) rfl (vp_in_iff.mpr ⟨by decide, by rw [lot]; decide⟩) dL_octet_8 (fun H2 locs2 hP2 hS2 => ?_)
    rw [sg_upL kot (by decide) (by decide)] at hP2
    refine lv_goto (tgt := 15) hx hb dL_octet_9 (by decide) ?_
    refine lv_iconst (v := 0) hx hb dL_octet_15 (by decide) ?_
    exact vx_ret (W.iret (v := 0) hx hb hr (fun t ht hW => ⟨⟨0, _, rfl, Or.inr ⟨rfl, r9, hw, rfl⟩, by unfold sx_at; rw [ht]; exact hP2⟩, hS2.F ht⟩) hS2.2.2 dL_octet_16)
