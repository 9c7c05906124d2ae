/-- what a call leaves: all that holds, the reference as it was, the tape, the FRAGMENTS, the Units in use -/
def cx_W6 (h : Sh) (L : List Nat) (a0 t0 fa uu o0 : Nat) (q q' : Sg) : Prop := sx_V h L q' ∧ sx_fr h L (fun a => sx_c6 h a) q q' ∧ q'.2.2.1 a0 0 = t0 ∧ (q'.1 t0 1).toInt = (q.1 t0 1).toInt ∧ (q'.1 a0 14).toInt = (q.1 a0 14).toInt ∧ q'.2.2.1 a0 11 = uu ∧ q'.2.2.1 a0 12 = q.2.2.1 a0 12 ∧ q'.2.2.1 a0 9 = fa ∧ q'.2.2.1 a0 1 = o0
set_option maxHeartbeats 4000000 in
set_option maxRecDepth 100000 in
theorem kl6_system (l : Launch) (hlst : l.stackTraces = false) (dC : Nat → ClassId) (dI : Nat → Nat → Nat) (h : Sh) (L : List Nat) (hN : sx_nd L) (q : Sg) (hV : sx_V h L q) {a0 : Nat} (ha0 : a0 ∈ L) (ka0 : h.1 a0 = 11) {t0 : Nat} (et0 : q.2.2.1 a0 0 = t0) {tb : Nat} (etb : q.2.2.1 t0 0 = tb) {fa : Nat} (efa : q.2.2.1 a0 9 = fa) {uu : Nat} (euu : q.2.2.1 a0 11 = uu) {o0 : Nat} (eo0 : q.2.2.1 a0 1 = o0) {ob : Nat} (eob : q.2.2.1 o0 0 = ob) (n1 : Int32) (n2 : Int32) {ot : Nat} (hot : ot ∈ L) (kot : h.1 ot = 200) (lot : h.2.1 ot = 1) : CMw l dC dI h L yL_system wsL_system ({ frames := 7, cells := 1, slots := 6, locals := 104 } : Room) q [.ref a0, .int n1, .int n2, .ref ot] (fun u => cx_W6 h L a0 t0 fa uu o0 q u) := by
  intro sz
  refine vx_ofWH (cc := cL_system) (maxL := 5) (ret := (some .int)) (by decide) rfl ?_
  intro p e s m args below meth c s₁ B hml hv
  obtain ⟨rfl, hsz, hP, hK, hZ⟩ := hv
  have hx := B.exec
  have hb := B.bytes
  have hr := B.returns
  have hts := atoms_spec (ws := wsL_system) B.pre
  have hown : s.vm.findClass RL = some m.cls := findClass_of_methodNamed B.named
  have hlocks := B.notSynchronized
  subst hsz
  have hD : ∀ g, va_D (AL L s.heap.size) (va_pl L g) := AL_D hN s.heap.size
  have hS : va_S (AL L s.heap.size) s.heap s.heap [] := va_S.rf
  have hl := lv_entry ([.ref a0, .int n1, .int n2, .ref ot]) (n := 5) (Nat.le_of_ble_eq_true rfl)
  rw [lg_entry_eq]
  generalize (lg_sl ([.ref a0, .int n1, .int n2, .ref ot]) ++ List.replicate (5 - (lg_sl ([.ref a0, .int n1, .int n2, .ref ot])).length) Slot.unset).toArray = ls at hl ⊢
  have hl : lv_has ls 5 [(0, .ref a0), (1, .int n1), (2, .int n2), (3, .ref ot)] := hl
  refine lv_aload_n hx hb dL_system_0 rfl (lv_at hl 3 rfl) ?_
  refine lv_iconst (v := 0) hx hb dL_system_1 (by decide) ?_
  refine lv_aload_n hx hb dL_system_2 rfl (lv_at hl 0 rfl) ?_
  refine lv_iload_n hx hb dL_system_3 rfl (lv_at hl 1 rfl) ?_
  refine lv_iload_n hx hb dL_system_4 rfl (lv_at hl 2 rfl) ?_
  refine vx_calli (vx_runV (As := [.int n1, .int n2]) (rest := [.int 0, .ref ot]) ⟨hx, hb, hml, hown, hts⟩ (k_X11_system l hlst dC dI h L hN q hV (a0 := a0) ha0 ka0 n1 n2  s.heap.size) (cwV 2 hts gL_system_X11_system rfl rfl rfl (by decide +kernel) ⟨Nat.le_of_ble_eq_true rfl, Nat.le_of_ble_eq_true rfl⟩) ⟨fun a U g mk z => by obtain ⟨z0, z1, zP, zK, zZ⟩ := z; exact ⟨z0, z1, zP, va_K.moved (u := U) (U := U.calling g mk a) (Vm.Alike.refl U.vm) zK, zZ.calling⟩, pl_recv (x := (RX11, TX11, 16)) hK hP ha0 ka0 (by decide) rfl, fun U hU hW9 => ⟨rfl, by rw [hU], by rw [hU]; exact hP, va_K.moved hW9.alike hK, hZ.enter hU hW9 hS (fun _ z => z)⟩⟩ rfl rfl hl.1 rfl (lv_room (Nat.le_of_ble_eq_true rfl)) dL_system_5 ⟨Nat.le_of_ble_eq_true rfl, Nat.le_of_ble_eq_true rfl⟩) hS (fun a _ z => z) (fun a z => z) (fun a _ z => z) (fun E ce q9 u t H1 locs ht hvm hw hB hz1 hk1 hS hc1 hc2 hc3 => ?_) (fun r9 u t H1 locs ht hvm hw hB hz1 hk1 hS => ?_)
  · obtain ⟨hE, hB⟩ := hB
    subst hE
    unfold sx_at at hB
    rw [ht] at hB
    refine vx_catch (name := "java/util/NoSuchElementException") hown [] { startPc := 0, endPc := 10, handlerPc := 13, catchType := 13 } [] (vx_table (x := yL_system) B (hts _ List.mem_cons_self)) (fun z h9 => absurd h9 List.not_mem_nil) (by decide) (by decide) (hts (.classLink RL 13 "java/util/NoSuchElementException") (by decide +kernel)) (va_Nw.use rfl hZ.2.2.2.2.2.1.1) hc1 hc2 hc3 ?_
    refine lv_astore (lv' := [(4, .ref q9), (0, .ref a0), (1, .int n1), (2, .int n2), (3, .ref ot)]) hx hb dL_system_13 hl (by decide) rfl (fun ls hl => ?_)
    refine lv_iconst (v := 1) hx hb dL_system_15 (by decide) ?_
    exact vx_ret (W.iret (v := 1) hx hb hr (fun t ht hW => ⟨⟨1, q, rfl, ⟨hV, sx_fr.rf, et0, rfl, rfl, euu, rfl, efa, eo0⟩, by unfold sx_at; rw [ht]; exact hB⟩, hS.F ht⟩) hS.2.2 dL_system_16)
  · unfold sx_at at hB
    rw [ht] at hB
    have hw : q = u := hw
    subst hw
    refine lv_i2l (v := r9.toInt64) hx hb dL_system_8 rfl ?_
    refine pl_last hx hb hK hB hD hS hot 1 (sg_F_l kot (by decide) (by decide)) rfl (vp_in_iff.mpr ⟨by decide, by rw [lot]; decide⟩) dL_system_9 (fun H2 locs2 hP2 hS2 => ?_)
    rw [sg_upL kot (by decide) (by decide)] at hP2
    refine lv_goto (tgt := 17) hx hb dL_system_10 (by decide) ?_
    refine lv_iconst (v := 0) hx hb dL_system_17 (by decide) ?_
    exact vx_ret (W.iret (v := 0) hx hb hr (fun t ht hW => ⟨⟨0, _, rfl, ⟨hV.pL, (sx_fr.rf (q := q)).tr (sx_fr.pL (Or.inl kot)), et0, rfl, rfl, euu, rfl, efa, eo0⟩, by unfold sx_at; rw [ht]; exact hP2⟩, hS2.F ht⟩) hS2.2.2 dL_system_18)
set_option maxHeartbeats 4000000 in
set_option maxRecDepth 100000 in
theorem kl6_octet (l : Launch) (hlst : l.stackTraces = false) (dC : Nat → ClassId) (dI : Nat → Nat → Nat) (h : Sh) (L : List Nat) (hN : sx_nd L) (q : Sg) (hV : sx_V h L q) {a0 : Nat} (ha0 : a0 ∈ L) (ka0 : h.1 a0 = 11) {t0 : Nat} (et0 : q.2.2.1 a0 0 = t0) {tb : Nat} (etb : q.2.2.1 t0 0 = tb) {fa : Nat} (efa : q.2.2.1 a0 9 = fa) {uu : Nat} (euu : q.2.2.1 a0 11 = uu) {o0 : Nat} (eo0 : q.2.2.1 a0 1 = o0) {ob : Nat} (eob : q.2.2.1 o0 0 = ob) (n1 : Int32) {ot : Nat} (hot : ot ∈ L) (kot : h.1 ot = 200) (lot : h.2.1 ot = 1) : CMw l dC dI h L yL_octet wsL_octet ({ frames := 7, cells := 1, slots := 6, locals := 103 } : Room) q [.ref a0, .int n1, .ref ot] (fun u => cx_W6 h L a0 t0 fa uu o0 q u) := by
  intro sz
  refine vx_ofWH (cc := cL_octet) (maxL := 4) (ret := (some .int)) (by decide) rfl ?_
  intro p e s m args below meth c s₁ B hml hv
  obtain ⟨rfl, hsz, hP, hK, hZ⟩ := hv
  have hx := B.exec
  have hb := B.bytes
  have hr := B.returns
  have hts := atoms_spec (ws := wsL_octet) B.pre
  have hown : s.vm.findClass RL = some m.cls := findClass_of_methodNamed B.named
  have hlocks := B.notSynchronized
  subst hsz
  have hD : ∀ g, va_D (AL L s.heap.size) (va_pl L g) := AL_D hN s.heap.size
  have hS : va_S (AL L s.heap.size) s.heap s.heap [] := va_S.rf
  have hl := lv_entry ([.ref a0, .int n1, .ref ot]) (n := 4) (Nat.le_of_ble_eq_true rfl)
  rw [lg_entry_eq]
  generalize (lg_sl ([.ref a0, .int n1, .ref ot]) ++ List.replicate (4 - (lg_sl ([.ref a0, .int n1, .ref ot])).length) Slot.unset).toArray = ls at hl ⊢
  have hl : lv_has ls 4 [(0, .ref a0), (1, .int n1), (2, .ref ot)] := hl
  refine lv_aload_n hx hb dL_octet_0 rfl (lv_at hl 2 rfl) ?_
  refine lv_iconst (v := 0) hx hb dL_octet_1 (by decide) ?_
  refine lv_aload_n hx hb dL_octet_2 rfl (lv_at hl 0 rfl) ?_
  refine lv_iload_n hx hb dL_octet_3 rfl (lv_at hl 1 rfl) ?_
  refine vx_calli (vx_runV (As := [.int n1]) (rest := [.int 0, .ref ot]) ⟨hx, hb, hml, hown, hts⟩ (k_X11_octet l hlst dC dI h L hN q hV (a0 := a0) ha0 ka0 n1  s.heap.size) (cwV 1 hts gL_octet_X11_octet rfl rfl rfl (by decide +kernel) ⟨Nat.le_of_ble_eq_true rfl, Nat.le_of_ble_eq_true rfl⟩) ⟨fun a U g mk z => by obtain ⟨z0, z1, zP, zK, zZ⟩ := z; exact ⟨z0, z1, zP, va_K.moved (u := U) (U := U.calling g mk a) (Vm.Alike.refl U.vm) zK, zZ.calling⟩, pl_recv (x := (RX11, TX11, 16)) hK hP ha0 ka0 (by decide) rfl, fun U hU hW9 => ⟨rfl, by rw [hU], by rw [hU]; exact hP, va_K.moved hW9.alike hK, hZ.enter hU hW9 hS (fun _ z => z)⟩⟩ rfl rfl hl.1 rfl (lv_room (Nat.le_of_ble_eq_true rfl)) dL_octet_4 ⟨Nat.le_of_ble_eq_true rfl, Nat.le_of_ble_eq_true rfl⟩) hS (fun a _ z => z) (fun a z => z) (fun a _ z => z) (fun E ce q9 u t H1 locs ht hvm hw hB hz1 hk1 hS hc1 hc2 hc3 => ?_) (fun r9 u t H1 locs ht hvm hw hB hz1 hk1 hS => ?_)
  · obtain ⟨hE, hB⟩ := hB
    subst hE
    unfold sx_at at hB
    rw [ht] at hB
    refine vx_catch (name := "java/util/NoSuchElementException") hown [] { startPc := 0, endPc := 9, handlerPc := 12, catchType := 13 } [] (vx_table (x := yL_octet) B (hts _ List.mem_cons_self)) (fun z h9 => absurd h9 List.not_mem_nil) (by decide) (by decide) (hts (.classLink RL 13 "java/util/NoSuchElementException") (by decide +kernel)) (va_Nw.use rfl hZ.2.2.2.2.2.1.1) hc1 hc2 hc3 ?_
    refine lv_astore_n (lv' := [(3, .ref q9), (0, .ref a0), (1, .int n1), (2, .ref ot)]) hx hb dL_octet_12 rfl hl (by decide) rfl (fun ls hl => ?_)
    refine lv_iconst (v := 1) hx hb dL_octet_13 (by decide) ?_
    exact vx_ret (W.iret (v := 1) hx hb hr (fun t ht hW => ⟨⟨1, q, rfl, ⟨hV, sx_fr.rf, et0, rfl, rfl, euu, rfl, efa, eo0⟩, by unfold sx_at; rw [ht]; exact hB⟩, hS.F ht⟩) hS.2.2 dL_octet_14)
  · unfold sx_at at hB
    rw [ht] at hB
    have hw : q = u := hw
    subst hw
    refine lv_i2l (v := r9.toInt64) hx hb dL_octet_7 rfl ?_
    refine pl_last hx hb hK hB hD hS hot 1 (sg_F_l kot (by decide) (by decide)) rfl (vp_in_iff.mpr ⟨by decide, by rw [lot]; decide⟩) dL_octet_8 (fun H2 locs2 hP2 hS2 => ?_)
    rw [sg_upL kot (by decide) (by decide)] at hP2
    refine lv_goto (tgt := 15) hx hb dL_octet_9 (by decide) ?_
    refine lv_iconst (v := 0) hx hb dL_octet_15 (by decide) ?_
    exact vx_ret (W.iret (v := 0) hx hb hr (fun t ht hW => ⟨⟨0, _, rfl, ⟨hV.pL, (sx_fr.rf (q := q)).tr (sx_fr.pL (Or.inl kot)), et0, rfl, rfl, euu, rfl, efa, eo0⟩, by unfold sx_at; rw [ht]; exact hP2⟩, hS2.F ht⟩) hS2.2.2 dL_octet_16)
set_option maxHeartbeats 4000000 in
set_option maxRecDepth 100000 in
theorem kl6_line (l : Launch) (hlst : l.stackTraces = false) (dC : Nat → ClassId) (dI : Nat → Nat → Nat) (h : Sh) (L : List Nat) (hN : sx_nd L) (q : Sg) (hV : sx_V h L q) {a0 : Nat} (ha0 : a0 ∈ L) (ka0 : h.1 a0 = 11) {t0 : Nat} (et0 : q.2.2.1 a0 0 = t0) {tb : Nat} (etb : q.2.2.1 t0 0 = tb) {fa : Nat} (efa : q.2.2.1 a0 9 = fa) {uu : Nat} (euu : q.2.2.1 a0 11 = uu) {o0 : Nat} (eo0 : q.2.2.1 a0 1 = o0) {ob : Nat} (eob : q.2.2.1 o0 0 = ob) (n1 : Int32) (n2 : Int32) (n3 : Int32) {ot : Nat} (hot : ot ∈ L) (kot : h.1 ot = 200) (lot : h.2.1 ot = 1) : CMw l dC dI h L yL_line wsL_line ({ frames := 7, cells := 1, slots := 6, locals := 106 } : Room) q [.ref a0, .int n1, .int n2, .int n3, .ref ot] (fun u => cx_W6 h L a0 t0 fa uu o0 q u) := by
  intro sz
  refine vx_ofWH (cc := cL_line) (maxL := 6) (ret := (some .int)) (by decide) rfl ?_
  intro p e s m args below meth c s₁ B hml hv
  obtain ⟨rfl, hsz, hP, hK, hZ⟩ := hv
  have hx := B.exec
  have hb := B.bytes
  have hr := B.returns
  have hts := atoms_spec (ws := wsL_line) B.pre
  have hown : s.vm.findClass RL = some m.cls := findClass_of_methodNamed B.named
  have hlocks := B.notSynchronized
  subst hsz
  have hD : ∀ g, va_D (AL L s.heap.size) (va_pl L g) := AL_D hN s.heap.size
  have hS : va_S (AL L s.heap.size) s.heap s.heap [] := va_S.rf
  have hl := lv_entry ([.ref a0, .int n1, .int n2, .int n3, .ref ot]) (n := 6) (Nat.le_of_ble_eq_true rfl)
  rw [lg_entry_eq]
  generalize (lg_sl ([.ref a0, .int n1, .int n2, .int n3, .ref ot]) ++ List.replicate (6 - (lg_sl ([.ref a0, .int n1, .int n2, .int n3, .ref ot])).length) Slot.unset).toArray = ls at hl ⊢
  have hl : lv_has ls 6 [(0, .ref a0), (1, .int n1), (2, .int n2), (3, .int n3), (4, .ref ot)] := hl
  refine lv_aload hx hb dL_line_0 (lv_at hl 4 rfl) ?_
  refine lv_iconst (v := 0) hx hb dL_line_2 (by decide) ?_
  refine lv_aload_n hx hb dL_line_3 rfl (lv_at hl 0 rfl) ?_
  refine lv_iload_n hx hb dL_line_4 rfl (lv_at hl 1 rfl) ?_
  refine lv_iload_n hx hb dL_line_5 rfl (lv_at hl 2 rfl) ?_
  refine lv_iload_n hx hb dL_line_6 rfl (lv_at hl 3 rfl) ?_
  refine vx_calli (vx_runV (As := [.int n1, .int n2, .int n3]) (rest := [.int 0, .ref ot]) ⟨hx, hb, hml, hown, hts⟩ (k_X11_line l hlst dC dI h L hN q hV (a0 := a0) ha0 ka0 n1 n2 n3  s.heap.size) (cwV 3 hts gL_line_X11_line rfl rfl rfl (by decide +kernel) ⟨Nat.le_of_ble_eq_true rfl, Nat.le_of_ble_eq_true rfl⟩) ⟨fun a U g mk z => by obtain ⟨z0, z1, zP, zK, zZ⟩ := z; exact ⟨z0, z1, zP, va_K.moved (u := U) (U := U.calling g mk a) (Vm.Alike.refl U.vm) zK, zZ.calling⟩, pl_recv (x := (RX11, TX11, 16)) hK hP ha0 ka0 (by decide) rfl, fun U hU hW9 => ⟨rfl, by rw [hU], by rw [hU]; exact hP, va_K.moved hW9.alike hK, hZ.enter hU hW9 hS (fun _ z => z)⟩⟩ rfl rfl hl.1 rfl (lv_room (Nat.le_of_ble_eq_true rfl)) dL_line_7 ⟨Nat.le_of_ble_eq_true rfl, Nat.le_of_ble_eq_true rfl⟩) hS (fun a _ z => z) (fun a z => z) (fun a _ z => z) (fun E ce q9 u t H1 locs ht hvm hw hB hz1 hk1 hS hc1 hc2 hc3 => ?_) (fun r9 u t H1 locs ht hvm hw hB hz1 hk1 hS => ?_)
  · obtain ⟨hE, hB⟩ := hB
    subst hE
    unfold sx_at at hB
    rw [ht] at hB
    refine vx_catch (name := "java/util/NoSuchElementException") hown [] { startPc := 0, endPc := 12, handlerPc := 15, catchType := 13 } [] (vx_table (x := yL_line) B (hts _ List.mem_cons_self)) (fun z h9 => absurd h9 List.not_mem_nil) (by decide) (by decide) (hts (.classLink RL 13 "java/util/NoSuchElementException") (by decide +kernel)) (va_Nw.use rfl hZ.2.2.2.2.2.1.1) hc1 hc2 hc3 ?_
    refine lv_astore (lv' := [(5, .ref q9), (0, .ref a0), (1, .int n1), (2, .int n2), (3, .int n3), (4, .ref ot)]) hx hb dL_line_15 hl (by decide) rfl (fun ls hl => ?_)
    refine lv_iconst (v := 1) hx hb dL_line_17 (by decide) ?_
    exact vx_ret (W.iret (v := 1) hx hb hr (fun t ht hW => ⟨⟨1, q, rfl, ⟨hV, sx_fr.rf, et0, rfl, rfl, euu, rfl, efa, eo0⟩, by unfold sx_at; rw [ht]; exact hB⟩, hS.F ht⟩) hS.2.2 dL_line_18)
  · unfold sx_at at hB
    rw [ht] at hB
    have hw : q = u := hw
    subst hw
    refine lv_i2l (v := r9.toInt64) hx hb dL_line_10 rfl ?_
    refine pl_last hx hb hK hB hD hS hot 1 (sg_F_l kot (by decide) (by decide)) rfl (vp_in_iff.mpr ⟨by decide, by rw [lot]; decide⟩) dL_line_11 (fun H2 locs2 hP2 hS2 => ?_)
    rw [sg_upL kot (by decide) (by decide)] at hP2
    refine lv_goto (tgt := 19) hx hb dL_line_12 (by decide) ?_
    refine lv_iconst (v := 0) hx hb dL_line_19 (by decide) ?_
    exact vx_ret (W.iret (v := 0) hx hb hr (fun t ht hW => ⟨⟨0, _, rfl, ⟨hV.pL, (sx_fr.rf (q := q)).tr (sx_fr.pL (Or.inl kot)), et0, rfl, rfl, euu, rfl, efa, eo0⟩, by unfold sx_at; rw [ht]; exact hP2⟩, hS2.F ht⟩) hS2.2.2 dL_line_20)
set_option maxHeartbeats 4000000 in
set_option maxRecDepth 100000 in
theorem kl6_bound (l : Launch) (hlst : l.stackTraces = false) (dC : Nat → ClassId) (dI : Nat → Nat → Nat) (h : Sh) (L : List Nat) (hN : sx_nd L) (q : Sg) (hV : sx_V h L q) {a0 : Nat} (ha0 : a0 ∈ L) (ka0 : h.1 a0 = 11) {t0 : Nat} (et0 : q.2.2.1 a0 0 = t0) {tb : Nat} (etb : q.2.2.1 t0 0 = tb) {fa : Nat} (efa : q.2.2.1 a0 9 = fa) {uu : Nat} (euu : q.2.2.1 a0 11 = uu) {o0 : Nat} (eo0 : q.2.2.1 a0 1 = o0) {ob : Nat} (eob : q.2.2.1 o0 0 = ob) (n1 : Int32) (n2 : Int32) (n3 : Int32) {ot : Nat} (hot : ot ∈ L) (kot : h.1 ot = 200) (lot : h.2.1 ot = 1) : CMw l dC dI h L yL_bound wsL_bound ({ frames := 11, cells := 1, slots := 6, locals := 267 } : Room) q [.ref a0, .int n1, .int n2, .int n3, .ref ot] (fun u => cx_W6 h L a0 t0 fa uu o0 q u) := by
  intro sz
  refine vx_ofWH (cc := cL_bound) (maxL := 6) (ret := (some .int)) (by decide) rfl ?_
  intro p e s m args below meth c s₁ B hml hv
  obtain ⟨rfl, hsz, hP, hK, hZ⟩ := hv
  have hx := B.exec
  have hb := B.bytes
  have hr := B.returns
  have hts := atoms_spec (ws := wsL_bound) B.pre
  have hown : s.vm.findClass RL = some m.cls := findClass_of_methodNamed B.named
  have hlocks := B.notSynchronized
  subst hsz
  have hD : ∀ g, va_D (AL L s.heap.size) (va_pl L g) := AL_D hN s.heap.size
  have hS : va_S (AL L s.heap.size) s.heap s.heap [] := va_S.rf
  have hl := lv_entry ([.ref a0, .int n1, .int n2, .int n3, .ref ot]) (n := 6) (Nat.le_of_ble_eq_true rfl)
  rw [lg_entry_eq]
  generalize (lg_sl ([.ref a0, .int n1, .int n2, .int n3, .ref ot]) ++ List.replicate (6 - (lg_sl ([.ref a0, .int n1, .int n2, .int n3, .ref ot])).length) Slot.unset).toArray = ls at hl ⊢
  have hl : lv_has ls 6 [(0, .ref a0), (1, .int n1), (2, .int n2), (3, .int n3), (4, .ref ot)] := hl
  refine lv_aload hx hb dL_bound_0 (lv_at hl 4 rfl) ?_
  refine lv_iconst (v := 0) hx hb dL_bound_2 (by decide) ?_
  refine lv_aload_n hx hb dL_bound_3 rfl (lv_at hl 0 rfl) ?_
  refine lv_iload_n hx hb dL_bound_4 rfl (lv_at hl 1 rfl) ?_
  refine lv_iload_n hx hb dL_bound_5 rfl (lv_at hl 2 rfl) ?_
  refine lv_iload_n hx hb dL_bound_6 rfl (lv_at hl 3 rfl) ?_
  refine vx_calli (vx_runV (As := [.int n1, .int n2, .int n3]) (rest := [.int 0, .ref ot]) ⟨hx, hb, hml, hown, hts⟩ (k_X11_bound_c l hlst dC dI h L hN q hV (a0 := a0) ha0 ka0 n1 n2 n3 (t0 := t0) et0 (tb := tb) etb (fa := fa) efa (uu := uu) euu (o0 := o0) eo0 (ob := ob) eob s.heap.size) (cwV 3 hts gL_bound_X11_bound rfl rfl rfl (by decide +kernel) ⟨Nat.le_of_ble_eq_true rfl, Nat.le_of_ble_eq_true rfl⟩) ⟨fun a U g mk z => by obtain ⟨z0, z1, zP, zK, zZ⟩ := z; exact ⟨z0, z1, zP, va_K.moved (u := U) (U := U.calling g mk a) (Vm.Alike.refl U.vm) zK, zZ.calling⟩, pl_recv (x := (RX11, TX11, 16)) hK hP ha0 ka0 (by decide) rfl, fun U hU hW9 => ⟨rfl, by rw [hU], by rw [hU]; exact hP, va_K.moved hW9.alike hK, hZ.enter hU hW9 hS (fun _ z => z)⟩⟩ rfl rfl hl.1 rfl (lv_room (Nat.le_of_ble_eq_true rfl)) dL_bound_7 ⟨Nat.le_of_ble_eq_true rfl, Nat.le_of_ble_eq_true rfl⟩) hS (fun a _ z => z) (fun a z => z) (fun a _ z => z) (fun E ce q9 u t H1 locs ht hvm hw hB hz1 hk1 hS hc1 hc2 hc3 => ?_) (fun r9 u t H1 locs ht hvm hw hB hz1 hk1 hS => ?_)
  · obtain ⟨hE, hB⟩ := hB
    subst hE
    unfold sx_at at hB
    rw [ht] at hB
    refine vx_catch (name := "java/util/NoSuchElementException") hown [] { startPc := 0, endPc := 12, handlerPc := 15, catchType := 13 } [] (vx_table (x := yL_bound) B (hts _ List.mem_cons_self)) (fun z h9 => absurd h9 List.not_mem_nil) (by decide) (by decide) (hts (.classLink RL 13 "java/util/NoSuchElementException") (by decide +kernel)) (va_Nw.use rfl hZ.2.2.2.2.2.1.1) hc1 hc2 hc3 ?_
    refine lv_astore (lv' := [(5, .ref q9), (0, .ref a0), (1, .int n1), (2, .int n2), (3, .int n3), (4, .ref ot)]) hx hb dL_bound_15 hl (by decide) rfl (fun ls hl => ?_)
    refine lv_iconst (v := 1) hx hb dL_bound_17 (by decide) ?_
    exact vx_ret (W.iret (v := 1) hx hb hr (fun t ht hW => ⟨⟨1, q, rfl, ⟨hV, sx_fr.rf, et0, rfl, rfl, euu, rfl, efa, eo0⟩, by unfold sx_at; rw [ht]; exact hB⟩, hS.F ht⟩) hS.2.2 dL_bound_18)
  · unfold sx_at at hB
    rw [ht] at hB
    obtain ⟨hV2, hF2, h5, h6, h7, h8, h9, h10, h11⟩ := hw
    refine lv_i2l (v := r9.toInt64) hx hb dL_bound_10 rfl ?_
    refine pl_last hx hb hK hB hD hS hot 1 (sg_F_l kot (by decide) (by decide)) rfl (vp_in_iff.mpr ⟨by decide, by rw [lot]; decide⟩) dL_bound_11 (fun H2 locs2 hP2 hS2 => ?_)
    rw [sg_upL kot (by decide) (by decide)] at hP2
    refine lv_goto (tgt := 19) hx hb dL_bound_12 (by decide) ?_
    refine lv_iconst (v := 0) hx hb dL_bound_19 (by decide) ?_
    exact vx_ret (W.iret (v := 0) hx hb hr (fun t ht hW => ⟨⟨0, _, rfl, ⟨hV2.pL, hF2.tr (sx_fr.pL (Or.inl kot)), h5, h6, h7, h8, h9, h10, h11⟩, by unfold sx_at; rw [ht]; exact hP2⟩, hS2.F ht⟩) hS2.2.2 dL_bound_20)
set_option maxHeartbeats 4000000 in
set_option maxRecDepth 100000 in
theorem kl6_digit (l : Launch) (hlst : l.stackTraces = false) (dC : Nat → ClassId) (dI : Nat → Nat → Nat) (h : Sh) (L : List Nat) (hN : sx_nd L) (q : Sg) (hV : sx_V h L q) {a0 : Nat} (ha0 : a0 ∈ L) (ka0 : h.1 a0 = 11) {t0 : Nat} (et0 : q.2.2.1 a0 0 = t0) {tb : Nat} (etb : q.2.2.1 t0 0 = tb) {fa : Nat} (efa : q.2.2.1 a0 9 = fa) {uu : Nat} (euu : q.2.2.1 a0 11 = uu) {o0 : Nat} (eo0 : q.2.2.1 a0 1 = o0) {ob : Nat} (eob : q.2.2.1 o0 0 = ob) (n1 : Int32) (n2 : Int32) {ot : Nat} (hot : ot ∈ L) (kot : h.1 ot = 200) (lot : h.2.1 ot = 1) : CMw l dC dI h L yL_digit wsL_digit ({ frames := 11, cells := 1, slots := 6, locals := 266 } : Room) q [.ref a0, .int n1, .int n2, .ref ot] (fun u => cx_W6 h L a0 t0 fa uu o0 q u) := by
  intro sz
  refine vx_ofWH (cc := cL_digit) (maxL := 5) (ret := (some .int)) (by decide) rfl ?_
  intro p e s m args below meth c s₁ B hml hv
  obtain ⟨rfl, hsz, hP, hK, hZ⟩ := hv
  have hx := B.exec
  have hb := B.bytes
  have hr := B.returns
  have hts := atoms_spec (ws := wsL_digit) B.pre
  have hown : s.vm.findClass RL = some m.cls := findClass_of_methodNamed B.named
  have hlocks := B.notSynchronized
  subst hsz
  have hD : ∀ g, va_D (AL L s.heap.size) (va_pl L g) := AL_D hN s.heap.size
  have hS : va_S (AL L s.heap.size) s.heap s.heap [] := va_S.rf
  have hl := lv_entry ([.ref a0, .int n1, .int n2, .ref ot]) (n := 5) (Nat.le_of_ble_eq_true rfl)
  rw [lg_entry_eq]
  generalize (lg_sl ([.ref a0, .int n1, .int n2, .ref ot]) ++ List.replicate (5 - (lg_sl ([.ref a0, .int n1, .int n2, .ref ot])).length) Slot.unset).toArray = ls at hl ⊢
  have hl : lv_has ls 5 [(0, .ref a0), (1, .int n1), (2, .int n2), (3, .ref ot)] := hl
  refine lv_aload_n hx hb dL_digit_0 rfl (lv_at hl 3 rfl) ?_
  refine lv_iconst (v := 0) hx hb dL_digit_1 (by decide) ?_
  refine lv_aload_n hx hb dL_digit_2 rfl (lv_at hl 0 rfl) ?_
  refine lv_iload_n hx hb dL_digit_3 rfl (lv_at hl 1 rfl) ?_
  refine lv_iload_n hx hb dL_digit_4 rfl (lv_at hl 2 rfl) ?_
  refine vx_calli (vx_runV (As := [.int n1, .int n2]) (rest := [.int 0, .ref ot]) ⟨hx, hb, hml, hown, hts⟩ (k_X11_digit_c l hlst dC dI h L hN q hV (a0 := a0) ha0 ka0 n1 n2 (t0 := t0) et0 (tb := tb) etb (fa := fa) efa (uu := uu) euu (o0 := o0) eo0 (ob := ob) eob s.heap.size) (cwV 2 hts gL_digit_X11_digit rfl rfl rfl (by decide +kernel) ⟨Nat.le_of_ble_eq_true rfl, Nat.le_of_ble_eq_true rfl⟩) ⟨fun a U g mk z => by obtain ⟨z0, z1, zP, zK, zZ⟩ := z; exact ⟨z0, z1, zP, va_K.moved (u := U) (U := U.calling g mk a) (Vm.Alike.refl U.vm) zK, zZ.calling⟩, pl_recv (x := (RX11, TX11, 16)) hK hP ha0 ka0 (by decide) rfl, fun U hU hW9 => ⟨rfl, by rw [hU], by rw [hU]; exact hP, va_K.moved hW9.alike hK, hZ.enter hU hW9 hS (fun _ z => z)⟩⟩ rfl rfl hl.1 rfl (lv_room (Nat.le_of_ble_eq_true rfl)) dL_digit_5 ⟨Nat.le_of_ble_eq_true rfl, Nat.le_of_ble_eq_true rfl⟩) hS (fun a _ z => z) (fun a z => z) (fun a _ z => z) (fun E ce q9 u t H1 locs ht hvm hw hB hz1 hk1 hS hc1 hc2 hc3 => ?_) (fun r9 u t H1 locs ht hvm hw hB hz1 hk1 hS => ?_)
  · obtain ⟨hE, hB⟩ := hB
    subst hE
    unfold sx_at at hB
    rw [ht] at hB
    refine vx_catch (name := "java/util/NoSuchElementException") hown [] { startPc := 0, endPc := 10, handlerPc := 13, catchType := 13 } [] (vx_table (x := yL_digit) B (hts _ List.mem_cons_self)) (fun z h9 => absurd h9 List.not_mem_nil) (by decide) (by decide) (hts (.classLink RL 13 "java/util/NoSuchElementException") (by decide +kernel)) (va_Nw.use rfl hZ.2.2.2.2.2.1.1) hc1 hc2 hc3 ?_
    refine lv_astore (lv' := [(4, .ref q9), (0, .ref a0), (1, .int n1), (2, .int n2), (3, .ref ot)]) hx hb dL_digit_13 hl (by decide) rfl (fun ls hl => ?_)
    refine lv_iconst (v := 1) hx hb dL_digit_15 (by decide) ?_
    exact vx_ret (W.iret (v := 1) hx hb hr (fun t ht hW => ⟨⟨1, q, rfl, ⟨hV, sx_fr.rf, et0, rfl, rfl, euu, rfl, efa, eo0⟩, by unfold sx_at; rw [ht]; exact hB⟩, hS.F ht⟩) hS.2.2 dL_digit_16)
  · unfold sx_at at hB
    rw [ht] at hB
    obtain ⟨hV2, hF2, h5, h6, h7, h8, h9, h10, h11⟩ := hw
    refine lv_i2l (v := r9.toInt64) hx hb dL_digit_8 rfl ?_
    refine pl_last hx hb hK hB hD hS hot 1 (sg_F_l kot (by decide) (by decide)) rfl (vp_in_iff.mpr ⟨by decide, by rw [lot]; decide⟩) dL_digit_9 (fun H2 locs2 hP2 hS2 => ?_)
    rw [sg_upL kot (by decide) (by decide)] at hP2
    refine lv_goto (tgt := 17) hx hb dL_digit_10 (by decide) ?_
    refine lv_iconst (v := 0) hx hb dL_digit_17 (by decide) ?_
    exact vx_ret (W.iret (v := 0) hx hb hr (fun t ht hW => ⟨⟨0, _, rfl, ⟨hV2.pL, hF2.tr (sx_fr.pL (Or.inl kot)), h5, h6, h7, h8, h9, h10, h11⟩, by unfold sx_at; rw [ht]; exact hP2⟩, hS2.F ht⟩) hS2.2.2 dL_digit_18)
