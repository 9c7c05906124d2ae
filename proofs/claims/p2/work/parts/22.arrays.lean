theorem zx_ix {i : Int32} {n : Nat} (hi : vp_in i n) : i.toNatClampNeg < n := Nat.not_le.mp fun z => hi (Or.inr z)
theorem zx_add {x y : Int32} (h1 : -2147483648 ≤ x.toInt + y.toInt) (h2 : x.toInt + y.toInt < 2147483648) : (x + y).toInt = x.toInt + y.toInt := by
  rw [Int32.toInt_add, Int.bmod_eq_of_le (by omega) (by omega)]
theorem zx_sub {x y : Int32} (h1 : -2147483648 ≤ x.toInt - y.toInt) (h2 : x.toInt - y.toInt < 2147483648) : (x - y).toInt = x.toInt - y.toInt := by
  rw [Int32.toInt_sub, Int.bmod_eq_of_le (by omega) (by omega)]
theorem zx_mul {x y : Int32} (h1 : -2147483648 ≤ x.toInt * y.toInt) (h2 : x.toInt * y.toInt < 2147483648) : (x * y).toInt = x.toInt * y.toInt := by
  rw [Int32.toInt_mul, Int.bmod_eq_of_le (by omega) (by omega)]
theorem zx_upd {g : Nat → Int32} {i : Nat} {v : Int32} {lo hi : Int} (hg : ∀ j, sx_in (g j) lo hi) (hv : sx_in v lo hi) : ∀ j, sx_in (upd g i v j) lo hi := by
  intro j
  unfold upd
  split
  · exact hv
  · exact hg j
theorem iq_X9_isFull_X9 : ∀ w ∈ wsX90, w ∈ wsX9_isFull := fun _ h => List.mem_cons_of_mem _ (List.mem_append_right _ h)
set_option maxHeartbeats 4000000 in
set_option maxRecDepth 100000 in
theorem k_X9_isFull (l : Launch) (dC : Nat → ClassId) (dI : Nat → Nat → Nat) (h : Sh) (L : List Nat) (hN : sx_nd L) (q : Sg) (hV : sx_V h L q) {a0 : Nat} (ha0 : a0 ∈ L) (ka0 : h.1 a0 = 9)  : CMi l dC dI h L yX9_isFull wsX9_isFull ({ frames := 0, cells := 0, slots := 0, locals := 0 } : Room) q [.ref a0] (fun r q' => sx_V h L q' ∧ sx_fr L (fun a => False) q q' ∧ (r = 0 ∨ r = 1)) := by
  intro sz
  refine Met.ofW (cc := cX9_isFull) (maxL := 1) (ret := (some .boolean)) (by decide) rfl ?_
  intro p e s m args below meth c s₁ B hml hv
  obtain ⟨rfl, hsz, hP, hK⟩ := hv
  have hx := B.exec
  have hb := B.bytes
  have hr := B.returns
  have hts := atoms_spec (ws := wsX9_isFull) B.pre
  have hown : s.vm.findClass RX9 = some m.cls := findClass_of_methodNamed B.named
  have hlocks := B.notSynchronized
  subst hsz
  have hD : ∀ g, va_D (AL L s.heap.size) (va_pl L g) := AL_D hN s.heap.size
  have hS : va_S (AL L s.heap.size) s.heap s.heap [] := va_S.rf
  have hF : sx_fr L (fun a => False) q q := sx_fr.rf
  have hl := lv_entry ([.ref a0]) (n := 1) (Nat.le_of_ble_eq_true rfl)
  rw [lg_entry_eq]
  generalize (lg_sl ([.ref a0]) ++ List.replicate (1 - (lg_sl ([.ref a0])).length) Slot.unset).toArray = ls at hl ⊢
  have hl : lv_has ls 1 [(0, .ref a0)] := hl
  refine lv_aload_n hx hb dX9_isFull_0 rfl (lv_at hl 0 rfl) ?_
  refine pl_get (D := (dC, dI)) (v := .int (q.1 a0 6)) (C := RX9) (T := TX9) (N := 7) hx hb hts iq_X9_isFull_X9 hown hK hP ha0 (sg_F_o ka0 (by decide)) rfl 6 (by decide) (hts (.fieldLink RX9 31 "ClayAccounts$Units" "systemCount" "I") (by decide +kernel)) (fun _ h9 => h9) (sg_fs_at (by decide)) dX9_isFull_1 ?_
  have g_1 := hV.int ha0 6
  rw [ka0] at g_1
  have g_1 : sx_in (q.1 a0 6) 0 3 := g_1
  unfold sx_in at g_1
  refine lv_iconst (v := 1) hx hb dX9_isFull_4 (by decide) ?_
  refine lv_icmp_lt (tgt := 23) hx hb dX9_isFull_5 (by decide) (fun c_2 => ?_) (fun c_2 => ?_)
  · have tc_2 : (q.1 a0 6).toInt < 1 := zx_lt.mp c_2
    refine lv_iconst (v := 1) hx hb dX9_isFull_23 (by decide) ?_
    refine lv_goto (tgt := 28) hx hb dX9_isFull_24 (by decide) ?_
    exact W.zret (v := 1) hx hb hr rfl (fun t ht hW => ⟨⟨1, q, rfl, ⟨hV, hF, by first | exact Or.inl rfl | exact Or.inr rfl | assumption⟩, by unfold sx_at; rw [ht]; exact hP⟩, hS.F ht⟩) hS.2.2 dX9_isFull_28
  · have tc_2 : ¬ (q.1 a0 6).toInt < 1 := fun z => c_2 (zx_lt.mpr z)
    refine lv_aload_n hx hb dX9_isFull_8 rfl (lv_at hl 0 rfl) ?_
    refine pl_get (D := (dC, dI)) (v := .ref (q.2.2.1 a0 1)) (C := RX9) (T := TX9) (N := 7) hx hb hts iq_X9_isFull_X9 hown hK hP ha0 (sg_F_o ka0 (by decide)) rfl 1 (by decide) (hts (.fieldLink RX9 15 "ClayAccounts$Units" "unitCounts" "[I") (by decide +kernel)) (fun _ h9 => h9) (sg_fs_at (by decide)) dX9_isFull_9 ?_
    obtain ⟨ha_3, ka_3, na_3⟩ := hV.ref (k := 1) ha0 (by rw [ka0]; decide)
    rw [ka0] at ka_3 na_3
    have ka_3 : h.1 (q.2.2.1 a0 1) = 101 := ka_3
    have l_4 : h.2.1 (q.2.2.1 a0 1) = 3 := na_3 (by decide)
    refine lv_aload_n hx hb dX9_isFull_12 rfl (lv_at hl 0 rfl) ?_
    refine pl_get (D := (dC, dI)) (v := .int (q.1 a0 6)) (C := RX9) (T := TX9) (N := 7) hx hb hts iq_X9_isFull_X9 hown hK hP ha0 (sg_F_o ka0 (by decide)) rfl 6 (by decide) (hts (.fieldLink RX9 31 "ClayAccounts$Units" "systemCount" "I") (by decide +kernel)) (fun _ h9 => h9) (sg_fs_at (by decide)) dX9_isFull_13 ?_
    have g_5 := hV.int ha0 6
    rw [ka0] at g_5
    have g_5 : sx_in (q.1 a0 6) 0 3 := g_5
    unfold sx_in at g_5
    refine lv_iconst (v := 1) hx hb dX9_isFull_16 (by decide) ?_
    refine lv_isub hx hb dX9_isFull_17 ?_
    refine lv_topi (fun v_6 ev_6 => ?_)
    have tv_6 : v_6.toInt = (q.1 a0 6).toInt - 1 := by rw [ev_6]; exact zx_sub (show (-2147483648 : Int) ≤ (q.1 a0 6).toInt - 1 by omega) (show (q.1 a0 6).toInt - 1 < (2147483648 : Int) by omega)
    refine pl_iald hx hb hK hP ha_3 0 (sg_F_i ka_3 (by decide) (by decide)) rfl (vp_in_iff.mpr ⟨by omega, by omega⟩) dX9_isFull_18 ?_
    have g_7 := hV.cnt ha_3 ka_3 ((v_6 : Int32).toNatClampNeg)
    unfold sx_in at g_7
    refine lv_iconst (v := 5) hx hb dX9_isFull_19 (by decide) ?_
    refine lv_icmp_lt (tgt := 27) hx hb dX9_isFull_20 (by decide) (fun c_8 => ?_) (fun c_8 => ?_)
    · have tc_8 : (q.2.2.2.1 (q.2.2.1 a0 1) ((v_6 : Int32).toNatClampNeg)).toInt < 5 := zx_lt.mp c_8
      refine lv_iconst (v := 0) hx hb dX9_isFull_27 (by decide) ?_
      exact W.zret (v := 0) hx hb hr rfl (fun t ht hW => ⟨⟨0, q, rfl, ⟨hV, hF, by first | exact Or.inl rfl | exact Or.inr rfl | assumption⟩, by unfold sx_at; rw [ht]; exact hP⟩, hS.F ht⟩) hS.2.2 dX9_isFull_28
    · have tc_8 : ¬ (q.2.2.2.1 (q.2.2.1 a0 1) ((v_6 : Int32).toNatClampNeg)).toInt < 5 := fun z => c_8 (zx_lt.mpr z)
      refine lv_iconst (v := 1) hx hb dX9_isFull_23 (by decide) ?_
      refine lv_goto (tgt := 28) hx hb dX9_isFull_24 (by decide) ?_
      exact W.zret (v := 1) hx hb hr rfl (fun t ht hW => ⟨⟨1, q, rfl, ⟨hV, hF, by first | exact Or.inl rfl | exact Or.inr rfl | assumption⟩, by unfold sx_at; rw [ht]; exact hP⟩, hS.F ht⟩) hS.2.2 dX9_isFull_28
theorem iq_X9_addSystem_X9 : ∀ w ∈ wsX90, w ∈ wsX9_addSystem := fun _ h => List.mem_cons_of_mem _ (List.mem_append_right _ h)
set_option maxHeartbeats 4000000 in
set_option maxRecDepth 100000 in
theorem k_X9_addSystem (l : Launch) (dC : Nat → ClassId) (dI : Nat → Nat → Nat) (h : Sh) (L : List Nat) (hN : sx_nd L) (q : Sg) (hV : sx_V h L q) {a0 : Nat} (ha0 : a0 ∈ L) (ka0 : h.1 a0 = 9) (n1 : Int64)  : CMv l dC dI h L yX9_addSystem wsX9_addSystem ({ frames := 0, cells := 0, slots := 0, locals := 0 } : Room) q [.ref a0, .long n1] (fun q' => sx_V h L q' ∧ sx_fr L (fun a => h.1 a = 9) q q') := by
  intro sz
  refine Met.ofW (cc := cX9_addSystem) (maxL := 3) (ret := none) (by decide) rfl ?_
  intro p e s m args below meth c s₁ B hml hv
  obtain ⟨rfl, hsz, hP, hK⟩ := hv
  have hx := B.exec
  have hb := B.bytes
  have hr := B.returns
  have hts := atoms_spec (ws := wsX9_addSystem) B.pre
  have hown : s.vm.findClass RX9 = some m.cls := findClass_of_methodNamed B.named
  have hlocks := B.notSynchronized
  subst hsz
  have hD : ∀ g, va_D (AL L s.heap.size) (va_pl L g) := AL_D hN s.heap.size
  have hS : va_S (AL L s.heap.size) s.heap s.heap [] := va_S.rf
  have hF : sx_fr L (fun a => h.1 a = 9) q q := sx_fr.rf
  have hl := lv_entry ([.ref a0, .long n1]) (n := 3) (Nat.le_of_ble_eq_true rfl)
  rw [lg_entry_eq]
  generalize (lg_sl ([.ref a0, .long n1]) ++ List.replicate (3 - (lg_sl ([.ref a0, .long n1])).length) Slot.unset).toArray = ls at hl ⊢
  have hl : lv_has ls 3 [(0, .ref a0), (1, .long n1)] := hl
  refine lv_aload_n hx hb dX9_addSystem_0 rfl (lv_at hl 0 rfl) ?_
  refine pl_get (D := (dC, dI)) (v := .int (q.1 a0 6)) (C := RX9) (T := TX9) (N := 7) hx hb hts iq_X9_addSystem_X9 hown hK hP ha0 (sg_F_o ka0 (by decide)) rfl 6 (by decide) (hts (.fieldLink RX9 31 "ClayAccounts$Units" "systemCount" "I") (by decide +kernel)) (fun _ h9 => h9) (sg_fs_at (by decide)) dX9_addSystem_1 ?_
  have g_1 := hV.int ha0 6
  rw [ka0] at g_1
  have g_1 : sx_in (q.1 a0 6) 0 3 := g_1
  unfold sx_in at g_1
  refine lv_iconst (v := 3) hx hb dX9_addSystem_4 (by decide) ?_
  refine lv_icmp_ge (tgt := 28) hx hb dX9_addSystem_5 (by decide) (fun c_2 => ?_) (fun c_2 => ?_)
  · have tc_2 : 3 ≤ (q.1 a0 6).toInt := zx_le.mp c_2
    exact W.vret hx hb hr (fun t ht hW => ⟨⟨q, rfl, ⟨hV, hF⟩, by unfold sx_at; rw [ht]; exact hP⟩, hS.F ht⟩) hS.2.2 dX9_addSystem_28
  · have tc_2 : ¬ 3 ≤ (q.1 a0 6).toInt := fun z => c_2 (zx_le.mpr z)
    refine lv_aload_n hx hb dX9_addSystem_8 rfl (lv_at hl 0 rfl) ?_
    refine pl_get (D := (dC, dI)) (v := .ref (q.2.2.1 a0 0)) (C := RX9) (T := TX9) (N := 7) hx hb hts iq_X9_addSystem_X9 hown hK hP ha0 (sg_F_o ka0 (by decide)) rfl 0 (by decide) (hts (.fieldLink RX9 9 "ClayAccounts$Units" "systemNames" "[J") (by decide +kernel)) (fun _ h9 => h9) (sg_fs_at (by decide)) dX9_addSystem_9 ?_
    obtain ⟨ha_3, ka_3, na_3⟩ := hV.ref (k := 0) ha0 (by rw [ka0]; decide)
    rw [ka0] at ka_3 na_3
    have ka_3 : h.1 (q.2.2.1 a0 0) = 200 := ka_3
    have l_4 : h.2.1 (q.2.2.1 a0 0) = 3 := na_3 (by decide)
    refine lv_aload_n hx hb dX9_addSystem_12 rfl (lv_at hl 0 rfl) ?_
    refine pl_get (D := (dC, dI)) (v := .int (q.1 a0 6)) (C := RX9) (T := TX9) (N := 7) hx hb hts iq_X9_addSystem_X9 hown hK hP ha0 (sg_F_o ka0 (by decide)) rfl 6 (by decide) (hts (.fieldLink RX9 31 "ClayAccounts$Units" "systemCount" "I") (by decide +kernel)) (fun _ h9 => h9) (sg_fs_at (by decide)) dX9_addSystem_13 ?_
    have g_5 := hV.int ha0 6
    rw [ka0] at g_5
    have g_5 : sx_in (q.1 a0 6) 0 3 := g_5
    unfold sx_in at g_5
    refine lv_lload_n hx hb dX9_addSystem_16 rfl (lv_at hl 1 rfl) ?_
    refine pl_last hx hb hK hP hD hS ha_3 1 (sg_F_l ka_3 (by decide) (by decide)) rfl (vp_in_iff.mpr ⟨by omega, by omega⟩) dX9_addSystem_17 (fun H locs hP hS => ?_)
    rw [sg_upL ka_3 (by decide) (by decide)] at hP
    obtain ⟨g_6, eg_6⟩ : ∃ z, z = vp_updL (q.2.2.2.2 (q.2.2.1 a0 0)) ((q.1 a0 6) : Int32).toNatClampNeg n1 := ⟨_, rfl⟩
    rw [← eg_6] at hP
    have hV : sx_V h L (sg_pL q (q.2.2.1 a0 0) g_6) := hV.pL
    have hF : sx_fr L (fun a => h.1 a = 9) q (sg_pL q (q.2.2.1 a0 0) g_6) := hF.tr (sx_fr.pL)
    refine lv_aload_n hx hb dX9_addSystem_18 rfl (lv_at hl 0 rfl) ?_
    refine lv_dup hx hb dX9_addSystem_19 rfl ?_
    refine pl_get (D := (dC, dI)) (v := .int (q.1 a0 6)) (C := RX9) (T := TX9) (N := 7) hx hb hts iq_X9_addSystem_X9 hown hK hP ha0 (sg_F_o ka0 (by decide)) rfl 6 (by decide) (hts (.fieldLink RX9 31 "ClayAccounts$Units" "systemCount" "I") (by decide +kernel)) (fun _ h9 => h9) (sg_fs_at (by decide)) dX9_addSystem_20 ?_
    have g_7 := hV.int ha0 6
    rw [ka0] at g_7
    have g_7 : sx_in (q.1 a0 6) 0 3 := g_7
    unfold sx_in at g_7
    refine lv_iconst (v := 1) hx hb dX9_addSystem_23 (by decide) ?_
    refine lv_iadd hx hb dX9_addSystem_24 ?_
    refine lv_topi (fun v_8 ev_8 => ?_)
    refine pl_put (D := (dC, dI)) (ty := .int) (v := .int v_8) (C := RX9) (T := TX9) (N := 7) hx hb hts iq_X9_addSystem_X9 tyX9 tyX9_ok nmX9 hown hK hP hD hS ha0 (sg_F_o ka0 (by decide)) rfl 6 (by decide) (hts (.fieldLink RX9 31 "ClayAccounts$Units" "systemCount" "I") (by decide +kernel)) (fun _ h9 => h9) rfl (by decide +kernel) rfl rfl (by rw [sg_fs_len]; decide) dX9_addSystem_25 (fun H locs hP hS => ?_)
    rw [sg_upI ka0 (by decide) (by decide) (Or.inl rfl)] at hP
    have tv_8 : v_8.toInt = (q.1 a0 6).toInt + 1 := by rw [ev_8]; exact zx_add (show (-2147483648 : Int) ≤ (q.1 a0 6).toInt + 1 by omega) (show (q.1 a0 6).toInt + 1 < (2147483648 : Int) by omega)
    obtain ⟨q_9, eq_9⟩ : ∃ z, z = sg_pI (sg_pL q (q.2.2.1 a0 0) g_6) a0 6 v_8 := ⟨_, rfl⟩
    rw [← eq_9] at hP
    have hV : sx_V h L q_9 := by rw [eq_9]; exact hV.pI (by rw [ka0]; exact (by first | assumption | (show sx_in v_8 0 3; unfold sx_in; omega)))
    have hF : sx_fr L (fun a => h.1 a = 9) q q_9 := hF.tr (by rw [eq_9]; exact sx_fr.pI (by first | exact ka0 | exact Or.inl ka0 | exact Or.inr ka0 | rfl | simp [ka0]))
    exact W.vret hx hb hr (fun t ht hW => ⟨⟨q_9, rfl, ⟨hV, hF⟩, by unfold sx_at; rw [ht]; exact hP⟩, hS.F ht⟩) hS.2.2 dX9_addSystem_28
theorem iq_X11_isSystem_X11 : ∀ w ∈ wsX110, w ∈ wsX11_isSystem := fun _ h => List.mem_cons_of_mem _ (List.mem_append_left _ (List.mem_append_right _ h))
theorem iq_X11_isSystem_X9 : ∀ w ∈ wsX90, w ∈ wsX11_isSystem := fun _ h => List.mem_cons_of_mem _ (List.mem_append_right _ h)
set_option maxHeartbeats 4000000 in
set_option maxRecDepth 100000 in
theorem k_X11_isSystem (l : Launch) (dC : Nat → ClassId) (dI : Nat → Nat → Nat) (h : Sh) (L : List Nat) (hN : sx_nd L) (q : Sg) (hV : sx_V h L q) {a0 : Nat} (ha0 : a0 ∈ L) (ka0 : h.1 a0 = 11) (n1 : Int32)  : CMi l dC dI h L yX11_isSystem wsX11_isSystem ({ frames := 0, cells := 0, slots := 0, locals := 0 } : Room) q [.ref a0, .int n1] (fun r q' => sx_V h L q' ∧ sx_fr L (fun a => False) q q' ∧ (r = 0 ∨ r = 1)) := by
  intro sz
  refine Met.ofW (cc := cX11_isSystem) (maxL := 2) (ret := (some .boolean)) (by decide) rfl ?_
  intro p e s m args below meth c s₁ B hml hv
  obtain ⟨rfl, hsz, hP, hK⟩ := hv
  have hx := B.exec
  have hb := B.bytes
  have hr := B.returns
  have hts := atoms_spec (ws := wsX11_isSystem) B.pre
  have hown : s.vm.findClass RX11 = some m.cls := findClass_of_methodNamed B.named
  have hlocks := B.notSynchronized
  subst hsz
  have hD : ∀ g, va_D (AL L s.heap.size) (va_pl L g) := AL_D hN s.heap.size
  have hS : va_S (AL L s.heap.size) s.heap s.heap [] := va_S.rf
  have hF : sx_fr L (fun a => False) q q := sx_fr.rf
  have hl := lv_entry ([.ref a0, .int n1]) (n := 2) (Nat.le_of_ble_eq_true rfl)
  rw [lg_entry_eq]
  generalize (lg_sl ([.ref a0, .int n1]) ++ List.replicate (2 - (lg_sl ([.ref a0, .int n1])).length) Slot.unset).toArray = ls at hl ⊢
  have hl : lv_has ls 2 [(0, .ref a0), (1, .int n1)] := hl
  refine lv_iload_n hx hb dX11_isSystem_0 rfl (lv_at hl 1 rfl) ?_
  refine lv_if_lt (tgt := 19) hx hb dX11_isSystem_1 (by decide) (fun c_1 => ?_) (fun c_1 => ?_)
  · have tc_1 : n1.toInt < 0 := zx_lt.mp c_1
    refine lv_iconst (v := 0) hx hb dX11_isSystem_19 (by decide) ?_
    exact W.zret (v := 0) hx hb hr rfl (fun t ht hW => ⟨⟨0, q, rfl, ⟨hV, hF, by first | exact Or.inl rfl | exact Or.inr rfl | assumption⟩, by unfold sx_at; rw [ht]; exact hP⟩, hS.F ht⟩) hS.2.2 dX11_isSystem_20
  · have tc_1 : ¬ n1.toInt < 0 := fun z => c_1 (zx_lt.mpr z)
    refine lv_iload_n hx hb dX11_isSystem_4 rfl (lv_at hl 1 rfl) ?_
    refine lv_aload_n hx hb dX11_isSystem_5 rfl (lv_at hl 0 rfl) ?_
    refine pl_get (D := (dC, dI)) (v := .ref (q.2.2.1 a0 11)) (C := RX11) (T := TX11) (N := 16) hx hb hts iq_X11_isSystem_X11 hown hK hP ha0 (sg_F_o ka0 (by decide)) rfl 11 (by decide) (hts (.fieldLink RX11 76 "ClayAccounts" "units" "LClayAccounts$Units;") (by decide +kernel)) (fun _ h9 => h9) (sg_fs_at (by decide)) dX11_isSystem_6 ?_
    obtain ⟨ha_2, ka_2, na_2⟩ := hV.ref (k := 11) ha0 (by rw [ka0]; decide)
    rw [ka0] at ka_2 na_2
    have ka_2 : h.1 (q.2.2.1 a0 11) = 9 := ka_2
    refine pl_get (D := (dC, dI)) (v := .int (q.1 (q.2.2.1 a0 11) 6)) (C := RX9) (T := TX9) (N := 7) hx hb hts iq_X11_isSystem_X9 hown hK hP ha_2 (sg_F_o ka_2 (by decide)) rfl 6 (by decide) (hts (.fieldLink RX11 128 "ClayAccounts$Units" "systemCount" "I") (by decide +kernel)) (fun _ h9 => h9) (sg_fs_at (by decide)) dX11_isSystem_9 ?_
    have g_3 := hV.int ha_2 6
    rw [ka_2] at g_3
    have g_3 : sx_in (q.1 (q.2.2.1 a0 11) 6) 0 3 := g_3
    unfold sx_in at g_3
    refine lv_icmp_ge (tgt := 19) hx hb dX11_isSystem_12 (by decide) (fun c_4 => ?_) (fun c_4 => ?_)
    · have tc_4 : (q.1 (q.2.2.1 a0 11) 6).toInt ≤ n1.toInt := zx_le.mp c_4
      refine lv_iconst (v := 0) hx hb dX11_isSystem_19 (by decide) ?_
      exact W.zret (v := 0) hx hb hr rfl (fun t ht hW => ⟨⟨0, q, rfl, ⟨hV, hF, by first | exact Or.inl rfl | exact Or.inr rfl | assumption⟩, by unfold sx_at; rw [ht]; exact hP⟩, hS.F ht⟩) hS.2.2 dX11_isSystem_20
    · have tc_4 : ¬ (q.1 (q.2.2.1 a0 11) 6).toInt ≤ n1.toInt := fun z => c_4 (zx_le.mpr z)
      refine lv_iconst (v := 1) hx hb dX11_isSystem_15 (by decide) ?_
      refine lv_goto (tgt := 20) hx hb dX11_isSystem_16 (by decide) ?_
      exact W.zret (v := 1) hx hb hr rfl (fun t ht hW => ⟨⟨1, q, rfl, ⟨hV, hF, by first | exact Or.inl rfl | exact Or.inr rfl | assumption⟩, by unfold sx_at; rw [ht]; exact hP⟩, hS.F ht⟩) hS.2.2 dX11_isSystem_20
theorem iq_X11_isFragment_X11 : ∀ w ∈ wsX110, w ∈ wsX11_isFragment := fun _ h => List.mem_cons_of_mem _ (List.mem_append_right _ h)
set_option maxHeartbeats 4000000 in
set_option maxRecDepth 100000 in
theorem k_X11_isFragment (l : Launch) (dC : Nat → ClassId) (dI : Nat → Nat → Nat) (h : Sh) (L : List Nat) (hN : sx_nd L) (q : Sg) (hV : sx_V h L q) {a0 : Nat} (ha0 : a0 ∈ L) (ka0 : h.1 a0 = 11) (n1 : Int32)  : CMi l dC dI h L yX11_isFragment wsX11_isFragment ({ frames := 0, cells := 0, slots := 0, locals := 0 } : Room) q [.ref a0, .int n1] (fun r q' => sx_V h L q' ∧ sx_fr L (fun a => False) q q' ∧ (r = 0 ∨ r = 1)) := by
  intro sz
  refine Met.ofW (cc := cX11_isFragment) (maxL := 2) (ret := (some .boolean)) (by decide) rfl ?_
  intro p e s m args below meth c s₁ B hml hv
  obtain ⟨rfl, hsz, hP, hK⟩ := hv
  have hx := B.exec
  have hb := B.bytes
  have hr := B.returns
  have hts := atoms_spec (ws := wsX11_isFragment) B.pre
  have hown : s.vm.findClass RX11 = some m.cls := findClass_of_methodNamed B.named
  have hlocks := B.notSynchronized
  subst hsz
  have hD : ∀ g, va_D (AL L s.heap.size) (va_pl L g) := AL_D hN s.heap.size
  have hS : va_S (AL L s.heap.size) s.heap s.heap [] := va_S.rf
  have hF : sx_fr L (fun a => False) q q := sx_fr.rf
  have hl := lv_entry ([.ref a0, .int n1]) (n := 2) (Nat.le_of_ble_eq_true rfl)
  rw [lg_entry_eq]
  generalize (lg_sl ([.ref a0, .int n1]) ++ List.replicate (2 - (lg_sl ([.ref a0, .int n1])).length) Slot.unset).toArray = ls at hl ⊢
  have hl : lv_has ls 2 [(0, .ref a0), (1, .int n1)] := hl
  refine lv_iload_n hx hb dX11_isFragment_0 rfl (lv_at hl 1 rfl) ?_
  refine lv_if_lt (tgt := 16) hx hb dX11_isFragment_1 (by decide) (fun c_1 => ?_) (fun c_1 => ?_)
  · have tc_1 : n1.toInt < 0 := zx_lt.mp c_1
    refine lv_iconst (v := 0) hx hb dX11_isFragment_16 (by decide) ?_
    exact W.zret (v := 0) hx hb hr rfl (fun t ht hW => ⟨⟨0, q, rfl, ⟨hV, hF, by first | exact Or.inl rfl | exact Or.inr rfl | assumption⟩, by unfold sx_at; rw [ht]; exact hP⟩, hS.F ht⟩) hS.2.2 dX11_isFragment_17
  · have tc_1 : ¬ n1.toInt < 0 := fun z => c_1 (zx_lt.mpr z)
    refine lv_iload_n hx hb dX11_isFragment_4 rfl (lv_at hl 1 rfl) ?_
    refine lv_aload_n hx hb dX11_isFragment_5 rfl (lv_at hl 0 rfl) ?_
    refine pl_get (D := (dC, dI)) (v := .int (q.1 a0 14)) (C := RX11) (T := TX11) (N := 16) hx hb hts iq_X11_isFragment_X11 hown hK hP ha0 (sg_F_o ka0 (by decide)) rfl 14 (by decide) (hts (.fieldLink RX11 94 "ClayAccounts" "fragmentCount" "I") (by decide +kernel)) (fun _ h9 => h9) (sg_fs_at (by decide)) dX11_isFragment_6 ?_
    have g_2 := hV.int ha0 14
    rw [ka0] at g_2
    have g_2 : sx_in (q.1 a0 14) 0 12 := g_2
    unfold sx_in at g_2
    refine lv_icmp_ge (tgt := 16) hx hb dX11_isFragment_9 (by decide) (fun c_3 => ?_) (fun c_3 => ?_)
    · have tc_3 : (q.1 a0 14).toInt ≤ n1.toInt := zx_le.mp c_3
      refine lv_iconst (v := 0) hx hb dX11_isFragment_16 (by decide) ?_
      exact W.zret (v := 0) hx hb hr rfl (fun t ht hW => ⟨⟨0, q, rfl, ⟨hV, hF, by first | exact Or.inl rfl | exact Or.inr rfl | assumption⟩, by unfold sx_at; rw [ht]; exact hP⟩, hS.F ht⟩) hS.2.2 dX11_isFragment_17
    · have tc_3 : ¬ (q.1 a0 14).toInt ≤ n1.toInt := fun z => c_3 (zx_le.mpr z)
      refine lv_iconst (v := 1) hx hb dX11_isFragment_12 (by decide) ?_
      refine lv_goto (tgt := 17) hx hb dX11_isFragment_13 (by decide) ?_
      exact W.zret (v := 1) hx hb hr rfl (fun t ht hW => ⟨⟨1, q, rfl, ⟨hV, hF, by first | exact Or.inl rfl | exact Or.inr rfl | assumption⟩, by unfold sx_at; rw [ht]; exact hP⟩, hS.F ht⟩) hS.2.2 dX11_isFragment_17
theorem iq_X5_addKnown_X2 : ∀ w ∈ wsX20, w ∈ wsX5_addKnown := fun _ h => List.mem_cons_of_mem _ (List.mem_append_right _ h)
theorem iq_X5_addKnown_X5 : ∀ w ∈ wsX50, w ∈ wsX5_addKnown := fun _ h => List.mem_cons_of_mem _ (List.mem_append_left _ (List.mem_append_right _ h))
set_option maxHeartbeats 4000000 in
set_option maxRecDepth 100000 in
theorem k_X5_addKnown (l : Launch) (dC : Nat → ClassId) (dI : Nat → Nat → Nat) (h : Sh) (L : List Nat) (hN : sx_nd L) (q : Sg) (hV : sx_V h L q) {a0 : Nat} (ha0 : a0 ∈ L) (ka0 : h.1 a0 = 5) (n1 : Int32) (n2 : Int32)  : CMv l dC dI h L yX5_addKnown wsX5_addKnown ({ frames := 0, cells := 0, slots := 0, locals := 0 } : Room) q [.ref a0, .int n1, .int n2] (fun q' => sx_V h L q' ∧ sx_fr L (fun a => h.1 a = 2) q q') := by
  intro sz
  refine Met.ofW (cc := cX5_addKnown) (maxL := 4) (ret := none) (by decide) rfl ?_
  intro p e s m args below meth c s₁ B hml hv
  obtain ⟨rfl, hsz, hP, hK⟩ := hv
  have hx := B.exec
  have hb := B.bytes
  have hr := B.returns
  have hts := atoms_spec (ws := wsX5_addKnown) B.pre
  have hown : s.vm.findClass RX5 = some m.cls := findClass_of_methodNamed B.named
  have hlocks := B.notSynchronized
  subst hsz
  have hD : ∀ g, va_D (AL L s.heap.size) (va_pl L g) := AL_D hN s.heap.size
  have hS : va_S (AL L s.heap.size) s.heap s.heap [] := va_S.rf
  have hF : sx_fr L (fun a => h.1 a = 2) q q := sx_fr.rf
  have hl := lv_entry ([.ref a0, .int n1, .int n2]) (n := 4) (Nat.le_of_ble_eq_true rfl)
  rw [lg_entry_eq]
  generalize (lg_sl ([.ref a0, .int n1, .int n2]) ++ List.replicate (4 - (lg_sl ([.ref a0, .int n1, .int n2])).length) Slot.unset).toArray = ls at hl ⊢
  have hl : lv_has ls 4 [(0, .ref a0), (1, .int n1), (2, .int n2)] := hl
  refine lv_aload_n hx hb dX5_addKnown_0 rfl (lv_at hl 0 rfl) ?_
  refine pl_get (D := (dC, dI)) (v := .int (q.1 a0 2)) (C := RX5) (T := TX5) (N := 7) hx hb hts iq_X5_addKnown_X5 hown hK hP ha0 (sg_F_o ka0 (by decide)) rfl 2 (by decide) (hts (.fieldLink RX5 25 "ClayAccounts$Tablet" "lineCount" "I") (by decide +kernel)) (fun _ h9 => h9) (sg_fs_at (by decide)) dX5_addKnown_1 ?_
  have g_1 := hV.int ha0 2
  rw [ka0] at g_1
  have g_1 : sx_in (q.1 a0 2) 0 12 := g_1
  unfold sx_in at g_1
  refine lv_iconst (v := 1) hx hb dX5_addKnown_4 (by decide) ?_
  refine lv_isub hx hb dX5_addKnown_5 ?_
  refine lv_topi (fun v_2 ev_2 => ?_)
  refine lv_istore_n (lv' := [(3, .int v_2), (0, .ref a0), (1, .int n1), (2, .int n2)]) hx hb dX5_addKnown_6 rfl hl (by decide) rfl (fun ls hl => ?_)
  refine lv_iload_n hx hb dX5_addKnown_7 rfl (lv_at hl 0 rfl) ?_
  refine lv_if_lt (tgt := 36) hx hb dX5_addKnown_8 (by decide) (fun c_3 => ?_) (fun c_3 => ?_)
  · have tc_3 : v_2.toInt < 0 := zx_lt.mp c_3
    exact W.vret hx hb hr (fun t ht hW => ⟨⟨q, rfl, ⟨hV, hF⟩, by unfold sx_at; rw [ht]; exact hP⟩, hS.F ht⟩) hS.2.2 dX5_addKnown_36
  · have tc_3 : ¬ v_2.toInt < 0 := fun z => c_3 (zx_lt.mpr z)
    refine lv_aload_n hx hb dX5_addKnown_11 rfl (lv_at hl 1 rfl) ?_
    refine pl_get (D := (dC, dI)) (v := .ref (q.2.2.1 a0 0)) (C := RX5) (T := TX5) (N := 7) hx hb hts iq_X5_addKnown_X5 hown hK hP ha0 (sg_F_o ka0 (by decide)) rfl 0 (by decide) (hts (.fieldLink RX5 11 "ClayAccounts$Tablet" "lines" "[LClayAccounts$Line;") (by decide +kernel)) (fun _ h9 => h9) (sg_fs_at (by decide)) dX5_addKnown_12 ?_
    obtain ⟨ha_4, ka_4, na_4⟩ := hV.ref (k := 0) ha0 (by rw [ka0]; decide)
    rw [ka0] at ka_4 na_4
    have ka_4 : h.1 (q.2.2.1 a0 0) = 401 := ka_4
    have l_5 : h.2.1 (q.2.2.1 a0 0) = 12 := na_4 (by decide)
    refine lv_iload_n hx hb dX5_addKnown_15 rfl (lv_at hl 0 rfl) ?_
    have tv_2 : v_2.toInt = (q.1 a0 2).toInt - 1 := by rw [ev_2]; exact zx_sub (show (-2147483648 : Int) ≤ (q.1 a0 2).toInt - 1 by omega) (show (q.1 a0 2).toInt - 1 < (2147483648 : Int) by omega)
    have i_6 : vp_in v_2 (h.2.1 (q.2.2.1 a0 0)) := (vp_in_iff.mpr ⟨by omega, by omega⟩)
    refine pl_aldq hx hb hK hP ha_4 4 (sg_F_q ka_4 (by decide)) rfl i_6 rfl dX5_addKnown_16 ?_
    obtain ⟨ha_7, ka_7, na_7⟩ := hV.elem ha_4 (by rw [ka_4]; decide) (zx_ix i_6)
    rw [ka_4] at ka_7 na_7
    have ka_7 : h.1 (h.2.2.2 (q.2.2.1 a0 0) ((v_2 : Int32).toNatClampNeg)) = 2 := ka_7
    refine lv_iload_n hx hb dX5_addKnown_17 rfl (lv_at hl 2 rfl) ?_
    refine pl_put (D := (dC, dI)) (ty := .int) (v := .int n1) (C := RX2) (T := TX2) (N := 6) hx hb hts iq_X5_addKnown_X2 tyX2 tyX2_ok nmX2 hown hK hP hD hS ha_7 (sg_F_o ka_7 (by decide)) rfl 1 (by decide) (hts (.fieldLink RX5 50 "ClayAccounts$Line" "system" "I") (by decide +kernel)) (fun _ h9 => h9) rfl (by decide +kernel) rfl rfl (by rw [sg_fs_len]; decide) dX5_addKnown_18 (fun H locs hP hS => ?_)
    rw [sg_upI ka_7 (by decide) (by decide) (Or.inl rfl)] at hP
    obtain ⟨q_8, eq_8⟩ : ∃ z, z = sg_pI q (h.2.2.2 (q.2.2.1 a0 0) ((v_2 : Int32).toNatClampNeg)) 1 n1 := ⟨_, rfl⟩
    rw [← eq_8] at hP
    have hV : sx_V h L q_8 := by rw [eq_8]; exact hV.pI (by rw [ka_7]; exact trivial)
    have hF : sx_fr L (fun a => h.1 a = 2) q q_8 := hF.tr (by rw [eq_8]; exact sx_fr.pI (by first | exact ka_7 | exact Or.inl ka_7 | exact Or.inr ka_7 | rfl | simp [ka_7]))
    refine lv_aload_n hx hb dX5_addKnown_21 rfl (lv_at hl 1 rfl) ?_
    refine pl_get (D := (dC, dI)) (v := .ref (q_8.2.2.1 a0 0)) (C := RX5) (T := TX5) (N := 7) hx hb hts iq_X5_addKnown_X5 hown hK hP ha0 (sg_F_o ka0 (by decide)) rfl 0 (by decide) (hts (.fieldLink RX5 11 "ClayAccounts$Tablet" "lines" "[LClayAccounts$Line;") (by decide +kernel)) (fun _ h9 => h9) (sg_fs_at (by decide)) dX5_addKnown_22 ?_
    obtain ⟨ha_9, ka_9, na_9⟩ := hV.ref (k := 0) ha0 (by rw [ka0]; decide)
    rw [ka0] at ka_9 na_9
    have ka_9 : h.1 (q_8.2.2.1 a0 0) = 401 := ka_9
    have l_10 : h.2.1 (q_8.2.2.1 a0 0) = 12 := na_9 (by decide)
    refine lv_iload_n hx hb dX5_addKnown_25 rfl (lv_at hl 0 rfl) ?_
    have i_11 : vp_in v_2 (h.2.1 (q_8.2.2.1 a0 0)) := (vp_in_iff.mpr ⟨by omega, by omega⟩)
    refine pl_aldq hx hb hK hP ha_9 4 (sg_F_q ka_9 (by decide)) rfl i_11 rfl dX5_addKnown_26 ?_
    obtain ⟨ha_12, ka_12, na_12⟩ := hV.elem ha_9 (by rw [ka_9]; decide) (zx_ix i_11)
    rw [ka_9] at ka_12 na_12
    have ka_12 : h.1 (h.2.2.2 (q_8.2.2.1 a0 0) ((v_2 : Int32).toNatClampNeg)) = 2 := ka_12
    refine lv_dup hx hb dX5_addKnown_27 rfl ?_
    refine pl_get (D := (dC, dI)) (v := .int (q_8.1 (h.2.2.2 (q_8.2.2.1 a0 0) ((v_2 : Int32).toNatClampNeg)) 3)) (C := RX2) (T := TX2) (N := 6) hx hb hts iq_X5_addKnown_X2 hown hK hP ha_12 (sg_F_o ka_12 (by decide)) rfl 3 (by decide) (hts (.fieldLink RX5 53 "ClayAccounts$Line" "value" "I") (by decide +kernel)) (fun _ h9 => h9) (sg_fs_at (by decide)) dX5_addKnown_28 ?_
    refine lv_iload_n hx hb dX5_addKnown_31 rfl (lv_at hl 3 rfl) ?_
    refine lv_iadd hx hb dX5_addKnown_32 ?_
    refine lv_topi (fun v_13 ev_13 => ?_)
    refine pl_put (D := (dC, dI)) (ty := .int) (v := .int v_13) (C := RX2) (T := TX2) (N := 6) hx hb hts iq_X5_addKnown_X2 tyX2 tyX2_ok nmX2 hown hK hP hD hS ha_12 (sg_F_o ka_12 (by decide)) rfl 3 (by decide) (hts (.fieldLink RX5 53 "ClayAccounts$Line" "value" "I") (by decide +kernel)) (fun _ h9 => h9) rfl (by decide +kernel) rfl rfl (by rw [sg_fs_len]; decide) dX5_addKnown_33 (fun H locs hP hS => ?_)
    rw [sg_upI ka_12 (by decide) (by decide) (Or.inl rfl)] at hP
    obtain ⟨q_14, eq_14⟩ : ∃ z, z = sg_pI q_8 (h.2.2.2 (q_8.2.2.1 a0 0) ((v_2 : Int32).toNatClampNeg)) 3 v_13 := ⟨_, rfl⟩
    rw [← eq_14] at hP
    have hV : sx_V h L q_14 := by rw [eq_14]; exact hV.pI (by rw [ka_12]; exact trivial)
    have hF : sx_fr L (fun a => h.1 a = 2) q q_14 := hF.tr (by rw [eq_14]; exact sx_fr.pI (by first | exact ka_12 | exact Or.inl ka_12 | exact Or.inr ka_12 | rfl | simp [ka_12]))
    exact W.vret hx hb hr (fun t ht hW => ⟨⟨q_14, rfl, ⟨hV, hF⟩, by unfold sx_at; rw [ht]; exact hP⟩, hS.F ht⟩) hS.2.2 dX5_addKnown_36
