section CR
variable {l : Launch} {dC : Nat → ClassId} {dI : Nat → Nat → Nat} {cT : Nat → ClassId} {R : Room} {mL : Nat} {cc : ByteArray} {own : String} {Ts : List Cond} {A : Nat → Prop} {Z : Zt} {X X2 : va_W} {L : List Nat} {h : Sh} {q : Sg} {cells slots pc : Nat} {lvs : List (Nat × Value)} {rest : List Value}
theorem wc_iconst (B : BC dC dI cT mL cc own Ts A Z) {n : Int} (v : Int32) (hd : decode cc pc = .ok (.iconst n, 1)) (hv : Int32.ofInt n = v) (kk : WC l dC dI R mL Z A X L h q cells slots (pc + 1) lvs (.int v :: rest)) : WC l dC dI R mL Z A X L h q cells slots pc lvs rest := by
  intro ls H locs hl hP hD hS
  exact lv_iconst B.1.1 B.1.2.1 hd hv (kk ls H locs hl hP hD hS)
theorem wc_bipush (B : BC dC dI cT mL cc own Ts A Z) {n : Int} (v : Int32) (hd : decode cc pc = .ok (.bipush n, 2)) (hv : (Int8.ofInt n).toInt32 = v) (kk : WC l dC dI R mL Z A X L h q cells slots (pc + 2) lvs (.int v :: rest)) : WC l dC dI R mL Z A X L h q cells slots pc lvs rest := by
  intro ls H locs hl hP hD hS
  exact lv_bipush B.1.1 B.1.2.1 hd hv (kk ls H locs hl hP hD hS)
theorem wc_sipush (B : BC dC dI cT mL cc own Ts A Z) {n : Int} (v : Int32) (hd : decode cc pc = .ok (.sipush n, 3)) (hv : (Int16.ofInt n).toInt32 = v) (kk : WC l dC dI R mL Z A X L h q cells slots (pc + 3) lvs (.int v :: rest)) : WC l dC dI R mL Z A X L h q cells slots pc lvs rest := by
  intro ls H locs hl hP hD hS
  exact lv_sipush B.1.1 B.1.2.1 hd hv (kk ls H locs hl hP hD hS)
theorem wc_iload_n (B : BC dC dI cT mL cc own Ts A Z) {k : Fin 4} {i : Nat} {x : Int32} (hd : decode cc pc = .ok (.iload_n k, 1)) (hi : (k : Nat) = i) (j : Nat) (hj : lvs[j]? = some (i, .int x)) (kk : WC l dC dI R mL Z A X L h q cells slots (pc + 1) lvs (.int x :: rest)) : WC l dC dI R mL Z A X L h q cells slots pc lvs rest := by
  intro ls H locs hl hP hD hS
  exact lv_iload_n B.1.1 B.1.2.1 hd hi (lv_at hl j hj) (kk ls H locs hl hP hD hS)
theorem wc_aload_n (B : BC dC dI cT mL cc own Ts A Z) {k : Fin 4} {i : Nat} {x : Nat} (hd : decode cc pc = .ok (.aload_n k, 1)) (hi : (k : Nat) = i) (j : Nat) (hj : lvs[j]? = some (i, .ref x)) (kk : WC l dC dI R mL Z A X L h q cells slots (pc + 1) lvs (.ref x :: rest)) : WC l dC dI R mL Z A X L h q cells slots pc lvs rest := by
  intro ls H locs hl hP hD hS
  exact lv_aload_n B.1.1 B.1.2.1 hd hi (lv_at hl j hj) (kk ls H locs hl hP hD hS)
theorem wc_istore_n (B : BC dC dI cT mL cc own Ts A Z) {k : Fin 4} {i : Nat} {x : Int32} (lvs2 : List (Nat × Value)) (hd : decode cc pc = .ok (.istore_n k, 1)) (hi : (k : Nat) = i) (hn : i < mL) (he : (i, Value.int x) :: lvs.filter (fun q => !(q.1 == i) && !(q.1 + 1 == i && q.2.category == 2)) = lvs2) (kk : WC l dC dI R mL Z A X L h q cells slots (pc + 1) lvs2 rest) : WC l dC dI R mL Z A X L h q cells slots pc lvs (.int x :: rest) := by
  intro ls H locs hl hP hD hS
  exact lv_istore_n B.1.1 B.1.2.1 hd hi hl hn he (fun ls2 hl2 => kk ls2 H locs hl2 hP hD hS)
theorem wc_iinc (B : BC dC dI cT mL cc own Ts A Z) {i : Nat} {n : Int} {x : Int32} (lvs2 : List (Nat × Value)) (v : Int32) (hd : decode cc pc = .ok (.iinc i n, 3)) (j : Nat) (hj : lvs[j]? = some (i, .int x)) (hv : x + Int32.ofInt n = v) (hn : i < mL) (he : (i, Value.int v) :: lvs.filter (fun q => !(q.1 == i) && !(q.1 + 1 == i && q.2.category == 2)) = lvs2) (kk : WC l dC dI R mL Z A X L h q cells slots (pc + 3) lvs2 rest) : WC l dC dI R mL Z A X L h q cells slots pc lvs rest := by
  intro ls H locs hl hP hD hS
  exact lv_iinc (k := j) B.1.1 B.1.2.1 hd hl hj hv hn he (fun ls2 hl2 => kk ls2 H locs hl2 hP hD hS)
theorem wc_dup (B : BC dC dI cT mL cc own Ts A Z) {x : Value} (hd : decode cc pc = .ok (.dup, 1)) (hx : x.category = 1) (kk : WC l dC dI R mL Z A X L h q cells slots (pc + 1) lvs (x :: x :: rest)) : WC l dC dI R mL Z A X L h q cells slots pc lvs (x :: rest) := by
  intro ls H locs hl hP hD hS
  exact lv_dup B.1.1 B.1.2.1 hd hx (kk ls H locs hl hP hD hS)
theorem wc_goto (B : BC dC dI cT mL cc own Ts A Z) {off : Int} (tgt : Nat) (hd : decode cc pc = .ok (.goto off, 3)) (ht : (pc : Int) + off = (tgt : Int)) (kk : WC l dC dI R mL Z A X L h q cells slots tgt lvs rest) : WC l dC dI R mL Z A X L h q cells slots pc lvs rest := by
  intro ls H locs hl hP hD hS
  exact lv_goto B.1.1 B.1.2.1 hd ht (kk ls H locs hl hP hD hS)
theorem wc_ge (B : BC dC dI cT mL cc own Ts A Z) {x y : Int32} {off : Int} (tgt : Nat) (hd : decode cc pc = .ok (.if_icmp .ge off, 3)) (ht : (pc : Int) + off = (tgt : Int)) (k1 : y ≤ x → WC l dC dI R mL Z A X L h q cells slots tgt lvs rest) (k2 : ¬ y ≤ x → WC l dC dI R mL Z A X L h q cells slots (pc + 3) lvs rest) : WC l dC dI R mL Z A X L h q cells slots pc lvs (.int y :: .int x :: rest) := by
  intro ls H locs hl hP hD hS
  exact lv_icmp_ge B.1.1 B.1.2.1 hd ht (fun z => k1 z ls H locs hl hP hD hS) (fun z => k2 z ls H locs hl hP hD hS)
theorem wc_objInit (B : BC dC dI cT mL cc own Ts A Z) {idx a : Nat} (h1 : Cond.methodLink own idx objectInit ∈ Ts) (h2 : Cond.instanceMethod objectInit ∈ Ts) (h3 : Cond.code objectInit ⟨#[0xb1]⟩ 1 none ∈ Ts) (hf : 1 ≤ R.frames) (hlo : (rest.map fun v => v.category).sum + 12 ≤ R.locals) (hd : decode cc pc = .ok (.invokespecial idx, 3)) (kk : WC l dC dI R mL Z A X L h q cells slots (pc + 3) lvs rest) : WC l dC dI R mL Z A X L h q cells slots pc lvs (.ref a :: rest) := by
  intro ls H locs hl hP hD hS
  refine W.objInit B.1.1 B.1.2.1 B.1.2.2.2.1 (B.1.2.2.2.2 _ h1) (B.1.2.2.2.2 _ h2) (B.1.2.2.2.2 _ h3) rfl (by rw [B.1.2.2.1]; exact hl.1) rfl hd hf (show 2 * 0 + _ + 12 ≤ R.locals by omega) ?_
  exact kk ls H locs hl hP hD hS
theorem wc_at {f : Nat → va_E} {q0 : Nat} {x : Nat × va_E} (he : X[q0]? = some x) : (X ++ va_pl L f)[q0]? = some x := by
  rw [List.getElem?_append_left (List.getElem?_eq_some_iff.mp he).1]
  exact he
theorem wc_set {f : Nat → va_E} {q0 : Nat} {x y : Nat × va_E} (he : X[q0]? = some x) : (X ++ va_pl L f).set q0 y = X.set q0 y ++ va_pl L f := List.set_append_left _ _ (List.getElem?_eq_some_iff.mp he).1
theorem wc_get (B : BC dC dI cT mL cc own Ts A Z) {C ref : String} {T : u_T} {N ci index a : Nat} (hin : ∀ w ∈ u_ws C T N, w ∈ Ts) (q0 : Nat) {fs : List Value} (he : X[q0]? = some (a, .inr (ci, fs))) (hc : vwCl[ci]? = some (C, T, N)) (k : Nat) (hkN : k < N) (hlink : Cond.fieldLink own index ref (T k).2.1 (T k).2.2.1 ∈ Ts) (hsame : (T k).1 = ref) {v : Value} (hv : fs[k]? = some v) (hd : decode cc pc = .ok (.getfield index, 3)) (kk : WC l dC dI R mL Z A X L h q cells slots (pc + 3) lvs (v :: rest)) : WC l dC dI R mL Z A X L h q cells slots pc lvs (.ref a :: rest) := by
  intro ls H locs hl hP hD hS
  exact va_get (D := (dC, dI)) (v := v) B.1.1 B.1.2.1 B.1.2.2.2.2 hin B.1.2.2.2.1 B.2.1 hP q0 (wc_at he) hc k hkN (B.1.2.2.2.2 _ hlink) (fun _ h9 => hsame ▸ h9) hv hd (kk ls H locs hl hP hD hS)
theorem wc_putF (B : BC dC dI cT mL cc own Ts A Z) {C ref : String} {T : u_T} {N ci index a : Nat} (hin : ∀ w ∈ u_ws C T N, w ∈ Ts) (q0 : Nat) {fs : List Value} (he : X[q0]? = some (a, .inr (ci, fs))) (hc : vwCl[ci]? = some (C, T, N)) (k : Nat) (hkN : k < N) (hlink : Cond.fieldLink own index ref (T k).2.1 (T k).2.2.1 ∈ Ts) (hsame : (T k).1 = ref) {v : Value} {ty : FieldType} (ty0 : Nat → FieldType) (hty : ∀ k, k < N → parseFieldDescriptor (T k).2.2.1 = some (ty0 k)) (hnm : ∀ a, a < N → ∀ b, b < N → a ≠ b → (T a).2.1 ≠ (T b).2.1) (hfin : (T k).2.2.2 = true) (hdecl : (T k).1 = own) (hpd : parseFieldDescriptor (T k).2.2.1 = some ty) (hn : narrow ty v = v) (hfit : fits ty v = true) (hlk : k < fs.length) (hX2 : X.set q0 (a, .inr (ci, fs.set k v)) = X2) (hd : decode cc pc = .ok (.putfield index, 3)) (kk : WC l dC dI R mL Z A X2 L h q cells slots (pc + 3) lvs rest) : WC l dC dI R mL Z A X L h q cells slots pc lvs (v :: .ref a :: rest) := by
  intro ls H locs hl hP hD hS
  refine va_putF (D := (dC, dI)) (v := v) B.1.1 B.1.2.1 B.1.2.2.2.2 hin ty0 hty hnm B.1.2.2.2.1 B.2.1 hP hD hS q0 (wc_at he) hc k hkN (B.1.2.2.2.2 _ hlink) (fun _ h9 => hsame ▸ h9) hfin B.2.2.2.2.2 hdecl hpd hn hfit hlk hd (fun H1 locs1 hP1 hD1 hS1 => ?_)
  rw [wc_set he, hX2] at hP1 hD1
  exact kk ls H1 locs1 hl hP1 hD1 hS1
theorem wc_put (B : BC dC dI cT mL cc own Ts A Z) {C ref : String} {T : u_T} {N ci index a : Nat} (hin : ∀ w ∈ u_ws C T N, w ∈ Ts) (q0 : Nat) {fs : List Value} (he : X[q0]? = some (a, .inr (ci, fs))) (hc : vwCl[ci]? = some (C, T, N)) (k : Nat) (hkN : k < N) (hlink : Cond.fieldLink own index ref (T k).2.1 (T k).2.2.1 ∈ Ts) (hsame : (T k).1 = ref) {v : Value} {ty : FieldType} (ty0 : Nat → FieldType) (hty : ∀ k, k < N → parseFieldDescriptor (T k).2.2.1 = some (ty0 k)) (hnm : ∀ a, a < N → ∀ b, b < N → a ≠ b → (T a).2.1 ≠ (T b).2.1) (hfin : (T k).2.2.2 = false) (hpd : parseFieldDescriptor (T k).2.2.1 = some ty) (hn : narrow ty v = v) (hfit : fits ty v = true) (hlk : k < fs.length) (hX2 : X.set q0 (a, .inr (ci, fs.set k v)) = X2) (hd : decode cc pc = .ok (.putfield index, 3)) (kk : WC l dC dI R mL Z A X2 L h q cells slots (pc + 3) lvs rest) : WC l dC dI R mL Z A X L h q cells slots pc lvs (v :: .ref a :: rest) := by
  intro ls H locs hl hP hD hS
  refine va_put (D := (dC, dI)) (v := v) B.1.1 B.1.2.1 B.1.2.2.2.2 hin ty0 hty hnm B.1.2.2.2.1 B.2.1 hP hD hS q0 (wc_at he) hc k hkN (B.1.2.2.2.2 _ hlink) (fun _ h9 => hsame ▸ h9) hfin hpd hn hfit hlk hd (fun H1 locs1 hP1 hD1 hS1 => ?_)
  rw [wc_set he, hX2] at hP1 hD1
  exact kk ls H1 locs1 hl hP1 hD1 hS1
theorem wc_newI (B : BC dC dI cT mL cc own Ts A Z) (K N : Nat) {n : Int32} (h1 : 13 ≤ K) (h2 : K < 200) (hcT : h.2.2.1 = cT) (hV : sx_V h L q) (hE : sx_E K 0) (htk : ∀ k, sx_tk K k = 0) (hRk : ∀ c k, sx_R K c k 0) (harr : Cond.arrayClass .int ∈ Ts) (hn : ¬ n < 0) (hN : n.toNatClampNeg = N) (hb5 : N ≤ 5000) (hcells : cells + 1 ≤ R.cells) (hslots : slots + N ≤ R.slots) (hd : decode cc pc = .ok (.newarray .int, 2)) (kk : ∀ (a : Nat) (M : List Nat) (g : Sh) (r : Sg), cc_gr L h q M g r → a ∈ M → g.1 a = K → g.2.1 a = N → g.2.2.1 = cT → sx_V g M r → (∀ j, r.2.2.2.1 a j = 0) → (∀ j, r.2.2.2.2 a j = 0) → WC l dC dI R mL Z A X M g r (cells + 1) (slots + N) (pc + 2) lvs (.ref a :: rest)) : WC l dC dI R mL Z A X L h q cells slots pc lvs (.int n :: rest) := by
  intro ls H locs hl hP hD hS
  refine va_newa (atype := .int) (ty := .int) (a0 := (N, .inl (fun _ => 0))) (N' := N) B.1.1 B.1.2.1 (B.1.2.2.2.2 _ harr) rfl B.2.1 hP hD hS B.2.2.1 (fun cA => vp_cell_i cA N (fun _ => 0)) hn hN (by show N * _ ≤ 536870912; simp [componentBytes]; omega) hcells hslots hd (fun a cA H1 hK1 hP1 hD1 hS1 => ?_)
  have hcA : cA = cT 13 := cc_RA (hK1.2 8 _ rfl).2 (B.2.1.2 0 _ rfl).2
  have ha := cc_new hD1
  have he : sg_F (gp_h h a K N (fun _ => 0)) (gp_q q a (fun _ => 0) (fun _ => 0) (fun _ => 0) (fun _ => 0) (fun _ => 0)) a = .inl (cA, N, .inl (fun _ => 0)) := by
    rw [sg_F_i (k := K) gp_h1e h1 h2, hcA, gp_h2e, gp_q4e]
    show (Sum.inl ((gp_h h a K N (fun _ => 0)).2.2.1 _, _, _) : va_E) = _
    rw [show (gp_h h a K N (fun _ => 0)).2.2.1 = cT from hcT]
  rw [List.append_assoc, gp_pl ha he] at hP1 hD1
  exact kk a _ _ _ (cc_gr.gp ha) (List.mem_append_right _ (List.mem_singleton.mpr rfl)) gp_h1e gp_h2e hcT (gp_V hV ha (fun k hk => absurd (htk k) hk) hb5 (fun z => absurd z (by omega)) (fun k => hRk _ k) (fun _ => hE)) (fun j => by rw [gp_q4e]) (fun j => by rw [gp_q5e]) ls H1 locs hl hP1 hD1 hS1
theorem wc_newL (B : BC dC dI cT mL cc own Ts A Z) (K N : Nat) {n : Int32} (h1 : 200 ≤ K) (h2 : K < 300) (hcT : h.2.2.1 = cT) (hV : sx_V h L q) (hE : sx_E K 0) (htk : ∀ k, sx_tk K k = 0) (hRk : ∀ c k, sx_R K c k 0) (harr : Cond.arrayClass .long ∈ Ts) (hn : ¬ n < 0) (hN : n.toNatClampNeg = N) (hb5 : N ≤ 5000) (hcells : cells + 1 ≤ R.cells) (hslots : slots + N ≤ R.slots) (hd : decode cc pc = .ok (.newarray .long, 2)) (kk : ∀ (a : Nat) (M : List Nat) (g : Sh) (r : Sg), cc_gr L h q M g r → a ∈ M → g.1 a = K → g.2.1 a = N → g.2.2.1 = cT → sx_V g M r → (∀ j, r.2.2.2.1 a j = 0) → (∀ j, r.2.2.2.2 a j = 0) → WC l dC dI R mL Z A X M g r (cells + 1) (slots + N) (pc + 2) lvs (.ref a :: rest)) : WC l dC dI R mL Z A X L h q cells slots pc lvs (.int n :: rest) := by
  intro ls H locs hl hP hD hS
  refine va_newa (atype := .long) (ty := .long) (a0 := (N, .inr (.inl (fun _ => 0)))) (N' := N) B.1.1 B.1.2.1 (B.1.2.2.2.2 _ harr) rfl B.2.1 hP hD hS B.2.2.1 (fun cA => vp_cell_l cA N (fun _ => 0)) hn hN (by show N * _ ≤ 536870912; simp [componentBytes]; omega) hcells hslots hd (fun a cA H1 hK1 hP1 hD1 hS1 => ?_)
  have hcA : cA = cT 200 := cc_RA (hK1.2 8 _ rfl).2 (B.2.1.2 1 _ rfl).2
  have ha := cc_new hD1
  have he : sg_F (gp_h h a K N (fun _ => 0)) (gp_q q a (fun _ => 0) (fun _ => 0) (fun _ => 0) (fun _ => 0) (fun _ => 0)) a = .inl (cA, N, .inr (.inl (fun _ => 0))) := by
    rw [sg_F_l (k := K) gp_h1e h1 h2, hcA, gp_h2e, gp_q5e]
    show (Sum.inl ((gp_h h a K N (fun _ => 0)).2.2.1 _, _, _) : va_E) = _
    rw [show (gp_h h a K N (fun _ => 0)).2.2.1 = cT from hcT]
  rw [List.append_assoc, gp_pl ha he] at hP1 hD1
  exact kk a _ _ _ (cc_gr.gp ha) (List.mem_append_right _ (List.mem_singleton.mpr rfl)) gp_h1e gp_h2e hcT (gp_V hV ha (fun k hk => absurd (htk k) hk) hb5 (fun z => absurd z (by omega)) (fun k => hRk _ k) (fun _ => hE)) (fun j => by rw [gp_q4e]) (fun j => by rw [gp_q5e]) ls H1 locs hl hP1 hD1 hS1
theorem wc_newB (B : BC dC dI cT mL cc own Ts A Z) (K N : Nat) {n : Int32} (h1 : 300 ≤ K) (h2 : K < 400) (hcT : h.2.2.1 = cT) (hV : sx_V h L q) (hE : sx_E K 0) (htk : ∀ k, sx_tk K k = 0) (hRk : ∀ c k, sx_R K c k 0) (harr : Cond.arrayClass .byte ∈ Ts) (hn : ¬ n < 0) (hN : n.toNatClampNeg = N) (hb5 : N ≤ 5000) (hcells : cells + 1 ≤ R.cells) (hslots : slots + N ≤ R.slots) (hd : decode cc pc = .ok (.newarray .byte, 2)) (kk : ∀ (a : Nat) (M : List Nat) (g : Sh) (r : Sg), cc_gr L h q M g r → a ∈ M → g.1 a = K → g.2.1 a = N → g.2.2.1 = cT → sx_V g M r → (∀ j, r.2.2.2.1 a j = 0) → (∀ j, r.2.2.2.2 a j = 0) → WC l dC dI R mL Z A X M g r (cells + 1) (slots + N) (pc + 2) lvs (.ref a :: rest)) : WC l dC dI R mL Z A X L h q cells slots pc lvs (.int n :: rest) := by
  intro ls H locs hl hP hD hS
  refine va_newa (atype := .byte) (ty := .byte) (a0 := (N, .inl (fun _ => 0))) (N' := N) B.1.1 B.1.2.1 (B.1.2.2.2.2 _ harr) rfl B.2.1 hP hD hS B.2.2.1 (fun cA => vp_cell_i cA N (fun _ => 0)) hn hN (by show N * _ ≤ 536870912; simp [componentBytes]; omega) hcells hslots hd (fun a cA H1 hK1 hP1 hD1 hS1 => ?_)
  have hcA : cA = cT 300 := cc_RA (hK1.2 8 _ rfl).2 (B.2.1.2 2 _ rfl).2
  have ha := cc_new hD1
  have he : sg_F (gp_h h a K N (fun _ => 0)) (gp_q q a (fun _ => 0) (fun _ => 0) (fun _ => 0) (fun _ => 0) (fun _ => 0)) a = .inl (cA, N, .inl (fun _ => 0)) := by
    rw [sg_F_b (k := K) gp_h1e h1 h2, hcA, gp_h2e, gp_q4e]
    show (Sum.inl ((gp_h h a K N (fun _ => 0)).2.2.1 _, _, _) : va_E) = _
    rw [show (gp_h h a K N (fun _ => 0)).2.2.1 = cT from hcT]
  rw [List.append_assoc, gp_pl ha he] at hP1 hD1
  exact kk a _ _ _ (cc_gr.gp ha) (List.mem_append_right _ (List.mem_singleton.mpr rfl)) gp_h1e gp_h2e hcT (gp_V hV ha (fun k hk => absurd (htk k) hk) hb5 (fun z => absurd z (by omega)) (fun k => hRk _ k) (fun _ => hE)) (fun j => by rw [gp_q4e]) (fun j => by rw [gp_q5e]) ls H1 locs hl hP1 hD1 hS1
end CR
