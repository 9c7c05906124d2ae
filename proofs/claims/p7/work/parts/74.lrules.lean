def BL (dC : Nat → ClassId) (dI : Nat → Nat → Nat) (cT : Nat → ClassId) (mL : Nat) (cc : ByteArray) (own : String) (Ts : List Cond) (A : Nat → Prop) (Z : Zt) : Prop :=
  CallFix Z.1 Z.2.2.2.1 Z.2.2.2.2.2.2.2.1 cc mL Z.2.2.1 Z.2.2.2.2.1 Ts own ∧ va_K (dC, dI) vwCl (cc_tys cT) Z.2.2.1 ∧ (∀ a, Z.2.2.1.heap.size ≤ a → A a) ∧ zz_X Z.2.2.1 ∧ ZZ A Z.2.2.1 ∧ True
section LR
variable {l : Launch} {dC : Nat → ClassId} {dI : Nat → Nat → Nat} {cT : Nat → ClassId} {R : Room} {mL : Nat} {cc : ByteArray} {own : String} {Ts : List Cond} {A : Nat → Prop} {Z : Zt} {X X2 : va_W} {L : List Nat} {h : Sh} {q : Sg} {cells slots pc : Nat} {lvs : List (Nat × Value)} {rest st : List Value}
theorem wl_iconst (B : BL dC dI cT mL cc own Ts A Z) {n : Int} (v : Int32) (hd : decode cc pc = .ok (.iconst n, 1)) (hv : Int32.ofInt n = v) (kk : WC l dC dI R mL Z A X L h q cells slots (pc + 1) lvs (.int v :: rest)) : WC l dC dI R mL Z A X L h q cells slots pc lvs rest := by
  intro ls H locs hl hP hD hS
  exact lv_iconst B.1.1 B.1.2.1 hd hv (kk ls H locs hl hP hD hS)
theorem wl_dup (B : BL dC dI cT mL cc own Ts A Z) {x : Value} (hd : decode cc pc = .ok (.dup, 1)) (hx : x.category = 1) (kk : WC l dC dI R mL Z A X L h q cells slots (pc + 1) lvs (x :: x :: rest)) : WC l dC dI R mL Z A X L h q cells slots pc lvs (x :: rest) := by
  intro ls H locs hl hP hD hS
  exact lv_dup B.1.1 B.1.2.1 hd hx (kk ls H locs hl hP hD hS)
theorem wl_new (B : BL dC dI cT mL cc own Ts A Z) {C : String} {T : u_T} {N ci index : Nat} (hin : ∀ w ∈ u_ws C T N, w ∈ Ts) (ty : Nat → FieldType) (hty : ∀ k, k < N → parseFieldDescriptor (T k).2.2.1 = some (ty k)) (hcl : Cond.classLink own index C ∈ Ts) (hinst : Cond.instantiable C N ∈ Ts) (hini : Cond.initialized C ∈ Ts) (hc : vwCl[ci]? = some (C, T, N)) {fs : List Value} (hfs : ∀ j, j < N → defaultValue (ty j) = vp_V fs j) (hcells : cells + 1 ≤ R.cells) (hslots : slots + N ≤ R.slots) (hd : decode cc pc = .ok (.new index, 3)) (kk : ∀ a : Nat, a ∉ L → A a → WC l dC dI R mL Z A (X ++ [(a, .inr (ci, fs))]) L h q (cells + 1) (slots + N) (pc + 3) lvs (.ref a :: rest)) : WC l dC dI R mL Z A X L h q cells slots pc lvs rest := by
  intro ls H locs hl hP hD hS
  refine va_new (D := (dC, dI)) (fs := fs) B.1.1 B.1.2.1 B.1.2.2.2.2 hin ty hty B.1.2.2.2.1 (B.1.2.2.2.2 _ hcl) (B.1.2.2.2.2 _ hinst) (B.1.2.2.2.2 _ hini) B.2.1 hP hD hS B.2.2.1 hc hfs hcells hslots hd (fun a H1 hP1 hD1 hS1 => ?_)
  exact kk a (cc_new hD1) (hD1.2 (X ++ va_pl L (sg_F h q)).length (a, .inr (ci, fs)) (by rw [List.getElem?_append_right (Nat.le_refl _), Nat.sub_self]; rfl)) ls H1 locs hl (wc_permP wc_swap hP1) (wc_permD wc_swap hD1) hS1
theorem wl_nw (B : BL dC dI cT mL cc own Ts A Z) {C : String} {T : u_T} {N ci index : Nat} (hin : ∀ w ∈ u_ws C T N, w ∈ Ts) (ty : Nat → FieldType) (hty : ∀ k, k < N → parseFieldDescriptor (T k).2.2.1 = some (ty k)) (hcl : Cond.classLink own index C ∈ Ts) (hinst : Cond.instantiable C N ∈ Ts) (hini : Cond.initialized C ∈ Ts) (hc : vwCl[ci]? = some (C, T, N)) {fs : List Value} (hfs : ∀ j, j < N → defaultValue (ty j) = vp_V fs j) (hcells : cells + 1 ≤ R.cells) (hslots : slots + N ≤ R.slots) (hd : decode cc pc = .ok (.new index, 3)) (kk : ∀ a : Nat, WC l dC dI R mL Z A (X ++ [(a, .inr (ci, fs))]) L h q (cells + 1) (slots + N) (pc + 3) lvs (.ref a :: rest)) : WC l dC dI R mL Z A X L h q cells slots pc lvs rest :=
  wl_new B hin ty hty hcl hinst hini hc hfs hcells hslots hd (fun a _ _ => kk a)
theorem wl_init (B : BL dC dI cT mL cc own Ts A Z) (q0 : Nat) {b ci n index maxL mc ms : Nat} {fs : List Value} (he : X[q0]? = some (b, .inr (ci, fs))) (hX2 : X.eraseIdx q0 = X2) {y : MethodName} {bytes : ByteArray} {ws : List Cond} {rm : Room} {As : List Value} {ex : U3 → Prop} (hM : CCI l dC dI cT y ws rm ci fs As b ex mc ms) (cw : CallB R Z.2.2.1 Z.2.2.2.2.1 own index y bytes maxL none ws rm mc ms n ∧ y.name = "<init>" ∧ (Cond.instanceMethod y).before Z.2.2.2.2.1 Z.2.2.1 = true) (hcT : h.2.2.1 = cT) (hV : sx_V h L q) (hn : As.length = n) (hst : st = As.reverse ++ .ref b :: rest) (hW : (rest.map fun v => v.category).sum ≤ 8) (hcells : cells + mc ≤ R.cells) (hslots : slots + ms ≤ R.slots) (hd : decode cc pc = .ok (.invokespecial index, 3))
    (kk : ∀ (M : List Nat) (g : Sh) (r : Sg) (M0 : List Nat) (g0 : Sh) (r0 : Sg), cc_gr L h q M g r → cc_gr M0 g0 r0 M g r → ex (M0, g0, r0) → b ∈ M → g.1 b = ci → g.2.2.1 = cT → sx_V g M r → WC l dC dI R mL Z A X2 M g r (cells + mc) (slots + ms) (pc + 3) lvs rest) : WC l dC dI R mL Z A X L h q cells slots pc lvs st := by
  intro ls H locs hl hP hD hS
  subst hst
  have hat := hP q0 _ (wc_at he)
  have hfree : ∀ a, cc_A b H.size a → A a := fun a ha => by
    rcases ha with e | e
    · rw [e]; exact hD.2 q0 _ (wc_at he)
    · exact B.2.2.1 a (Nat.le_trans hS.1 e)
  have hPb : va_P (dC, dI) vwCl [(b, .inr (ci, fs))] H := fun k z hk => by
    have h1 : k < 1 := (List.getElem?_eq_some_iff.mp hk).1
    obtain rfl : k = 0 := by omega
    have e : (b, Sum.inr (ci, fs)) = z := Option.some.inj hk
    subst e
    exact hat
  have hlt : b < H.size := hat.lt
  have hP2 := wc_permP (wc_erase he) hP
  have hD2 := wc_permD (wc_erase he) hD
  rw [hX2, ← List.append_assoc] at hP2 hD2
  refine va_callv (va_runI (As := As) (rest := rest) B.1 (hM H.size) cw ⟨fun a U g mk z => by obtain ⟨z0, z1, zl, zP, zK, zX, zZ⟩ := z; exact ⟨z0, z1, zl, zP, va_K.moved (u := U) (U := U.calling g mk a) (Vm.Alike.refl U.vm) zK, zz_X.same (u := U) (U := U.calling g mk a) rfl zX, zZ.calling⟩, fun U hU hW9 => ⟨rfl, by rw [hU], hlt, by rw [hU]; exact hPb, va_K.moved hW9.alike B.2.1, zz_X.warm hW9 B.2.2.2.1, B.2.2.2.2.1.enter hU hW9 hS hfree⟩⟩ rfl hn hl.1 rfl (lv_room hW) hd ⟨hcells, hslots⟩) hS (fun a _ z => hfree a z) hfree (fun u t H1 locs1 ht hvm hw hB hz1 hk1 hS1 => ?_)
  obtain ⟨M, g, r⟩ := u
  obtain ⟨⟨uN, uV, ucT, uA, ub, uk⟩, hex⟩ := hw
  have hB : va_P (dC, dI) vwCl (va_pl M (sg_F g r)) H1 := by subst ht; exact hB
  have hlt2 : ∀ (k : Nat) (z : Nat × va_E), (X2 ++ va_pl L (sg_F h q))[k]? = some z → z.1 < H.size ∧ z.1 ≠ b := fun k z hk => by
    have hkl := (List.getElem?_eq_some_iff.mp hk).1
    have hk2 : ((X2 ++ va_pl L (sg_F h q)) ++ [(b, .inr (ci, fs))])[k]? = some z := by rw [List.getElem?_append_left hkl]; exact hk
    refine ⟨(hP2 k z hk2).lt, fun e => ?_⟩
    have := hD2.1 k (X2 ++ va_pl L (sg_F h q)).length z (b, .inr (ci, fs)) hk2 (by rw [List.getElem?_append_right (Nat.le_refl _), Nat.sub_self]; rfl) e
    omega
  have hP3 : va_P (dC, dI) vwCl (X2 ++ va_pl L (sg_F h q)) H1 := fun k z hk => by
    obtain ⟨z1, z2⟩ := hlt2 k z hk
    have hkl := (List.getElem?_eq_some_iff.mp hk).1
    exact (hP2 k z (by rw [List.getElem?_append_left hkl]; exact hk)).kept (hk1 z.1 z1 (fun w => by rcases w with w | w; exact z2 w; omega))
  have hD3 : va_D A (X2 ++ va_pl L (sg_F h q)) := ⟨fun i j p1 p2 hi hj e => hD2.1 i j p1 p2 (by rw [List.getElem?_append_left (List.getElem?_eq_some_iff.mp hi).1]; exact hi) (by rw [List.getElem?_append_left (List.getElem?_eq_some_iff.mp hj).1]; exact hj) e, fun k z hk => hD2.2 k z (by rw [List.getElem?_append_left (List.getElem?_eq_some_iff.mp hk).1]; exact hk)⟩
  have hap : ∀ x, x ∈ M → x ∉ L := fun x hx hxL => by
    obtain ⟨i, hi⟩ := List.mem_iff_getElem?.mp hxL
    have e1 : (X2 ++ va_pl L (sg_F h q))[X2.length + i]? = some (x, sg_F h q x) := by
      rw [List.getElem?_append_right (by omega), Nat.add_sub_cancel_left]
      unfold va_pl
      rw [List.getElem?_map, hi]
      rfl
    obtain ⟨z1, z2⟩ := hlt2 _ _ e1
    rcases uA x hx with w | w
    · exact z2 w
    · have : x < H.size := z1
      omega
  have hD4 : va_D A (va_pl M (sg_F g r)) := wc_plD uN (fun a ha => hfree a (uA a ha))
  have hP5 := hP3.app hB
  have hD5 := hD3.app hD4 (fun i j p1 p2 hi hj e => by
    obtain ⟨z1, z2⟩ := hlt2 i p1 hi
    unfold va_pl at hj
    rw [List.getElem?_map] at hj
    obtain ⟨x, hx, e9⟩ := Option.map_eq_some_iff.mp hj
    have e8 : p1.1 = x := by rw [e, ← e9]
    rcases uA x (List.mem_of_getElem? hx) with w | w
    · exact z2 (e8.trans w)
    · omega)
  rw [List.append_assoc, gl_pl (hcT.trans ucT.symm) hap] at hP5 hD5
  obtain ⟨f1, -⟩ := gl_1r (h := h) (g := g) (q := q) (r := r) (hap b ub)
  exact kk _ _ _ M g r cc_gr.gl1 (cc_gr.gl2 hap) hex (List.mem_append_right _ ub) (f1.trans uk) hcT (gl_V hV uV hap) ls H1 locs1 hl hP5 hD5 hS1
theorem wl_newL (B : BL dC dI cT mL cc own Ts A Z) (K N : Nat) {n : Int32} (h1 : 200 ≤ K) (h2 : K < 300) (hcT : h.2.2.1 = cT) (hV : sx_V h L q) (hE : sx_E K 0) (htk : ∀ k, sx_tk K k = 0) (hRk : ∀ c k, sx_R K c k 0) (harr : Cond.arrayClass .long ∈ Ts) (hn : ¬ n < 0) (hN : n.toNatClampNeg = N) (hb5 : N ≤ 5000) (hcells : cells + 1 ≤ R.cells) (hslots : slots + N ≤ R.slots) (hd : decode cc pc = .ok (.newarray .long, 2)) (kk : ∀ (a : Nat) (M : List Nat) (g : Sh) (r : Sg), cc_gr L h q M g r → a ∈ M → g.1 a = K → g.2.1 a = N → g.2.2.1 = cT → sx_V g M r → (∀ j, r.2.2.2.1 a j = 0) → (∀ j, r.2.2.2.2 a j = 0) → WC l dC dI R mL Z A X M g r (cells + 1) (slots + N) (pc + 2) lvs (.ref a :: rest)) : WC l dC dI R mL Z A X L h q cells slots pc lvs (.int n :: rest) := by
  intro ls H locs hl hP hD hS
  refine va_newa (atype := .long) (ty := .long) (a0 := (N, .inr (.inl (fun _ => 0)))) (N' := N) B.1.1 B.1.2.1 (B.1.2.2.2.2 _ harr) rfl B.2.1 hP hD hS B.2.2.1 (fun cA => vp_cell_l cA N (fun _ => 0)) hn hN (by show N * _ ≤ 536870912; simp [componentBytes]; omega) hcells hslots hd (fun a cA H1 hK1 hP1 hD1 hS1 => ?_)
  have hcA : cA = cT 200 := cc_RA (hK1.2 8 _ rfl).2 (B.2.1.2 1 _ rfl).2
  have ha := cc_new hD1
  have he : sg_F (gp_h h a K N (fun _ => 0)) (gp_q q a (fun _ => 0) (fun _ => 0) (fun _ => 0) (fun _ => 0) (fun _ => 0)) a = .inl (cA, N, .inr (.inl (fun _ => 0))) := by
    rw [sg_F_l (k := K) gp_h1e h1 h2, hcA, gp_h2e, gp_q5e]
    show (Sum.inl ((gp_h h a K N (fun _ => 0)).2.2.1 _, _, _) : va_E) = _
    rw [show (gp_h h a K N (fun _ => 0)).2.2.1 = cT from hcT]
  rw [List.append_assoc, gp_pl ha he] at hP1 hD1
  exact kk a _ _ _ (cc_gr.gp ha) (List.mem_append_right _ (List.mem_singleton.mpr rfl)) gp_h1e gp_h2e hcT (gp_V hV ha (fun k hk => absurd (htk k) hk) hb5 (fun z => absurd z (by omega)) (fun k => hRk _ k) (fun _ => hE)) (fun j => by rw [gp_q4e]) (fun j => by rw [gp_q5e]) ls H1 locs hl hP1 hD1 hS1
theorem wl_nL (B : BL dC dI cT mL cc own Ts A Z) (K N : Nat) {n : Int32} (h1 : 200 ≤ K) (h2 : K < 300) (hcT : h.2.2.1 = cT) (hV : sx_V h L q) (harr : Cond.arrayClass .long ∈ Ts) (hn : ¬ n < 0) (hN : n.toNatClampNeg = N) (hb5 : N ≤ 5000) (hcells : cells + 1 ≤ R.cells) (hslots : slots + N ≤ R.slots) (hd : decode cc pc = .ok (.newarray .long, 2)) (kk : ∀ (a : Nat) (M : List Nat) (g : Sh) (r : Sg), cc_gr L h q M g r → cc_y M g a K N → cc_z M r a → g.2.2.1 = cT → sx_V g M r → WC l dC dI R mL Z A X M g r (cells + 1) (slots + N) (pc + 2) lvs (.ref a :: rest)) : WC l dC dI R mL Z A X L h q cells slots pc lvs (.int n :: rest) :=
  wl_newL B K N h1 h2 hcT hV (cc_E0 K) (fun _ => cc_tk (by omega)) (fun c k => cc_R0 K c k) harr hn hN hb5 hcells hslots hd (fun a M g r z0 z1 z2 z3 z4 z5 z6 z7 => kk a M g r z0 ⟨z1, z2, z3⟩ ⟨z1, z6, z7⟩ z4 z5)
theorem wl_astore_n (B : BL dC dI cT mL cc own Ts A Z) {k : Fin 4} {i x : Nat} (lvs2 : List (Nat × Value)) (hd : decode cc pc = .ok (.astore_n k, 1)) (hi : (k : Nat) = i) (hn : i < mL) (he : (i, Value.ref x) :: lvs.filter (fun q => !(q.1 == i) && !(q.1 + 1 == i && q.2.category == 2)) = lvs2) (kk : WC l dC dI R mL Z A X L h q cells slots (pc + 1) lvs2 rest) : WC l dC dI R mL Z A X L h q cells slots pc lvs (.ref x :: rest) := by
  intro ls H locs hl hP hD hS
  exact lv_astore_n B.1.1 B.1.2.1 hd hi hl hn he (fun ls2 hl2 => kk ls2 H locs hl2 hP hD hS)
theorem wl_istore (B : BL dC dI cT mL cc own Ts A Z) {i : Nat} {x : Int32} (lvs2 : List (Nat × Value)) (hd : decode cc pc = .ok (.istore i, 2)) (hn : i < mL) (he : (i, Value.int x) :: lvs.filter (fun q => !(q.1 == i) && !(q.1 + 1 == i && q.2.category == 2)) = lvs2) (kk : WC l dC dI R mL Z A X L h q cells slots (pc + 2) lvs2 rest) : WC l dC dI R mL Z A X L h q cells slots pc lvs (.int x :: rest) := by
  intro ls H locs hl hP hD hS
  exact lv_istore B.1.1 B.1.2.1 hd hl hn he (fun ls2 hl2 => kk ls2 H locs hl2 hP hD hS)
end LR
/-! the classes of arrays that the tables hold -/
theorem cc_pc {ty : FieldType} {args : Array Value} {s : State} (h : (Cond.arrayClass ty).before args s = true) : ∃ cA : ClassId, ArrOfT s cA ty ∧ s.vm.findClass ("[" ++ ty.toString) = some cA := by
  obtain ⟨c, k, comp, h1, h2, h3⟩ := Cond.arrayClass_spec h
  exact ⟨c, fun N z => ⟨(fun k h => by cases h), k, h2, comp, h3⟩, h1⟩
theorem cc_oc {C : String} {s : State} (h : va_AO C s) : ∃ cA : ClassId, ArrOfT s cA (.object C) ∧ va_RA s cA (.object C) := by
  obtain ⟨comp, c, k, h1, h2, h3, h4, h5⟩ := Cond.arrayOver_spec h
  exact ⟨c, fun N z => ⟨(fun k h => by cases h), k, h3, comp, h4⟩, k, comp, h3, h4, h1, h5⟩
theorem cc_ac {ty : FieldType} {s : State} (h : va_AOA ty s) : ∃ cA : ClassId, ArrOfT s cA (.array ty) ∧ va_RA s cA (.array ty) := by
  unfold va_AOA Cond.before Cond.holds at h
  simp only [Cond.value, beq_iff_eq] at h
  cases hc : s.vm.findClass (FieldType.array ty).toString with
  | none => simp [hc] at h
  | some comp =>
    simp only [hc, Option.bind_some, Option.bind_eq_some_iff, Option.map_eq_some_iff] at h
    obtain ⟨c, hi0, k, hk, hb⟩ := h
    cases hkind : k.kind with
    | array component ty' =>
      rw [hkind] at hb
      simp at hb
      have hkind' : k.kind = .array component (.array ty) := by rw [hkind, hb.1]
      exact ⟨c, fun N z => ⟨(fun k h => by cases h), k, hk, component, hkind'⟩, hb.2⟩
    | _ => rw [hkind] at hb; simp at hb
theorem cc_K {D : va_G} {s : State} (hKc : ∀ (k : Nat) (q : vw_C), vwCl[k]? = some q → u_Kn s q.1 q.2.1 q.2.2 (D.1 k) (D.2 k)) {args : Array Value} (h1 : (Cond.arrayClass .int).before args s = true) (h2 : (Cond.arrayClass .long).before args s = true) (h3 : (Cond.arrayClass .byte).before args s = true) (hz : zz_X s) : ∃ cT : Nat → ClassId, va_K D vwCl (cc_tys cT) s := by
  obtain ⟨c1, f1⟩ := cc_pc h1
  obtain ⟨c2, f2⟩ := cc_pc h2
  obtain ⟨c3, f3⟩ := cc_pc h3
  obtain ⟨c4, f4⟩ := cc_oc hz.ao_X5
  obtain ⟨c5, f5⟩ := cc_oc hz.ao_X2
  obtain ⟨c6, f6⟩ := cc_oc hz.ao_X1
  obtain ⟨c7, f7⟩ := cc_oc hz.ao_X0
  obtain ⟨c8, f8⟩ := cc_ac hz.aoa
  refine ⟨fun k => if k = 13 then c1 else if k = 200 then c2 else if k = 300 then c3 else if k = 400 then c4 else if k = 401 then c5 else if k = 402 then c6 else if k = 403 then c7 else c8, hKc, fun k q hk => ?_⟩
  match k, hk with
  | 0, hk => cases hk; exact f1
  | 1, hk => cases hk; exact f2
  | 2, hk => cases hk; exact f3
  | 3, hk => cases hk; exact f4
  | 4, hk => cases hk; exact f5
  | 5, hk => cases hk; exact f6
  | 6, hk => cases hk; exact f7
  | 7, hk => cases hk; exact f8
  | k + 8, hk => simp [cc_tys] at hk
/-- a reference in a field -/
def cc_r (M : List Nat) (r : Sg) (a k v : Nat) : Prop := a ∈ M ∧ r.2.2.1 a k = v
theorem cc_r.gr {L M : List Nat} {h g : Sh} {q r : Sg} {a k v : Nat} (z : cc_r L q a k v) (hg : cc_gr L h q M g r) : cc_r M r a k v := by
  obtain ⟨y0, -, -, -, -, -, y6, -⟩ := hg a z.1
  exact ⟨y0, by rw [y6]; exact z.2⟩
/-- all int fields are 0 -/
def cc_i (M : List Nat) (r : Sg) (a : Nat) : Prop := a ∈ M ∧ ∀ k, r.1 a k = 0
theorem cc_i.gr {L M : List Nat} {h g : Sh} {q r : Sg} {a : Nat} (z : cc_i L q a) (hg : cc_gr L h q M g r) : cc_i M r a := by
  obtain ⟨y0, -, -, -, y4, -⟩ := hg a z.1
  exact ⟨y0, fun k => by rw [y4]; exact z.2 k⟩

