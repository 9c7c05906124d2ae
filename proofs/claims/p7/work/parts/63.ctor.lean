theorem va_AOA.moved {ty : FieldType} {u U : State} (hvm : u.vm.Alike U.vm) (h : va_AOA ty u) : va_AOA ty U := by
  unfold va_AOA Cond.before Cond.holds at h
  simp only [Cond.value, beq_iff_eq] at h
  cases hc : u.vm.findClass (FieldType.array ty).toString with
  | none => simp [hc] at h
  | some comp =>
    simp only [hc, Option.bind_some, Option.bind_eq_some_iff, Option.map_eq_some_iff] at h
    obtain ⟨c, hi0, k, hk, hb⟩ := h
    obtain ⟨k', hk', he⟩ := hvm.2.2 _ _ hk
    have hi : (U.vm.classes.findIdx? fun (x : Class) => match x.kind with | .array component _ => component == comp | _ => false) = some c := by
      have e1 := va_idx_bare u.vm comp
      have e2 := va_idx_bare U.vm comp
      first | rw [hvm.bare_eq] at e1 | rw [← hvm.bare_eq] at e1
      exact e2.symm.trans (e1.trans hi0)
    have f1 : U.vm.findClass (FieldType.array ty).toString = some comp := by rw [hvm.findClass]; exact hc
    cases hkind : k.kind with
    | array component ty' =>
      rw [hkind] at hb
      simp at hb
      have hkind' : k'.kind = .array component (.array ty) := by rw [he, hkind, hb.1]
      have f2 : U.vm.findClass ("[" ++ (FieldType.array ty).toString) = some c := by rw [hvm.findClass]; exact hb.2
      unfold va_AOA Cond.before Cond.holds
      simp only [Cond.value]
      rw [f1, Option.bind_some]
      refine (congrArg (fun o : Option Nat => (o.bind (fun c => (U.vm.classes[c]?).map fun (k : Class) => match k.kind with | .array _ t => decide (t = FieldType.array ty) && decide (U.vm.findClass ("[" ++ (FieldType.array ty).toString) = some c) | _ => false) == some true)) hi).trans ?_
      simp [hk', hkind', f2]
    | _ => rw [hkind] at hb; simp at hb
def zz_X (U : State) : Prop := va_AO RX2 U ∧ va_AO RX1 U ∧ va_AO RX5 U ∧ va_AO RX0 U ∧ va_AOA .long U ∧ va_Nw (.methodLinkNest RX10 11 yX8_init RX11) U ∧ va_Nw (.methodLinkNest RX11 26 yX10_init RX11) U ∧ va_Nw (.methodLinkNest RX11 33 yX6_init RX11) U ∧ va_Nw (.methodLinkNest RX11 40 yX4_init RX11) U ∧ va_Nw (.methodLinkNest RX11 75 yX9_init RX11) U ∧ va_Nw (.methodLinkNest RX11 83 yX0_init RX11) U ∧ va_Nw (.methodLinkNest RX5 23 yX2_init RX11) U ∧ va_Nw (.methodLinkNest RX5 24 yX1_init RX11) U ∧ va_Nw (.methodLinkNest RX6 11 yX8_init RX11) U
theorem zz_X.ao_X2 {U : State} (h : zz_X U) : va_AO RX2 U := h.1
theorem zz_X.ao_X1 {U : State} (h : zz_X U) : va_AO RX1 U := h.2.1
theorem zz_X.ao_X5 {U : State} (h : zz_X U) : va_AO RX5 U := h.2.2.1
theorem zz_X.ao_X0 {U : State} (h : zz_X U) : va_AO RX0 U := h.2.2.2.1
theorem zz_X.aoa {U : State} (h : zz_X U) : va_AOA .long U := h.2.2.2.2.1
theorem zz_X.n_RX10_11 {U : State} (h : zz_X U) : va_Nw (.methodLinkNest RX10 11 yX8_init RX11) U := h.2.2.2.2.2.1
theorem zz_X.n_RX11_26 {U : State} (h : zz_X U) : va_Nw (.methodLinkNest RX11 26 yX10_init RX11) U := h.2.2.2.2.2.2.1
theorem zz_X.n_RX11_33 {U : State} (h : zz_X U) : va_Nw (.methodLinkNest RX11 33 yX6_init RX11) U := h.2.2.2.2.2.2.2.1
theorem zz_X.n_RX11_40 {U : State} (h : zz_X U) : va_Nw (.methodLinkNest RX11 40 yX4_init RX11) U := h.2.2.2.2.2.2.2.2.1
theorem zz_X.n_RX11_75 {U : State} (h : zz_X U) : va_Nw (.methodLinkNest RX11 75 yX9_init RX11) U := h.2.2.2.2.2.2.2.2.2.1
theorem zz_X.n_RX11_83 {U : State} (h : zz_X U) : va_Nw (.methodLinkNest RX11 83 yX0_init RX11) U := h.2.2.2.2.2.2.2.2.2.2.1
theorem zz_X.n_RX5_23 {U : State} (h : zz_X U) : va_Nw (.methodLinkNest RX5 23 yX2_init RX11) U := h.2.2.2.2.2.2.2.2.2.2.2.1
theorem zz_X.n_RX5_24 {U : State} (h : zz_X U) : va_Nw (.methodLinkNest RX5 24 yX1_init RX11) U := h.2.2.2.2.2.2.2.2.2.2.2.2.1
theorem zz_X.n_RX6_11 {U : State} (h : zz_X U) : va_Nw (.methodLinkNest RX6 11 yX8_init RX11) U := h.2.2.2.2.2.2.2.2.2.2.2.2.2
theorem zz_al {u U : State} (hv : u.vm = U.vm) : u.vm.Alike U.vm := by
  rw [hv]
  exact Vm.Alike.refl U.vm
theorem zz_X.warm {s U : State} (hW : s.WarmedH U.vm) (h : zz_X s) : zz_X U := ⟨va_AO.moved hW.alike h.1, va_AO.moved hW.alike h.2.1, va_AO.moved hW.alike h.2.2.1, va_AO.moved hW.alike h.2.2.2.1, va_AOA.moved hW.alike h.2.2.2.2.1, va_Nw.warmM hW h.2.2.2.2.2.1, va_Nw.warmM hW h.2.2.2.2.2.2.1, va_Nw.warmM hW h.2.2.2.2.2.2.2.1, va_Nw.warmM hW h.2.2.2.2.2.2.2.2.1, va_Nw.warmM hW h.2.2.2.2.2.2.2.2.2.1, va_Nw.warmM hW h.2.2.2.2.2.2.2.2.2.2.1, va_Nw.warmM hW h.2.2.2.2.2.2.2.2.2.2.2.1, va_Nw.warmM hW h.2.2.2.2.2.2.2.2.2.2.2.2.1, va_Nw.warmM hW h.2.2.2.2.2.2.2.2.2.2.2.2.2⟩
theorem zz_X.same {u U : State} (hv : u.vm = U.vm) (h : zz_X u) : zz_X U := ⟨va_AO.moved (zz_al hv) h.1, va_AO.moved (zz_al hv) h.2.1, va_AO.moved (zz_al hv) h.2.2.1, va_AO.moved (zz_al hv) h.2.2.2.1, va_AOA.moved (zz_al hv) h.2.2.2.2.1, va_Nw.same rfl hv h.2.2.2.2.2.1, va_Nw.same rfl hv h.2.2.2.2.2.2.1, va_Nw.same rfl hv h.2.2.2.2.2.2.2.1, va_Nw.same rfl hv h.2.2.2.2.2.2.2.2.1, va_Nw.same rfl hv h.2.2.2.2.2.2.2.2.2.1, va_Nw.same rfl hv h.2.2.2.2.2.2.2.2.2.2.1, va_Nw.same rfl hv h.2.2.2.2.2.2.2.2.2.2.2.1, va_Nw.same rfl hv h.2.2.2.2.2.2.2.2.2.2.2.2.1, va_Nw.same rfl hv h.2.2.2.2.2.2.2.2.2.2.2.2.2⟩
set_option maxRecDepth 100000 in
theorem zz_defX0 (j : Nat) (hj : j < 4) : defaultValue (tyX0 j) = vp_V [.null, .int 0, .int 0, .int 0] j := by rcases (show j = 0 ∨ j = 1 ∨ j = 2 ∨ j = 3 by omega) with rfl | rfl | rfl | rfl <;> rfl
set_option maxRecDepth 100000 in
theorem zz_defX1 (j : Nat) (hj : j < 7) : defaultValue (tyX1 j) = vp_V [.int 0, .int 0, .int 0, .int 0, .int 0, .int 0, .int 0] j := by rcases (show j = 0 ∨ j = 1 ∨ j = 2 ∨ j = 3 ∨ j = 4 ∨ j = 5 ∨ j = 6 by omega) with rfl | rfl | rfl | rfl | rfl | rfl | rfl <;> rfl
set_option maxRecDepth 100000 in
theorem zz_defX2 (j : Nat) (hj : j < 6) : defaultValue (tyX2 j) = vp_V [.int 0, .int 0, .int 0, .int 0, .int 0, .int 0] j := by rcases (show j = 0 ∨ j = 1 ∨ j = 2 ∨ j = 3 ∨ j = 4 ∨ j = 5 by omega) with rfl | rfl | rfl | rfl | rfl | rfl <;> rfl
set_option maxRecDepth 100000 in
theorem zz_defX3 (j : Nat) (hj : j < 5) : defaultValue (tyX3 j) = vp_V [.null, .int 0, .int 0, .null, .null] j := by rcases (show j = 0 ∨ j = 1 ∨ j = 2 ∨ j = 3 ∨ j = 4 by omega) with rfl | rfl | rfl | rfl | rfl <;> rfl
set_option maxRecDepth 100000 in
theorem zz_defX4 (j : Nat) (hj : j < 7) : defaultValue (tyX4 j) = vp_V [.int 0, .null, .null, .null, .null, .null, .int 0] j := by rcases (show j = 0 ∨ j = 1 ∨ j = 2 ∨ j = 3 ∨ j = 4 ∨ j = 5 ∨ j = 6 by omega) with rfl | rfl | rfl | rfl | rfl | rfl | rfl <;> rfl
set_option maxRecDepth 100000 in
theorem zz_defX5 (j : Nat) (hj : j < 7) : defaultValue (tyX5 j) = vp_V [.null, .null, .int 0, .int 0, .int 0, .int 0, .int 0] j := by rcases (show j = 0 ∨ j = 1 ∨ j = 2 ∨ j = 3 ∨ j = 4 ∨ j = 5 ∨ j = 6 by omega) with rfl | rfl | rfl | rfl | rfl | rfl | rfl <;> rfl
set_option maxRecDepth 100000 in
theorem zz_defX6 (j : Nat) (hj : j < 8) : defaultValue (tyX6 j) = vp_V [.null, .int 0, .int 0, .int 0, .int 0, .int 0, .int 0, .int 0] j := by rcases (show j = 0 ∨ j = 1 ∨ j = 2 ∨ j = 3 ∨ j = 4 ∨ j = 5 ∨ j = 6 ∨ j = 7 by omega) with rfl | rfl | rfl | rfl | rfl | rfl | rfl | rfl <;> rfl
set_option maxRecDepth 100000 in
theorem zz_defX7 (j : Nat) (hj : j < 2) : defaultValue (tyX7 j) = vp_V [.null, .int 0] j := by rcases (show j = 0 ∨ j = 1 by omega) with rfl | rfl <;> rfl
set_option maxRecDepth 100000 in
theorem zz_defX8 (j : Nat) (hj : j < 11) : defaultValue (tyX8 j) = vp_V [.int 0, .int 0, .long 0, .int 0, .int 0, .int 0, .int 0, .null, .int 0, .int 0, .int 0] j := by rcases (show j = 0 ∨ j = 1 ∨ j = 2 ∨ j = 3 ∨ j = 4 ∨ j = 5 ∨ j = 6 ∨ j = 7 ∨ j = 8 ∨ j = 9 ∨ j = 10 by omega) with rfl | rfl | rfl | rfl | rfl | rfl | rfl | rfl | rfl | rfl | rfl <;> rfl
set_option maxRecDepth 100000 in
theorem zz_defX9 (j : Nat) (hj : j < 7) : defaultValue (tyX9 j) = vp_V [.null, .null, .null, .null, .null, .null, .int 0] j := by rcases (show j = 0 ∨ j = 1 ∨ j = 2 ∨ j = 3 ∨ j = 4 ∨ j = 5 ∨ j = 6 by omega) with rfl | rfl | rfl | rfl | rfl | rfl | rfl <;> rfl
set_option maxRecDepth 100000 in
theorem zz_defX10 (j : Nat) (hj : j < 3) : defaultValue (tyX10 j) = vp_V [.null, .int 0, .int 0] j := by rcases (show j = 0 ∨ j = 1 ∨ j = 2 by omega) with rfl | rfl | rfl <;> rfl
set_option maxRecDepth 100000 in
theorem zz_defX11 (j : Nat) (hj : j < 16) : defaultValue (tyX11 j) = vp_V [.null, .null, .null, .null, .null, .null, .null, .null, .null, .null, .null, .null, .null, .int 0, .int 0, .int 0] j := by rcases (show j = 0 ∨ j = 1 ∨ j = 2 ∨ j = 3 ∨ j = 4 ∨ j = 5 ∨ j = 6 ∨ j = 7 ∨ j = 8 ∨ j = 9 ∨ j = 10 ∨ j = 11 ∨ j = 12 ∨ j = 13 ∨ j = 14 ∨ j = 15 by omega) with rfl | rfl | rfl | rfl | rfl | rfl | rfl | rfl | rfl | rfl | rfl | rfl | rfl | rfl | rfl | rfl <;> rfl
set_option maxRecDepth 100000 in
theorem zz_defX12 (j : Nat) (hj : j < 51) : defaultValue (tyX12 j) = vp_V [.int 0, .null, .int 0, .null, .int 0, .int 0, .int 0, .int 0, .int 0, .int 0, .int 0, .long 0, .int 0, .int 0, .int 0, .int 0, .null, .null, .null, .null, .int 0, .null, .int 0, .null, .null, .null, .null, .null, .null, .null, .null, .int 0, .int 0, .int 0, .null, .null, .int 0, .int 0, .long 0, .long 0, .null, .null, .null, .null, .null, .int 0, .null, .null, .null, .int 0, .int 0] j := by rcases (show j = 0 ∨ j = 1 ∨ j = 2 ∨ j = 3 ∨ j = 4 ∨ j = 5 ∨ j = 6 ∨ j = 7 ∨ j = 8 ∨ j = 9 ∨ j = 10 ∨ j = 11 ∨ j = 12 ∨ j = 13 ∨ j = 14 ∨ j = 15 ∨ j = 16 ∨ j = 17 ∨ j = 18 ∨ j = 19 ∨ j = 20 ∨ j = 21 ∨ j = 22 ∨ j = 23 ∨ j = 24 ∨ j = 25 ∨ j = 26 ∨ j = 27 ∨ j = 28 ∨ j = 29 ∨ j = 30 ∨ j = 31 ∨ j = 32 ∨ j = 33 ∨ j = 34 ∨ j = 35 ∨ j = 36 ∨ j = 37 ∨ j = 38 ∨ j = 39 ∨ j = 40 ∨ j = 41 ∨ j = 42 ∨ j = 43 ∨ j = 44 ∨ j = 45 ∨ j = 46 ∨ j = 47 ∨ j = 48 ∨ j = 49 ∨ j = 50 by omega) with rfl | rfl | rfl | rfl | rfl | rfl | rfl | rfl | rfl | rfl | rfl | rfl | rfl | rfl | rfl | rfl | rfl | rfl | rfl | rfl | rfl | rfl | rfl | rfl | rfl | rfl | rfl | rfl | rfl | rfl | rfl | rfl | rfl | rfl | rfl | rfl | rfl | rfl | rfl | rfl | rfl | rfl | rfl | rfl | rfl | rfl | rfl | rfl | rfl | rfl | rfl <;> rfl
abbrev U3 : Type := List Nat × Sh × Sg
def cc_tys (cT : Nat → ClassId) : List (ClassId × FieldType) := [(cT 13, .int), (cT 200, .long), (cT 300, .byte), (cT 400, .object RX5), (cT 401, .object RX2), (cT 402, .object RX1), (cT 403, .object RX0), (cT 404, .array .long)]
theorem cc_RA {U : State} {cA cB : ClassId} {ty : FieldType} (h1 : va_RA U cA ty) (h2 : va_RA U cB ty) : cA = cB := by
  have hn : ∀ {c : ClassId}, va_RA U c ty → U.vm.findClass ("[" ++ ty.toString) = some c := fun {c} z => by
    cases ty with
    | object C => obtain ⟨kA, comp, -, -, -, z4⟩ := z; exact z4
    | _ => exact z
  exact Option.some.inj ((hn h1).symm.trans (hn h2))
/-- the pool has grown: what was in it is as it was -/
def cc_gr (L : List Nat) (h : Sh) (q : Sg) (M : List Nat) (g : Sh) (r : Sg) : Prop := ∀ a, a ∈ L → a ∈ M ∧ g.1 a = h.1 a ∧ g.2.1 a = h.2.1 a ∧ g.2.2.2 a = h.2.2.2 a ∧ r.1 a = q.1 a ∧ r.2.1 a = q.2.1 a ∧ r.2.2.1 a = q.2.2.1 a ∧ r.2.2.2.1 a = q.2.2.2.1 a ∧ r.2.2.2.2 a = q.2.2.2.2 a
theorem cc_gr.rf {L : List Nat} {h : Sh} {q : Sg} : cc_gr L h q L h q := fun _ ha => ⟨ha, rfl, rfl, rfl, rfl, rfl, rfl, rfl, rfl⟩
theorem cc_gr.tr {L M P : List Nat} {h g f : Sh} {q r u : Sg} (h1 : cc_gr L h q M g r) (h2 : cc_gr M g r P f u) : cc_gr L h q P f u := fun a ha => by
  obtain ⟨z0, z1, z2, z3, z4, z5, z6, z7, z8⟩ := h1 a ha
  obtain ⟨y0, y1, y2, y3, y4, y5, y6, y7, y8⟩ := h2 a z0
  exact ⟨y0, y1.trans z1, y2.trans z2, y3.trans z3, y4.trans z4, y5.trans z5, y6.trans z6, y7.trans z7, y8.trans z8⟩
theorem cc_gr.gp {h : Sh} {q : Sg} {L : List Nat} {a K n : Nat} {R Rf : Nat → Nat} {I G : Nat → Int32} {J M : Nat → Int64} (ha : a ∉ L) : cc_gr L h q (L ++ [a]) (gp_h h a K n R) (gp_q q a I J Rf G M) := fun b hb => by
  have hne : b ≠ a := fun e => ha (e ▸ hb)
  exact ⟨List.mem_append_left _ hb, gp_h1 hne, gp_h2 hne, gp_h4 hne, gp_q1 hne, gp_q2 hne, gp_q3 hne, gp_q4 hne, gp_q5 hne⟩
theorem cc_gr.gl1 {h g : Sh} {q r : Sg} {L M : List Nat} : cc_gr L h q (L ++ M) (gl_h L h g) (gl_q L q r) := fun b hb => by
  obtain ⟨z1, z2, z3, z4, z5, z6, z7, z8⟩ := gl_1l (h := h) (g := g) (q := q) (r := r) hb
  exact ⟨List.mem_append_left _ hb, z1, z2, z3, z4, z5, z6, z7, z8⟩
theorem cc_gr.gl2 {h g : Sh} {q r : Sg} {L M : List Nat} (hd : ∀ x, x ∈ M → x ∉ L) : cc_gr M g r (L ++ M) (gl_h L h g) (gl_q L q r) := fun b hb => by
  obtain ⟨z1, z2, z3, z4, z5, z6, z7, z8⟩ := gl_1r (h := h) (g := g) (q := q) (r := r) (hd b hb)
  exact ⟨List.mem_append_right _ hb, z1, z2, z3, z4, z5, z6, z7, z8⟩
def cc_A (a0 sz : Nat) : Nat → Prop := fun a => a = a0 ∨ sz ≤ a
/-- what a constructor leaves of the object a0 of kind K -/
def cc_U (a0 K : Nat) (cT : Nat → ClassId) (sz : Nat) (u : U3) : Prop := sx_nd u.1 ∧ sx_V u.2.1 u.1 u.2.2 ∧ u.2.1.2.2.1 = cT ∧ (∀ a, a ∈ u.1 → cc_A a0 sz a) ∧ a0 ∈ u.1 ∧ u.2.1.1 a0 = K
def CCI (l : Launch) (dC : Nat → ClassId) (dI : Nat → Nat → Nat) (cT : Nat → ClassId) (y : MethodName) (ws : List Cond) (rm : Room) (ci : Nat) (fs av : List Value) (a0 : Nat) (ex : U3 → Prop) (mc ms : Nat) : Prop :=
  ∀ sz : Nat, Met l y ws rm (va_Pc (.ref a0 :: av) (fun U => U.heap.size = sz ∧ a0 < sz ∧ va_P (dC, dI) vwCl [(a0, .inr (ci, fs))] U.heap ∧ va_K (dC, dI) vwCl (cc_tys cT) U ∧ zz_X U ∧ ZZ (cc_A a0 sz) U)) (va_Qv (fun u : U3 => cc_U a0 ci cT sz u ∧ ex u) (fun u t => va_P (dC, dI) vwCl (va_pl u.1 (sg_F u.2.1 u.2.2)) t.heap) (cc_A a0 sz)) mc ms (cc_A a0 sz)
/-- a walk in a constructor: raw cells X beside a pool -/
def WC (l : Launch) (dC : Nat → ClassId) (dI : Nat → Nat → Nat) (R : Room) (mL : Nat) (Z : Zt) (A : Nat → Prop) (X : va_W) (L : List Nat) (h : Sh) (q : Sg) (cells slots pc : Nat) (lvs : List (Nat × Value)) (st : List Value) : Prop :=
  ∀ (ls : Array Slot) (H : Heap) (locs : List Loc), lv_has ls mL lvs → va_P (dC, dI) vwCl (X ++ va_pl L (sg_F h q)) H → va_D A (X ++ va_pl L (sg_F h q)) → va_S A Z.2.2.1.heap H locs →
    W Z.1 l Z.2.1 R Z.2.2.1 Z.2.2.2.1 Z.2.2.2.2.1 Z.2.2.2.2.2.1 Z.2.2.2.2.2.2.1 Z.2.2.2.2.2.2.2.1 H locs cells slots Z.2.2.2.2.2.2.2.2.1 (F0 Z.2.2.2.1 pc ls st)
def BC (dC : Nat → ClassId) (dI : Nat → Nat → Nat) (cT : Nat → ClassId) (mL : Nat) (cc : ByteArray) (own : String) (Ts : List Cond) (A : Nat → Prop) (Z : Zt) : Prop :=
  CallFix Z.1 Z.2.2.2.1 Z.2.2.2.2.2.2.2.1 cc mL Z.2.2.1 Z.2.2.2.2.1 Ts own ∧ va_K (dC, dI) vwCl (cc_tys cT) Z.2.2.1 ∧ (∀ a, Z.2.2.1.heap.size ≤ a → A a) ∧ zz_X Z.2.2.1 ∧ ZZ A Z.2.2.1 ∧ Z.2.2.2.2.2.2.1.name = "<init>"
theorem cc_nd {A : Nat → Prop} {X : va_W} {L : List Nat} {f : Nat → va_E} (hD : va_D A (X ++ va_pl L f)) : sx_nd L := by
  intro i j x hi hj
  have e1 : (X ++ va_pl L f)[X.length + i]? = some (x, f x) := by
    rw [List.getElem?_append_right (by omega), Nat.add_sub_cancel_left]
    unfold va_pl
    rw [List.getElem?_map, hi]
    rfl
  have e2 : (X ++ va_pl L f)[X.length + j]? = some (x, f x) := by
    rw [List.getElem?_append_right (by omega), Nat.add_sub_cancel_left]
    unfold va_pl
    rw [List.getElem?_map, hj]
    rfl
  have := hD.1 _ _ _ _ e1 e2 rfl
  omega
theorem cc_in {A : Nat → Prop} {X : va_W} {L : List Nat} {f : Nat → va_E} (hD : va_D A (X ++ va_pl L f)) : ∀ a, a ∈ L → A a := fun a ha => by
  obtain ⟨i, hi⟩ := List.mem_iff_getElem?.mp ha
  have e1 : (X ++ va_pl L f)[X.length + i]? = some (a, f a) := by
    rw [List.getElem?_append_right (by omega), Nat.add_sub_cancel_left]
    unfold va_pl
    rw [List.getElem?_map, hi]
    rfl
  exact hD.2 _ _ e1
/-- the cell laid last is no one's in the pool -/
theorem cc_new {A : Nat → Prop} {X : va_W} {L : List Nat} {f : Nat → va_E} {a : Nat} {e : va_E} (hD : va_D A ((X ++ va_pl L f) ++ [(a, e)])) : a ∉ L := fun ha => by
  obtain ⟨i, hi⟩ := List.mem_iff_getElem?.mp ha
  have hlt : i < L.length := (List.getElem?_eq_some_iff.mp hi).1
  have e1 : ((X ++ va_pl L f) ++ [(a, e)])[X.length + i]? = some (a, f a) := by
    rw [List.getElem?_append_left (by rw [List.length_append]; unfold va_pl; rw [List.length_map]; omega), List.getElem?_append_right (by omega), Nat.add_sub_cancel_left]
    unfold va_pl
    rw [List.getElem?_map, hi]
    rfl
  have e2 : ((X ++ va_pl L f) ++ [(a, e)])[X.length + L.length]? = some (a, e) := by
    rw [List.getElem?_append_right (by rw [List.length_append]; unfold va_pl; rw [List.length_map]; omega), List.length_append]
    unfold va_pl
    rw [List.length_map, Nat.sub_self]
    rfl
  have := hD.1 _ _ _ _ e1 e2 rfl
  omega

