/-! Rows for constructors, in the form that a program lays. -/
theorem cc_tk {K k : Nat} (h : 13 ≤ K) : sx_tk K k = 0 := by
  unfold sx_tk
  split <;> first | rfl | (exfalso; omega)
theorem cc_tk49 {K k : Nat} (h : sx_tk K k ≠ 0) : k < 49 := by
  unfold sx_tk at h
  split at h <;> first | omega | (exact absurd rfl h)
theorem cc_in0 {lo hi : Int} (h1 : lo ≤ 0) (h2 : 0 ≤ hi) : sx_in 0 lo hi := ⟨h1, h2⟩
theorem cc_R0 (K cap k : Nat) : sx_R K cap k 0 := by
  unfold sx_R
  split <;> first | exact trivial | (refine cc_in0 ?_ ?_ <;> omega)
theorem cc_E0 (K : Nat) : sx_E K 0 := by
  unfold sx_E
  split <;> first | exact trivial | (refine cc_in0 ?_ ?_ <;> omega)
/-- a is in the pool, of kind K, its length (a Text's: its part) n -/
def cc_y (M : List Nat) (g : Sh) (a K n : Nat) : Prop := a ∈ M ∧ g.1 a = K ∧ g.2.1 a = n
def cc_o (M : List Nat) (g : Sh) (a K : Nat) : Prop := a ∈ M ∧ g.1 a = K
def cc_l (M : List Nat) (g : Sh) (xs : List Nat) (K : Nat) : Prop := ∀ x, x ∈ xs → x ∈ M ∧ g.1 x = K
theorem cc_y.gr {L M : List Nat} {h g : Sh} {q r : Sg} {a K n : Nat} (z : cc_y L h a K n) (hg : cc_gr L h q M g r) : cc_y M g a K n := by
  obtain ⟨y0, y1, y2, -⟩ := hg a z.1
  exact ⟨y0, y1.trans z.2.1, y2.trans z.2.2⟩
theorem cc_o.gr {L M : List Nat} {h g : Sh} {q r : Sg} {a K : Nat} (z : cc_o L h a K) (hg : cc_gr L h q M g r) : cc_o M g a K := by
  obtain ⟨y0, y1, -⟩ := hg a z.1
  exact ⟨y0, y1.trans z.2⟩
theorem cc_l.gr {L M : List Nat} {h g : Sh} {q r : Sg} {xs : List Nat} {K : Nat} (z : cc_l L h xs K) (hg : cc_gr L h q M g r) : cc_l M g xs K := fun x hx => cc_o.gr (z x hx) hg
theorem cc_l.nil {L : List Nat} {h : Sh} {K : Nat} : cc_l L h [] K := fun _ hx => absurd hx List.not_mem_nil
theorem cc_l.snoc {L : List Nat} {h : Sh} {xs : List Nat} {a K : Nat} (z : cc_l L h xs K) (ha : cc_o L h a K) : cc_l L h (xs ++ [a]) K := fun x hx => (List.mem_append.mp hx).elim (z x) (fun e => by rw [List.mem_singleton.mp e]; exact ha)
/-- an int field that is 0 -/
def cc_f (M : List Nat) (r : Sg) (a k : Nat) : Prop := a ∈ M ∧ r.1 a k = 0
theorem cc_f.gr {L M : List Nat} {h g : Sh} {q r : Sg} {a k : Nat} (z : cc_f L q a k) (hg : cc_gr L h q M g r) : cc_f M r a k := by
  obtain ⟨y0, -, -, -, y4, -⟩ := hg a z.1
  exact ⟨y0, by rw [y4]; exact z.2⟩
/-- an array whose places are all 0 -/
def cc_z (M : List Nat) (r : Sg) (a : Nat) : Prop := a ∈ M ∧ (∀ j, r.2.2.2.1 a j = 0) ∧ ∀ j, r.2.2.2.2 a j = 0
theorem cc_z.gr {L M : List Nat} {h g : Sh} {q r : Sg} {a : Nat} (z : cc_z L q a) (hg : cc_gr L h q M g r) : cc_z M r a := by
  obtain ⟨y0, -, -, -, -, -, -, y7, y8⟩ := hg a z.1
  exact ⟨y0, fun j => by rw [y7]; exact z.2.1 j, fun j => by rw [y8]; exact z.2.2 j⟩
theorem cc_cong {cA : ClassId} {n : Nat} {f g : Nat → Option Nat} (h : ∀ j, j < n → f j = g j) : vp_cell cA (n, .inr (.inr (.inr (.inr f)))) = vp_cell cA (n, .inr (.inr (.inr (.inr g)))) := by
  rw [vp_cell_q, vp_cell_q]
  unfold arrV
  have e : (fun j : Fin n => va_rf (f j.val)) = fun j : Fin n => va_rf (g j.val) := funext (fun j => by rw [h j.val j.isLt])
  rw [e]
theorem wc_chg {D : va_G} {cl : List vw_C} {P : va_W} {H : Heap} {a : Nat} {e e' : va_E} (hP : va_P D cl (P ++ [(a, e)]) H) (h : va_at D cl (a, e) H → va_at D cl (a, e') H) : va_P D cl (P ++ [(a, e')]) H := fun k z hk => by
  by_cases hlt : k < P.length
  · rw [List.getElem?_append_left hlt] at hk
    exact hP k z (by rw [List.getElem?_append_left hlt]; exact hk)
  · rw [List.getElem?_append_right (by omega)] at hk
    have h1 : k - P.length < 1 := (List.getElem?_eq_some_iff.mp hk).1
    rw [show k - P.length = 0 by omega] at hk
    have e9 : (a, e') = z := Option.some.inj hk
    subst e9
    exact h (hP P.length (a, e) (by rw [List.getElem?_append_right (Nat.le_refl _), Nat.sub_self]; rfl))
theorem wc_chgD {A : Nat → Prop} {P : va_W} {a : Nat} {e e' : va_E} (hD : va_D A (P ++ [(a, e)])) : va_D A (P ++ [(a, e')]) := by
  refine ⟨wc_ndI.mpr ?_, fun k z hk => ?_⟩
  · have h1 := wc_ndI.mp hD.1
    rw [List.map_append] at h1 ⊢
    exact h1
  · by_cases hlt : k < P.length
    · rw [List.getElem?_append_left hlt] at hk
      exact hD.2 k z (by rw [List.getElem?_append_left hlt]; exact hk)
    · rw [List.getElem?_append_right (by omega)] at hk
      have h1 : k - P.length < 1 := (List.getElem?_eq_some_iff.mp hk).1
      rw [show k - P.length = 0 by omega] at hk
      have e9 : (a, e') = z := Option.some.inj hk
      subst e9
      exact hD.2 P.length (a, e) (by rw [List.getElem?_append_right (Nat.le_refl _), Nat.sub_self]; rfl)
theorem cc_up {xs : List Nat} {v : Nat} : va_up (fun j => xs[j]?) xs.length (some v) = fun j => (xs ++ [v])[j]? := by
  funext j
  show (if j = xs.length then some v else xs[j]?) = _
  by_cases h : j = xs.length
  · rw [if_pos h, h, List.getElem?_append_right (Nat.le_refl _), Nat.sub_self]
    rfl
  · rw [if_neg h]
    by_cases h2 : j < xs.length
    · rw [List.getElem?_append_left h2]
    · rw [List.getElem?_eq_none (by omega), List.getElem?_eq_none (by rw [List.length_append]; show xs.length + 1 ≤ j; omega)]
section CR7
variable {l : Launch} {dC : Nat → ClassId} {dI : Nat → Nat → Nat} {cT : Nat → ClassId} {R : Room} {mL : Nat} {cc : ByteArray} {own : String} {Ts : List Cond} {A : Nat → Prop} {Z : Zt} {X X2 : va_W} {L : List Nat} {h : Sh} {q : Sg} {cells slots pc : Nat} {lvs : List (Nat × Value)} {rest st : List Value}
theorem wc_mmax (B : BC dC dI cT mL cc own Ts A Z) {index : Nat} {x y : Int32} (v : Int32) (h1 : Cond.methodLink own index Lib.Math.max.name ∈ Ts) (h2 : Cond.static Lib.Math.max.name ∈ Ts) (h3 : Cond.initialized "java/lang/Math" ∈ Ts) (h4 : Cond.code Lib.Math.max.name Lib.Math.max.code 2 (some .int) ∈ Ts) (hf : 1 ≤ R.frames) (hlo : (rest.map fun v => v.category).sum + 13 ≤ R.locals) (hc : cells ≤ R.cells) (hs : slots ≤ R.slots) (hd : decode cc pc = .ok (.invokestatic index, 3)) (hv : (if x < y then y else x) = v) (kk : WC l dC dI R mL Z A X L h q cells slots (pc + 3) lvs (.int v :: rest)) : WC l dC dI R mL Z A X L h q cells slots pc lvs (.int y :: .int x :: rest) := by
  intro ls H locs hl hP hD hS
  refine va_mmax B.1.1 B.1.2.1 (by rw [B.1.2.2.1]; exact hl.1.symm) B.1.2.2.2.1 (B.1.2.2.2.2 _ h1) (B.1.2.2.2.2 _ h2) (B.1.2.2.2.2 _ h3) (B.1.2.2.2.2 _ h4) hf hlo hc hs hd ?_
  rw [hv]
  exact kk ls H locs hl hP hD hS
theorem wc_nI (B : BC dC dI cT mL cc own Ts A Z) (K N : Nat) {n : Int32} (h1 : 13 ≤ K) (h2 : K < 200) (hcT : h.2.2.1 = cT) (hV : sx_V h L q) (harr : Cond.arrayClass .int ∈ Ts) (hn : ¬ n < 0) (hN : n.toNatClampNeg = N) (hb5 : N ≤ 5000) (hcells : cells + 1 ≤ R.cells) (hslots : slots + N ≤ R.slots) (hd : decode cc pc = .ok (.newarray .int, 2)) (kk : ∀ (a : Nat) (M : List Nat) (g : Sh) (r : Sg), cc_gr L h q M g r → cc_y M g a K N → cc_z M r a → g.2.2.1 = cT → sx_V g M r → WC l dC dI R mL Z A X M g r (cells + 1) (slots + N) (pc + 2) lvs (.ref a :: rest)) : WC l dC dI R mL Z A X L h q cells slots pc lvs (.int n :: rest) :=
  wc_newI B K N h1 h2 hcT hV (cc_E0 K) (fun _ => cc_tk h1) (fun c k => cc_R0 K c k) harr hn hN hb5 hcells hslots hd (fun a M g r z0 z1 z2 z3 z4 z5 z6 z7 => kk a M g r z0 ⟨z1, z2, z3⟩ ⟨z1, z6, z7⟩ z4 z5)
theorem wc_nL (B : BC dC dI cT mL cc own Ts A Z) (K N : Nat) {n : Int32} (h1 : 200 ≤ K) (h2 : K < 300) (hcT : h.2.2.1 = cT) (hV : sx_V h L q) (harr : Cond.arrayClass .long ∈ Ts) (hn : ¬ n < 0) (hN : n.toNatClampNeg = N) (hb5 : N ≤ 5000) (hcells : cells + 1 ≤ R.cells) (hslots : slots + N ≤ R.slots) (hd : decode cc pc = .ok (.newarray .long, 2)) (kk : ∀ (a : Nat) (M : List Nat) (g : Sh) (r : Sg), cc_gr L h q M g r → cc_y M g a K N → cc_z M r a → g.2.2.1 = cT → sx_V g M r → WC l dC dI R mL Z A X M g r (cells + 1) (slots + N) (pc + 2) lvs (.ref a :: rest)) : WC l dC dI R mL Z A X L h q cells slots pc lvs (.int n :: rest) :=
  wc_newL B K N h1 h2 hcT hV (cc_E0 K) (fun _ => cc_tk (by omega)) (fun c k => cc_R0 K c k) harr hn hN hb5 hcells hslots hd (fun a M g r z0 z1 z2 z3 z4 z5 z6 z7 => kk a M g r z0 ⟨z1, z2, z3⟩ ⟨z1, z6, z7⟩ z4 z5)
theorem wc_nB (B : BC dC dI cT mL cc own Ts A Z) (K N : Nat) {n : Int32} (h1 : 300 ≤ K) (h2 : K < 400) (hcT : h.2.2.1 = cT) (hV : sx_V h L q) (harr : Cond.arrayClass .byte ∈ Ts) (hn : ¬ n < 0) (hN : n.toNatClampNeg = N) (hb5 : N ≤ 5000) (hcells : cells + 1 ≤ R.cells) (hslots : slots + N ≤ R.slots) (hd : decode cc pc = .ok (.newarray .byte, 2)) (kk : ∀ (a : Nat) (M : List Nat) (g : Sh) (r : Sg), cc_gr L h q M g r → cc_y M g a K N → cc_z M r a → g.2.2.1 = cT → sx_V g M r → WC l dC dI R mL Z A X M g r (cells + 1) (slots + N) (pc + 2) lvs (.ref a :: rest)) : WC l dC dI R mL Z A X L h q cells slots pc lvs (.int n :: rest) :=
  wc_newB B K N h1 h2 hcT hV (cc_E0 K) (fun _ => cc_tk (by omega)) (fun c k => cc_R0 K c k) harr hn hN hb5 hcells hslots hd (fun a M g r z0 z1 z2 z3 z4 z5 z6 z7 => kk a M g r z0 ⟨z1, z2, z3⟩ ⟨z1, z6, z7⟩ z4 z5)
/-- an array of references, all of whose places are filled, is laid into the pool -/
theorem wc_layQ (q0 : Nat) {a K n : Nat} {f : Nat → Option Nat} (Rr : Nat → Nat) (he : X[q0]? = some (a, .inl (cT K, n, .inr (.inr (.inr (.inr f)))))) (hX2 : X.eraseIdx q0 = X2) (h4 : 400 ≤ K) (hcT : h.2.2.1 = cT) (hV : sx_V h L q) (hf : ∀ j, j < n → f j = some (Rr j)) (hn : n ≤ 5000) (hS0 : ∀ j, j < n → Rr j ∈ L ∧ h.1 (Rr j) = sx_ek K ∧ (K = 404 → h.2.1 (Rr j) = 12)) (kk : ∀ (M : List Nat) (g : Sh) (r : Sg), cc_gr L h q M g r → cc_y M g a K n → g.2.2.1 = cT → sx_V g M r → WC l dC dI R mL Z A X2 M g r cells slots pc lvs st) : WC l dC dI R mL Z A X L h q cells slots pc lvs st := by
  intro ls H locs hl hP hD hS
  have hP1 := wc_permP (wc_erase he) hP
  have hD1 := wc_permD (wc_erase he) hD
  rw [hX2, ← List.append_assoc] at hP1 hD1
  have ha : a ∉ L := cc_new hD1
  have hP2 := wc_chg (e' := .inl (cT K, n, .inr (.inr (.inr (.inr (fun j => some (Rr j))))))) hP1 (fun z => by
    have z1 : H[a]? = some (vp_cell (cT K) (n, .inr (.inr (.inr (.inr f))))) := z
    show H[a]? = some (vp_cell (cT K) (n, .inr (.inr (.inr (.inr (fun j => some (Rr j)))))))
    rw [← cc_cong hf]
    exact z1)
  have hD2 := wc_chgD (e' := .inl (cT K, n, .inr (.inr (.inr (.inr (fun j => some (Rr j))))))) hD1
  have hsg : sg_F (gp_h h a K n Rr) (gp_q q a (fun _ => 0) (fun _ => 0) (fun _ => 0) (fun _ => 0) (fun _ => 0)) a = .inl (cT K, n, .inr (.inr (.inr (.inr (fun j => some (Rr j)))))) := by
    rw [sg_F_q (k := K) gp_h1e h4, gp_h2e, gp_h4e]
    show (Sum.inl ((gp_h h a K n Rr).2.2.1 K, _, _) : va_E) = _
    rw [show (gp_h h a K n Rr).2.2.1 = cT from hcT]
  rw [List.append_assoc, gp_pl ha hsg] at hP2 hD2
  exact kk _ _ _ (cc_gr.gp ha) ⟨List.mem_append_right _ (List.mem_singleton.mpr rfl), gp_h1e, gp_h2e⟩ hcT (gp_V hV ha (fun k hk => absurd (cc_tk (by omega)) hk) hn (fun _ => hS0) (fun k => cc_R0 _ _ _) (fun _ => cc_E0 _)) ls H locs hl hP2 hD2 hS
theorem wc_layL (q0 : Nat) {a K n : Nat} {xs : List Nat} (he : X[q0]? = some (a, .inl (cT K, n, .inr (.inr (.inr (.inr (fun j => xs[j]?))))))) (hX2 : X.eraseIdx q0 = X2) (h4 : 400 ≤ K) (h44 : K ≠ 404) (hcT : h.2.2.1 = cT) (hV : sx_V h L q) (hlen : xs.length = n) (hn : n ≤ 5000) {K2 : Nat} (hek : sx_ek K = K2) (hl0 : cc_l L h xs K2) (kk : ∀ (M : List Nat) (g : Sh) (r : Sg), cc_gr L h q M g r → cc_y M g a K n → g.2.2.1 = cT → sx_V g M r → WC l dC dI R mL Z A X2 M g r cells slots pc lvs st) : WC l dC dI R mL Z A X L h q cells slots pc lvs st := by
  refine wc_layQ q0 (fun j => xs.getD j 0) he hX2 h4 hcT hV (fun j hj => ?_) hn (fun j hj => ?_) kk
  · have hj2 : j < xs.length := by omega
    show xs[j]? = some (xs.getD j 0)
    rw [List.getD_eq_getElem?_getD, List.getElem?_eq_getElem hj2]
    rfl
  · have hj2 : j < xs.length := by omega
    have e : xs.getD j 0 = xs[j] := by
      rw [List.getD_eq_getElem?_getD, List.getElem?_eq_getElem hj2]
      rfl
    show xs.getD j 0 ∈ L ∧ h.1 (xs.getD j 0) = sx_ek K ∧ (K = 404 → h.2.1 (xs.getD j 0) = 12)
    rw [e, hek]
    have z := hl0 xs[j] (List.getElem_mem hj2)
    exact ⟨z.1, z.2, fun z9 => absurd z9 h44⟩
theorem cc_last {X : va_W} {c : Nat × va_E} : (X ++ [c])[X.length]? = some c := by
  rw [List.getElem?_append_right (Nat.le_refl _), Nat.sub_self]
  rfl
theorem cc_erl : ∀ (X : va_W) (c : Nat × va_E), (X ++ [c]).eraseIdx X.length = X
  | [], _ => rfl
  | x :: X, c => by
    show x :: (X ++ [c]).eraseIdx X.length = x :: X
    rw [cc_erl X c]
theorem wc_mna (B : BC dC dI cT mL cc own Ts A Z) {index : Nat} {n k : Int32} (N : Nat) (hcT : h.2.2.1 = cT) (hV : sx_V h L q) (hcl : Cond.classLink own index "[[J" ∈ Ts) (harr : Cond.arrayClass .long ∈ Ts) (hn : ¬ n < 0) (hk : ¬ k < 0) (hN : n.toNatClampNeg = N) (hM : k.toNatClampNeg = 12) (hb5 : N ≤ 5000) (hcells : cells + (1 + N) ≤ R.cells) (hslots : slots + (N + N * 12) ≤ R.slots) (hd : decode cc pc = .ok (.multianewarray index 2, 4)) (kk : ∀ (a : Nat) (M : List Nat) (g : Sh) (r : Sg), cc_gr L h q M g r → cc_y M g a 404 N → g.2.2.1 = cT → sx_V g M r → WC l dC dI R mL Z A X M g r (cells + 1 + N) (slots + N + N * 12) (pc + 4) lvs (.ref a :: rest)) : WC l dC dI R mL Z A X L h q cells slots pc lvs (.int k :: .int n :: rest) := by
  intro ls H locs hl hP hD hS
  have hcy : Z.2.2.1.vm.findClass (FieldType.array .long).toString = some (cT 200) := (B.2.1.2 1 _ rfl).2
  refine va_mna (ty := .long) (cy := cT 200) (N' := N) (K' := 12) (z := (12, .inr (.inl (fun _ => 0)))) B.1.1 B.1.2.1 B.1.2.2.2.1 (B.1.2.2.2.2 _ hcl) B.2.2.2.1.aoa (B.1.2.2.2.2 _ harr) hcy B.2.1 hP hD hS B.2.2.1 hn hk hN hM (by omega) (Nat.le_of_ble_eq_true rfl) (Nat.le_of_ble_eq_true rfl) rfl rfl hcells hslots (fun c => arrV_new c 12 (.long 0)) hd (fun a rr cA H1 hinj hnL hK1 hP1 hD1 hS1 => ?_)
  have hcA : cA = cT 404 := cc_RA (hK1.2 8 _ rfl).2 (B.2.1.2 7 _ rfl).2
  rw [hcA] at hP1 hD1
  have hdis : ∀ x, x ∈ (List.range N).map rr → x ∉ L := fun x hx => by
    obtain ⟨i, hi, e⟩ := List.mem_map.mp hx
    rw [← e]
    exact hnL i (List.mem_range.mp hi)
  have hpl : va_pl (L ++ (List.range N).map rr) (vr_up (sg_F h q) ((List.range N).map rr) (.inl (cT 200, (12, .inr (.inl (fun _ => 0)))))) = va_pl (L ++ (List.range N).map rr) (sg_F (gl_h L h (fun _ => 200, fun _ => 12, cT, fun _ _ => 0)) (gl_q L q cc_q0)) := by
    rw [← vr_rows hdis, ← gl_pl (show h.2.2.1 = ((fun _ => 200, fun _ => 12, cT, fun _ _ => 0) : Sh).2.2.1 from hcT) hdis]
    congr 1
  rw [hpl] at hP1 hD1
  have hV0 : sx_V ((fun _ => 200, fun _ => 12, cT, fun _ _ => 0) : Sh) ((List.range N).map rr) cc_q0 := ⟨fun _ _ k hk => absurd (cc_tk (K := 200) (by decide)) hk, ⟨fun _ _ => by show 12 ≤ 5000; omega, fun _ _ (h4 : 400 ≤ 200) => absurd h4 (by omega)⟩, fun _ _ k => cc_R0 _ _ _, fun _ _ _ => cc_E0 _⟩
  refine wc_layQ (X := X ++ [(a, .inl (cT 404, N, .inr (.inr (.inr (.inr (fun i => if i < N then some (rr i) else none))))))]) (X2 := X) (cT := cT) (h := gl_h L h (fun _ => 200, fun _ => 12, cT, fun _ _ => 0)) (q := gl_q L q cc_q0) X.length rr cc_last (cc_erl _ _) (by decide) hcT (gl_V hV hV0 hdis) (fun j hj => if_pos hj) hb5 (fun j hj => ?_) (fun M g r z0 z1 z2 z3 => kk a M g r (cc_gr.tr cc_gr.gl1 z0) z1 z2 z3) ls H1 locs hl hP1 hD1 hS1
  have hm : rr j ∈ (List.range N).map rr := List.mem_map.mpr ⟨j, List.mem_range.mpr hj, rfl⟩
  obtain ⟨f1, f2, -⟩ := gl_1r (h := h) (g := ((fun _ => 200, fun _ => 12, cT, fun _ _ => 0) : Sh)) (q := q) (r := cc_q0) (hdis _ hm)
  exact ⟨List.mem_append_right _ hm, f1, fun _ => f2⟩
theorem wc_nq (B : BC dC dI cT mL cc own Ts A Z) {C : String} {index : Nat} (K j N : Nat) {n : Int32} (hj : (cc_tys cT)[j]? = some (cT K, .object C)) (hao : va_AO C Z.2.2.1) (hcl : Cond.classLink own index C ∈ Ts) (hn : ¬ n < 0) (hN : n.toNatClampNeg = N) (hb5 : N ≤ 5000) (hcells : cells + 1 ≤ R.cells) (hslots : slots + N ≤ R.slots) (hd : decode cc pc = .ok (.anewarray index, 3)) (kk : ∀ a : Nat, WC l dC dI R mL Z A (X ++ [(a, .inl (cT K, N, .inr (.inr (.inr (.inr (fun j => ([] : List Nat)[j]?))))))]) L h q (cells + 1) (slots + N) (pc + 3) lvs (.ref a :: rest)) : WC l dC dI R mL Z A X L h q cells slots pc lvs (.int n :: rest) :=
  wc_newq B K j N hj hao hcl hn hN hb5 hcells hslots hd (fun a _ _ => kk a)
theorem wc_as (B : BC dC dI cT mL cc own Ts A Z) (q0 t0 K : Nat) {a v n ci : Nat} {r : vw_C} {xs : List Nat} (ys : List Nat) {i : Int32} (he : X[q0]? = some (a, .inl (cT K, n, .inr (.inr (.inr (.inr (fun j => xs[j]?))))))) (ht : (cc_tys cT)[t0]? = some (cT K, .object r.1)) (hv : cc_o L h v ci) (hci : ci < 13) (hc : vwCl[ci]? = some r) (hin : vp_in i n) (hi : i.toNatClampNeg = xs.length) (hy : xs ++ [v] = ys) (hX2 : X.set q0 (a, .inl (cT K, n, .inr (.inr (.inr (.inr (fun j => ys[j]?)))))) = X2) (hd : decode cc pc = .ok (.aastore, 1)) (kk : WC l dC dI R mL Z A X2 L h q cells slots (pc + 1) lvs rest) : WC l dC dI R mL Z A X L h q cells slots pc lvs (.ref v :: .int i :: .ref a :: rest) :=
  wc_aast B q0 t0 K he ht hv.1 hv.2 hci hc hin (by rw [hi, cc_up, hy]; exact hX2) hd kk
theorem wc_nw (B : BC dC dI cT mL cc own Ts A Z) {C : String} {T : u_T} {N ci index : Nat} (hin : ∀ w ∈ u_ws C T N, w ∈ Ts) (ty : Nat → FieldType) (hty : ∀ k, k < N → parseFieldDescriptor (T k).2.2.1 = some (ty k)) (hcl : Cond.classLink own index C ∈ Ts) (hinst : Cond.instantiable C N ∈ Ts) (hini : Cond.initialized C ∈ Ts) (hc : vwCl[ci]? = some (C, T, N)) {fs : List Value} (hfs : ∀ j, j < N → defaultValue (ty j) = vp_V fs j) (hcells : cells + 1 ≤ R.cells) (hslots : slots + N ≤ R.slots) (hd : decode cc pc = .ok (.new index, 3)) (kk : ∀ a : Nat, WC l dC dI R mL Z A (X ++ [(a, .inr (ci, fs))]) L h q (cells + 1) (slots + N) (pc + 3) lvs (.ref a :: rest)) : WC l dC dI R mL Z A X L h q cells slots pc lvs rest :=
  wc_new B hin ty hty hcl hinst hini hc hfs hcells hslots hd (fun a _ _ => kk a)
/-- the object itself is laid into the pool -/
theorem wc_layO (q0 : Nat) {a ci : Nat} {fs : List Value} (he : X[q0]? = some (a, .inr (ci, fs))) (hX2 : X.eraseIdx q0 = X2) (hci : ci < 13) (n : Nat) (Rf : Nat → Nat) (hfs : (List.range (sg_nf ci)).map (fun k => sg_v (sg_ty ci k) 0 0 (Rf k)) = fs) (hcT : h.2.2.1 = cT) (hV : sx_V h L q) (hn5 : n ≤ 5000) (ks : List Nat) (hks : ∀ k, k < 49 → sx_tk ci k ≠ 0 → k ∈ ks) (hT : ∀ k, k ∈ ks → Rf k ∈ L ∧ h.1 (Rf k) = sx_tk ci k ∧ (sx_ln ci n k ≠ 0 → h.2.1 (Rf k) = sx_ln ci n k)) (kk : ∀ (M : List Nat) (g : Sh) (r : Sg), cc_gr L h q M g r → cc_y M g a ci n → g.2.2.1 = cT → sx_V g M r → (∀ k, r.1 a k = 0) → (∀ k, r.2.2.1 a k = Rf k) → WC l dC dI R mL Z A X2 M g r cells slots pc lvs st) : WC l dC dI R mL Z A X L h q cells slots pc lvs st := by
  refine wc_lay q0 he hX2 ci n (fun _ => 0) (fun _ => 0) (fun _ => 0) Rf (fun _ => 0) (fun _ => 0) (by rw [sg_F_o gp_h1e hci]; unfold sg_fs; rw [gp_q1e, gp_q2e, gp_q3e]; rw [← hfs]) (fun ha => ?_)
  exact kk _ _ _ (cc_gr.gp ha) ⟨List.mem_append_right _ (List.mem_singleton.mpr rfl), gp_h1e, gp_h2e⟩ hcT (gp_V hV ha (fun k hk => hT k (hks k (cc_tk49 hk) hk)) hn5 (fun z => absurd z (by omega)) (fun k => cc_R0 _ _ _) (fun _ => cc_E0 _)) (fun k => by rw [gp_q1e]) (fun k => by rw [gp_q3e])
theorem wc_end {a0 ci sz mc ms : Nat} {ex : U3 → Prop} (ret : ∀ (L : List Nat) (h : Sh) (q : Sg) (pc : Nat) (lvs : List (Nat × Value)), decode cc pc = .ok (.return_, 1) → cc_U a0 ci cT sz (L, h, q) → ex (L, h, q) → WC l dC dI R mL Z (cc_A a0 sz) [] L h q mc ms pc lvs []) (hd : decode cc pc = .ok (.return_, 1)) (hcT : h.2.2.1 = cT) (hV : sx_V h L q) (ho : cc_o L h a0 ci) (hex : ex (L, h, q)) (h1 : cells ≤ mc) (h2 : slots ≤ ms) : WC l dC dI R mL Z (cc_A a0 sz) [] L h q cells slots pc lvs [] := by
  refine wc_widen mc ms h1 h2 ?_
  intro ls H locs hl hP hD hS
  exact ret L h q pc lvs hd ⟨cc_nd (X := []) hD, hV, hcT, cc_in (X := []) hD, ho.1, ho.2⟩ hex ls H locs hl hP hD hS
end CR7
