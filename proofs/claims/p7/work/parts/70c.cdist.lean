/-! The FRAGMENTS are apart. -/
def cc_d (M : List Nat) (g : Sh) (a : Nat) : Prop := a ∈ M ∧ ∀ i j : Nat, i < 12 → j < 12 → g.2.2.2 a i = g.2.2.2 a j → i = j
theorem cc_d.gr {L M : List Nat} {h g : Sh} {q r : Sg} {a : Nat} (z : cc_d L h a) (hg : cc_gr L h q M g r) : cc_d M g a := by
  obtain ⟨y0, -, -, y3, -⟩ := hg a z.1
  exact ⟨y0, fun i j hi hj e => z.2 i j hi hj (by rw [← y3]; exact e)⟩
theorem cc_ndx {xs : List Nat} {a : Nat} (h : xs.Nodup) (ha : a ∉ xs) : (xs ++ [a]).Nodup := by
  rw [List.nodup_append]
  refine ⟨h, List.nodup_cons.mpr ⟨List.not_mem_nil, List.nodup_nil⟩, fun x hx y hy e => ?_⟩
  rw [List.mem_singleton.mp hy] at e
  exact ha (e ▸ hx)
theorem cc_ndg {xs : List Nat} (h : xs.Nodup) (hl : xs.length = 12) : ∀ i j : Nat, i < 12 → j < 12 → xs.getD i 0 = xs.getD j 0 → i = j := by
  intro i j hi hj e
  have hi2 : i < xs.length := by omega
  have hj2 : j < xs.length := by omega
  rw [List.getD_eq_getElem?_getD, List.getD_eq_getElem?_getD, List.getElem?_eq_getElem hi2, List.getElem?_eq_getElem hj2] at e
  have e2 : xs[i] = xs[j] := e
  unfold List.Nodup at h
  rw [List.pairwise_iff_getElem] at h
  rcases Nat.lt_trichotomy i j with z | z | z
  · exact absurd e2 (h i j hi2 hj2 z)
  · exact z
  · exact absurd e2.symm (h j i hj2 hi2 z)
section CR9
variable {l : Launch} {dC : Nat → ClassId} {dI : Nat → Nat → Nat} {cT : Nat → ClassId} {R : Room} {mL : Nat} {cc : ByteArray} {own : String} {Ts : List Cond} {A : Nat → Prop} {Z : Zt} {X X2 : va_W} {L : List Nat} {h : Sh} {q : Sg} {cells slots pc : Nat} {lvs : List (Nat × Value)} {rest st : List Value}
theorem wc_nwn (B : BC dC dI cT mL cc own Ts A Z) {C : String} {T : u_T} {N ci index : Nat} (hin : ∀ w ∈ u_ws C T N, w ∈ Ts) (ty : Nat → FieldType) (hty : ∀ k, k < N → parseFieldDescriptor (T k).2.2.1 = some (ty k)) (hcl : Cond.classLink own index C ∈ Ts) (hinst : Cond.instantiable C N ∈ Ts) (hini : Cond.initialized C ∈ Ts) (hc : vwCl[ci]? = some (C, T, N)) {fs : List Value} (hfs : ∀ j, j < N → defaultValue (ty j) = vp_V fs j) (hcells : cells + 1 ≤ R.cells) (hslots : slots + N ≤ R.slots) (hd : decode cc pc = .ok (.new index, 3)) (kk : ∀ a : Nat, a ∉ L → WC l dC dI R mL Z A (X ++ [(a, .inr (ci, fs))]) L h q (cells + 1) (slots + N) (pc + 3) lvs (.ref a :: rest)) : WC l dC dI R mL Z A X L h q cells slots pc lvs rest :=
  wc_new B hin ty hty hcl hinst hini hc hfs hcells hslots hd (fun a ha _ => kk a ha)
theorem wc_layQn (q0 : Nat) {a K n : Nat} {f : Nat → Option Nat} (Rr : Nat → Nat) (he : X[q0]? = some (a, .inl (cT K, n, .inr (.inr (.inr (.inr f)))))) (hX2 : X.eraseIdx q0 = X2) (h4 : 400 ≤ K) (hcT : h.2.2.1 = cT) (hV : sx_V h L q) (hf : ∀ j, j < n → f j = some (Rr j)) (hn : n ≤ 5000) (hS0 : ∀ j, j < n → Rr j ∈ L ∧ h.1 (Rr j) = sx_ek K ∧ (K = 404 → h.2.1 (Rr j) = 12)) (kk : ∀ (M : List Nat) (g : Sh) (r : Sg), cc_gr L h q M g r → cc_y M g a K n → g.2.2.2 a = Rr → g.2.2.1 = cT → sx_V g M r → WC l dC dI R mL Z A X2 M g r cells slots pc lvs st) : WC l dC dI R mL Z A X L h q cells slots pc lvs st := by
  intro ls H locs hl hP hD hS
  have hP1 := wc_permP (wc_erase he) hP
  have hD1 := wc_permD (wc_erase he) hD
  rw [hX2, ← List.append_assoc] at hP1 hD1
  have ha : a ∉ L := cc_new hD1
  have hP2 := wc_chg (e' := .inl (cT K, n, .inr (.inr (.inr (.inr (fun j => some (Rr j))))))) hP1 (fun z => by
    have z1 : H[a]? = some (vp_cell (cT K) (n, .inr (.inr (.inr (.inr f))))) := z
    show H[a]? = some (vp_cell (cT K) (n, .inr (.inr (.inr (.inr (fun j => some (Rr j)))))))
    rw [← cc_cong hf]
    exact z1)
  have hD2 := wc_chgD (e' := .inl (cT K, n, .inr (.inr (.inr (.inr (fun j => some (Rr j))))))) hD1
  have hsg : sg_F (gp_h h a K n Rr) (gp_q q a (fun _ => 0) (fun _ => 0) (fun _ => 0) (fun _ => 0) (fun _ => 0)) a = .inl (cT K, n, .inr (.inr (.inr (.inr (fun j => some (Rr j)))))) := by
    rw [sg_F_q (k := K) gp_h1e h4, gp_h2e, gp_h4e]
    show (Sum.inl ((gp_h h a K n Rr).2.2.1 K, _, _) : va_E) = _
    rw [show (gp_h h a K n Rr).2.2.1 = cT from hcT]
  rw [List.append_assoc, gp_pl ha hsg] at hP2 hD2
  exact kk _ _ _ (cc_gr.gp ha) ⟨List.mem_append_right _ (List.mem_singleton.mpr rfl), gp_h1e, gp_h2e⟩ gp_h4e hcT (gp_V hV ha (fun k hk => absurd (cc_tk (by omega)) hk) hn (fun _ => hS0) (fun k => cc_R0 _ _ _) (fun _ => cc_E0 _)) ls H locs hl hP2 hD2 hS
theorem wc_layLn (q0 : Nat) {a K n : Nat} {xs : List Nat} (he : X[q0]? = some (a, .inl (cT K, n, .inr (.inr (.inr (.inr (fun j => xs[j]?))))))) (hX2 : X.eraseIdx q0 = X2) (h4 : 400 ≤ K) (h44 : K ≠ 404) (hcT : h.2.2.1 = cT) (hV : sx_V h L q) (hlen : xs.length = n) (hn : n ≤ 5000) {K2 : Nat} (hek : sx_ek K = K2) (hl0 : cc_l L h xs K2) (kk : ∀ (M : List Nat) (g : Sh) (r : Sg), cc_gr L h q M g r → cc_y M g a K n → g.2.2.2 a = (fun j => xs.getD j 0) → g.2.2.1 = cT → sx_V g M r → WC l dC dI R mL Z A X2 M g r cells slots pc lvs st) : WC l dC dI R mL Z A X L h q cells slots pc lvs st := by
  refine wc_layQn q0 (fun j => xs.getD j 0) he hX2 h4 hcT hV (fun j hj => ?_) hn (fun j hj => ?_) kk
  · have hj2 : j < xs.length := by omega
    show xs[j]? = some (xs.getD j 0)
    rw [List.getD_eq_getElem?_getD, List.getElem?_eq_getElem hj2]
    rfl
  · have hj2 : j < xs.length := by omega
    have e : xs.getD j 0 = xs[j] := by
      rw [List.getD_eq_getElem?_getD, List.getElem?_eq_getElem hj2]
      rfl
    show xs.getD j 0 ∈ L ∧ h.1 (xs.getD j 0) = sx_ek K ∧ (K = 404 → h.2.1 (xs.getD j 0) = 12)
    rw [e, hek]
    have z := hl0 xs[j] (List.getElem_mem hj2)
    exact ⟨z.1, z.2, fun z9 => absurd z9 h44⟩
end CR9
