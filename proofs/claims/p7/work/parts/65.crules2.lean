theorem wc_ndI {ws : va_W} : (∀ (i j : Nat) (p q : Nat × va_E), ws[i]? = some p → ws[j]? = some q → p.1 = q.1 → i = j) ↔ (ws.map Prod.fst).Nodup := by
  constructor
  · intro h
    unfold List.Nodup
    rw [List.pairwise_iff_getElem]
    intro i j hi hj hij he
    rw [List.length_map] at hi hj
    rw [List.getElem_map, List.getElem_map] at he
    have := h i j _ _ (List.getElem?_eq_getElem hi) (List.getElem?_eq_getElem hj) he
    omega
  · intro h i j p q hi hj e
    unfold List.Nodup at h
    rw [List.pairwise_iff_getElem] at h
    obtain ⟨li, ei⟩ := List.getElem?_eq_some_iff.mp hi
    obtain ⟨lj, ej⟩ := List.getElem?_eq_some_iff.mp hj
    have li2 : i < (ws.map Prod.fst).length := by rw [List.length_map]; exact li
    have lj2 : j < (ws.map Prod.fst).length := by rw [List.length_map]; exact lj
    rcases Nat.lt_trichotomy i j with z | z | z
    · exact absurd (by rw [List.getElem_map, List.getElem_map, ei, ej]; exact e) (h i j li2 lj2 z)
    · exact z
    · exact absurd (by rw [List.getElem_map, List.getElem_map, ei, ej]; exact e.symm) (h j i lj2 li2 z)
theorem wc_permP {D : va_G} {cl : List vw_C} {ws w2 : va_W} {H : Heap} (hp : ws.Perm w2) (h : va_P D cl ws H) : va_P D cl w2 H := fun k q hk => by
  obtain ⟨i, hi⟩ := List.mem_iff_getElem?.mp (hp.mem_iff.mpr (List.mem_of_getElem? hk))
  exact h i q hi
theorem wc_permD {A : Nat → Prop} {ws w2 : va_W} (hp : ws.Perm w2) (h : va_D A ws) : va_D A w2 := by
  refine ⟨wc_ndI.mpr ((hp.map Prod.fst).nodup_iff.mp (wc_ndI.mp h.1)), fun k q hk => ?_⟩
  obtain ⟨i, hi⟩ := List.mem_iff_getElem?.mp (hp.mem_iff.mpr (List.mem_of_getElem? hk))
  exact h.2 i q hi
theorem wc_swap {X P : va_W} {c : Nat × va_E} : ((X ++ P) ++ [c]).Perm ((X ++ [c]) ++ P) := by
  rw [List.append_assoc, List.append_assoc]
  exact List.Perm.append_left X List.perm_append_comm
section CR2
variable {l : Launch} {dC : Nat → ClassId} {dI : Nat → Nat → Nat} {cT : Nat → ClassId} {R : Room} {mL : Nat} {cc : ByteArray} {own : String} {Ts : List Cond} {A : Nat → Prop} {Z : Zt} {X X2 : va_W} {L : List Nat} {h : Sh} {q : Sg} {cells slots pc : Nat} {lvs : List (Nat × Value)} {rest : List Value}
theorem wc_new (B : BC dC dI cT mL cc own Ts A Z) {C : String} {T : u_T} {N ci index : Nat} (hin : ∀ w ∈ u_ws C T N, w ∈ Ts) (ty : Nat → FieldType) (hty : ∀ k, k < N → parseFieldDescriptor (T k).2.2.1 = some (ty k)) (hcl : Cond.classLink own index C ∈ Ts) (hinst : Cond.instantiable C N ∈ Ts) (hini : Cond.initialized C ∈ Ts) (hc : vwCl[ci]? = some (C, T, N)) {fs : List Value} (hfs : ∀ j, j < N → defaultValue (ty j) = vp_V fs j) (hcells : cells + 1 ≤ R.cells) (hslots : slots + N ≤ R.slots) (hd : decode cc pc = .ok (.new index, 3)) (kk : ∀ a : Nat, a ∉ L → A a → WC l dC dI R mL Z A (X ++ [(a, .inr (ci, fs))]) L h q (cells + 1) (slots + N) (pc + 3) lvs (.ref a :: rest)) : WC l dC dI R mL Z A X L h q cells slots pc lvs rest := by
  intro ls H locs hl hP hD hS
  refine va_new (D := (dC, dI)) (fs := fs) B.1.1 B.1.2.1 B.1.2.2.2.2 hin ty hty B.1.2.2.2.1 (B.1.2.2.2.2 _ hcl) (B.1.2.2.2.2 _ hinst) (B.1.2.2.2.2 _ hini) B.2.1 hP hD hS B.2.2.1 hc hfs hcells hslots hd (fun a H1 hP1 hD1 hS1 => ?_)
  exact kk a (cc_new hD1) (hD1.2 (X ++ va_pl L (sg_F h q)).length (a, .inr (ci, fs)) (by rw [List.getElem?_append_right (Nat.le_refl _), Nat.sub_self]; rfl)) ls H1 locs hl (wc_permP wc_swap hP1) (wc_permD wc_swap hD1) hS1
theorem wc_newq (B : BC dC dI cT mL cc own Ts A Z) {C : String} {index : Nat} (K j N : Nat) {n : Int32} (hj : (cc_tys cT)[j]? = some (cT K, .object C)) (hao : va_AO C Z.2.2.1) (hcl : Cond.classLink own index C ∈ Ts) (hn : ¬ n < 0) (hN : n.toNatClampNeg = N) (hb5 : N ≤ 5000) (hcells : cells + 1 ≤ R.cells) (hslots : slots + N ≤ R.slots) (hd : decode cc pc = .ok (.anewarray index, 3)) (kk : ∀ a : Nat, a ∉ L → A a → WC l dC dI R mL Z A (X ++ [(a, .inl (cT K, N, .inr (.inr (.inr (.inr (fun _ => none))))))]) L h q (cells + 1) (slots + N) (pc + 3) lvs (.ref a :: rest)) : WC l dC dI R mL Z A X L h q cells slots pc lvs (.int n :: rest) := by
  intro ls H locs hl hP hD hS
  refine va_newq (D := (dC, dI)) (N' := N) B.1.1 B.1.2.1 B.1.2.2.2.1 (B.1.2.2.2.2 _ hcl) hao B.2.1 hP hD hS B.2.2.1 hn hN (by omega) hcells hslots hd (fun a cA H1 hK1 hP1 hD1 hS1 => ?_)
  have hcA : cA = cT K := cc_RA (hK1.2 8 _ rfl).2 (B.2.1.2 j _ hj).2
  rw [hcA] at hP1 hD1
  exact kk a (cc_new hD1) (hD1.2 (X ++ va_pl L (sg_F h q)).length (a, _) (by rw [List.getElem?_append_right (Nat.le_refl _), Nat.sub_self]; rfl)) ls H1 locs hl (wc_permP wc_swap hP1) (wc_permD wc_swap hD1) hS1
end CR2
