theorem wc_plD {A : Nat → Prop} {L : List Nat} {f : Nat → va_E} (hN : sx_nd L) (hA : ∀ a, a ∈ L → A a) : va_D A (va_pl L f) := by
  have key : ∀ (k : Nat) (p : Nat × va_E), (va_pl L f)[k]? = some p → L[k]? = some p.1 := fun k p hk => by
    unfold va_pl at hk
    rw [List.getElem?_map] at hk
    obtain ⟨x, hx, e⟩ := Option.map_eq_some_iff.mp hk
    rw [hx, ← e]
  exact ⟨fun i j p q hi hj e => hN i j p.1 (key i p hi) (by rw [e]; exact key j q hj), fun k q hk => hA _ (List.mem_of_getElem? (key k q hk))⟩
section CR4
variable {l : Launch} {dC : Nat → ClassId} {dI : Nat → Nat → Nat} {cT : Nat → ClassId} {R : Room} {mL : Nat} {cc : ByteArray} {own : String} {Ts : List Cond} {A : Nat → Prop} {Z : Zt} {X X2 : va_W} {L : List Nat} {h : Sh} {q : Sg} {cells slots pc : Nat} {lvs : List (Nat × Value)} {rest st : List Value}
theorem wc_init (B : BC dC dI cT mL cc own Ts A Z) (q0 : Nat) {b ci n index maxL mc ms : Nat} {fs : List Value} (he : X[q0]? = some (b, .inr (ci, fs))) (hX2 : X.eraseIdx q0 = X2) {y : MethodName} {bytes : ByteArray} {ws : List Cond} {rm : Room} {As : List Value} {ex : U3 → Prop} (hM : CCI l dC dI cT y ws rm ci fs As b ex mc ms) (cw : CallB R Z.2.2.1 Z.2.2.2.2.1 own index y bytes maxL none ws rm mc ms n ∧ y.name = "<init>" ∧ (Cond.instanceMethod y).before Z.2.2.2.2.1 Z.2.2.1 = true) (hcT : h.2.2.1 = cT) (hV : sx_V h L q) (hn : As.length = n) (hst : st = As.reverse ++ .ref b :: rest) (hW : (rest.map fun v => v.category).sum ≤ 8) (hcells : cells + mc ≤ R.cells) (hslots : slots + ms ≤ R.slots) (hd : decode cc pc = .ok (.invokespecial index, 3))
    (kk : ∀ (M : List Nat) (g : Sh) (r : Sg) (M0 : List Nat) (g0 : Sh) (r0 : Sg), cc_gr L h q M g r → cc_gr M0 g0 r0 M g r → ex (M0, g0, r0) → b ∈ M → g.1 b = ci → g.2.2.1 = cT → sx_V g M r → WC l dC dI R mL Z A X2 M g r (cells + mc) (slots + ms) (pc + 3) lvs rest) : WC l dC dI R mL Z A X L h q cells slots pc lvs st := by
  intro ls H locs hl hP hD hS
  subst hst
  have hat := hP q0 _ (wc_at he)
  have hfree : ∀ a, cc_A b H.size a → A a := fun a ha => by
    rcases ha with e | e
    · rw [e]; exact hD.2 q0 _ (wc_at he)
    · exact B.2.2.1 a (Nat.le_trans hS.1 e)
  have hPb : va_P (dC, dI) vwCl [(b, .inr (ci, fs))] H := fun k z hk => by
    have h1 : k < 1 := (List.getElem?_eq_some_iff.mp hk).1
    obtain rfl : k = 0 := by omega
    have e : (b, Sum.inr (ci, fs)) = z := Option.some.inj hk
    subst e
    exact hat
  have hlt : b < H.size := hat.lt
  have hP2 := wc_permP (wc_erase he) hP
  have hD2 := wc_permD (wc_erase he) hD
  rw [hX2, ← List.append_assoc] at hP2 hD2
  refine va_callv (va_runI (As := As) (rest := rest) B.1 (hM H.size) cw ⟨fun a U g mk z => by obtain ⟨z0, z1, zl, zP, zK, zX, zZ⟩ := z; exact ⟨z0, z1, zl, zP, va_K.moved (u := U) (U := U.calling g mk a) (Vm.Alike.refl U.vm) zK, zz_X.same (u := U) (U := U.calling g mk a) rfl zX, zZ.calling⟩, fun U hU hW9 => ⟨rfl, by rw [hU], hlt, by rw [hU]; exact hPb, va_K.moved hW9.alike B.2.1, zz_X.warm hW9 B.2.2.2.1, B.2.2.2.2.1.enter hU hW9 hS hfree⟩⟩ rfl hn hl.1 rfl (lv_room hW) hd ⟨hcells, hslots⟩) hS (fun a _ z => hfree a z) hfree (fun u t H1 locs1 ht hvm hw hB hz1 hk1 hS1 => ?_)
  obtain ⟨M, g, r⟩ := u
  obtain ⟨⟨uN, uV, ucT, uA, ub, uk⟩, hex⟩ := hw
  have hB : va_P (dC, dI) vwCl (va_pl M (sg_F g r)) H1 := by subst ht; exact hB
  have hlt2 : ∀ (k : Nat) (z : Nat × va_E), (X2 ++ va_pl L (sg_F h q))[k]? = some z → z.1 < H.size ∧ z.1 ≠ b := fun k z hk => by
    have hkl := (List.getElem?_eq_some_iff.mp hk).1
    have hk2 : ((X2 ++ va_pl L (sg_F h q)) ++ [(b, .inr (ci, fs))])[k]? = some z := by rw [List.getElem?_append_left hkl]; exact hk
    refine ⟨(hP2 k z hk2).lt, fun e => ?_⟩
    have := hD2.1 k (X2 ++ va_pl L (sg_F h q)).length z (b, .inr (ci, fs)) hk2 (by rw [List.getElem?_append_right (Nat.le_refl _), Nat.sub_self]; rfl) e
    omega
  have hP3 : va_P (dC, dI) vwCl (X2 ++ va_pl L (sg_F h q)) H1 := fun k z hk => by
    obtain ⟨z1, z2⟩ := hlt2 k z hk
    have hkl := (List.getElem?_eq_some_iff.mp hk).1
    exact (hP2 k z (by rw [List.getElem?_append_left hkl]; exact hk)).kept (hk1 z.1 z1 (fun w => by rcases w with w | w; exact z2 w; omega))
  have hD3 : va_D A (X2 ++ va_pl L (sg_F h q)) := ⟨fun i j p1 p2 hi hj e => hD2.1 i j p1 p2 (by rw [List.getElem?_append_left (List.getElem?_eq_some_iff.mp hi).1]; exact hi) (by rw [List.getElem?_append_left (List.getElem?_eq_some_iff.mp hj).1]; exact hj) e, fun k z hk => hD2.2 k z (by rw [List.getElem?_append_left (List.getElem?_eq_some_iff.mp hk).1]; exact hk)⟩
  have hap : ∀ x, x ∈ M → x ∉ L := fun x hx hxL => by
    obtain ⟨i, hi⟩ := List.mem_iff_getElem?.mp hxL
    have e1 : (X2 ++ va_pl L (sg_F h q))[X2.length + i]? = some (x, sg_F h q x) := by
      rw [List.getElem?_append_right (by omega), Nat.add_sub_cancel_left]
      unfold va_pl
      rw [List.getElem?_map, hi]
      rfl
    obtain ⟨z1, z2⟩ := hlt2 _ _ e1
    rcases uA x hx with w | w
    · exact z2 w
    · have : x < H.size := z1
      omega
  have hD4 : va_D A (va_pl M (sg_F g r)) := wc_plD uN (fun a ha => hfree a (uA a ha))
  have hP5 := hP3.app hB
  have hD5 := hD3.app hD4 (fun i j p1 p2 hi hj e => by
    obtain ⟨z1, z2⟩ := hlt2 i p1 hi
    unfold va_pl at hj
    rw [List.getElem?_map] at hj
    obtain ⟨x, hx, e9⟩ := Option.map_eq_some_iff.mp hj
    have e8 : p1.1 = x := by rw [e, ← e9]
    rcases uA x (List.mem_of_getElem? hx) with w | w
    · exact z2 (e8.trans w)
    · omega)
  rw [List.append_assoc, gl_pl (hcT.trans ucT.symm) hap] at hP5 hD5
  obtain ⟨f1, -⟩ := gl_1r (h := h) (g := g) (q := q) (r := r) (hap b ub)
  exact kk _ _ _ M g r cc_gr.gl1 (cc_gr.gl2 hap) hex (List.mem_append_right _ ub) (f1.trans uk) hcT (gl_V hV uV hap) ls H1 locs1 hl hP5 hD5 hS1
end CR4
