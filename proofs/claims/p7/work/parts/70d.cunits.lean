/-! The two Units are apart. -/
def cc_ua (M : List Nat) (r : Sg) (a b : Nat) : Prop := a ∈ M ∧ b ∈ M ∧ ¬ a = b ∧ ∀ k, k < 6 → ¬ r.2.2.1 a k = r.2.2.1 b k
theorem cc_ua.gr {L M : List Nat} {h g : Sh} {q r : Sg} {a b : Nat} (z : cc_ua L q a b) (hg : cc_gr L h q M g r) : cc_ua M r a b := by
  obtain ⟨y0, -, -, -, -, -, y6, -⟩ := hg a z.1
  obtain ⟨x0, -, -, -, -, -, x6, -⟩ := hg b z.2.1
  exact ⟨y0, x0, z.2.2.1, fun k hk => by rw [y6, x6]; exact z.2.2.2 k hk⟩
theorem cc_tk9 {k : Nat} (hk : k < 6) : sx_tk 9 k ≠ 0 := by
  rcases (show k = 0 ∨ k = 1 ∨ k = 2 ∨ k = 3 ∨ k = 4 ∨ k = 5 by omega) with rfl | rfl | rfl | rfl | rfl | rfl <;> decide
theorem cc_ua_mk {L M M0 : List Nat} {h g g0 : Sh} {q r r0 : Sg} {a b : Nat} (hV : sx_V h L q) (ha : cc_o L h a 9) (hg : cc_gr L h q M g r) (hg0 : cc_gr M0 g0 r0 M g r) (hap : ∀ x, x ∈ M0 → x ∉ L) (hb0 : b ∈ M0) (hk0 : g0.1 b = 9) (hV0 : sx_V g0 M0 r0) : cc_ua M r a b := by
  obtain ⟨y0, -, -, -, -, -, y6, -⟩ := hg a ha.1
  obtain ⟨x0, -, -, -, -, -, x6, -⟩ := hg0 b hb0
  refine ⟨y0, x0, fun e => hap b hb0 (e ▸ ha.1), fun k hk e => ?_⟩
  have h1 := (hV.1 a ha.1 k (by rw [ha.2]; exact cc_tk9 hk)).1
  have h2 := (hV0.1 b hb0 k (by rw [hk0]; exact cc_tk9 hk)).1
  rw [y6, x6] at e
  exact hap _ h2 (e ▸ h1)
section CR5
variable {l : Launch} {dC : Nat → ClassId} {dI : Nat → Nat → Nat} {cT : Nat → ClassId} {R : Room} {mL : Nat} {cc : ByteArray} {own : String} {Ts : List Cond} {A : Nat → Prop} {Z : Zt} {X X2 : va_W} {L : List Nat} {h : Sh} {q : Sg} {cells slots pc : Nat} {lvs : List (Nat × Value)} {rest st : List Value}
theorem wc_initNn (B : BC dC dI cT mL cc own Ts A Z) (q0 : Nat) {b ci n index maxL mc ms : Nat} {fs : List Value} (he : X[q0]? = some (b, .inr (ci, fs))) (hX2 : X.eraseIdx q0 = X2) {y : MethodName} {bytes : ByteArray} {ws : List Cond} {rm : Room} {As : List Value} {ex : U3 → Prop} (hM : CCI l dC dI cT y ws rm ci fs As b ex mc ms) {host : String} (cw : va_CN R Z.2.2.1 Z.2.2.2.2.1 own index y host bytes maxL none ws rm mc ms n ∧ y.name = "<init>" ∧ (Cond.instanceMethod y).before Z.2.2.2.2.1 Z.2.2.1 = true) (hcT : h.2.2.1 = cT) (hV : sx_V h L q) (hn : As.length = n) (hst : st = As.reverse ++ .ref b :: rest) (hW : (rest.map fun v => v.category).sum ≤ 8) (hcells : cells + mc ≤ R.cells) (hslots : slots + ms ≤ R.slots) (hd : decode cc pc = .ok (.invokespecial index, 3))
    (kk : ∀ (M : List Nat) (g : Sh) (r : Sg) (M0 : List Nat) (g0 : Sh) (r0 : Sg), cc_gr L h q M g r → cc_gr M0 g0 r0 M g r → (∀ x, x ∈ M0 → x ∉ L) → b ∈ M0 → g0.1 b = ci → sx_V g0 M0 r0 → ex (M0, g0, r0) → b ∈ M → g.1 b = ci → g.2.2.1 = cT → sx_V g M r → WC l dC dI R mL Z A X2 M g r (cells + mc) (slots + ms) (pc + 3) lvs rest) : WC l dC dI R mL Z A X L h q cells slots pc lvs st := by
  intro ls H locs hl hP hD hS
  subst hst
  have hat := hP q0 _ (wc_at he)
  have hfree : ∀ a, cc_A b H.size a → A a := fun a ha => by
    rcases ha with e | e
    · rw [e]; exact hD.2 q0 _ (wc_at he)
    · exact B.2.2.1 a (Nat.le_trans hS.1 e)
  have hPb : va_P (dC, dI) vwCl [(b, .inr (ci, fs))] H := fun k z hk => by
    have h1 : k < 1 := (List.getElem?_eq_some_iff.mp hk).1
    obtain rfl : k = 0 := by omega
    have e : (b, Sum.inr (ci, fs)) = z := Option.some.inj hk
    subst e
    exact hat
  have hlt : b < H.size := hat.lt
  have hP2 := wc_permP (wc_erase he) hP
  have hD2 := wc_permD (wc_erase he) hD
  rw [hX2, ← List.append_assoc] at hP2 hD2
  refine va_callv (va_runIN (As := As) (rest := rest) B.1 (hM H.size) cw ⟨fun a U g mk z => by obtain ⟨z0, z1, zl, zP, zK, zX, zZ⟩ := z; exact ⟨z0, z1, zl, zP, va_K.moved (u := U) (U := U.calling g mk a) (Vm.Alike.refl U.vm) zK, zz_X.same (u := U) (U := U.calling g mk a) rfl zX, zZ.calling⟩, fun U hU hW9 => ⟨rfl, by rw [hU], hlt, by rw [hU]; exact hPb, va_K.moved hW9.alike B.2.1, zz_X.warm hW9 B.2.2.2.1, B.2.2.2.2.1.enter hU hW9 hS hfree⟩⟩ rfl hn hl.1 rfl (lv_room hW) hd ⟨hcells, hslots⟩) hS (fun a _ z => hfree a z) hfree (fun u t H1 locs1 ht hvm hw hB hz1 hk1 hS1 => ?_)
  obtain ⟨M, g, r⟩ := u
  obtain ⟨⟨uN, uV, ucT, uA, ub, uk⟩, hex⟩ := hw
  have hB : va_P (dC, dI) vwCl (va_pl M (sg_F g r)) H1 := by subst ht; exact hB
  have hlt2 : ∀ (k : Nat) (z : Nat × va_E), (X2 ++ va_pl L (sg_F h q))[k]? = some z → z.1 < H.size ∧ z.1 ≠ b := fun k z hk => by
    have hkl := (List.getElem?_eq_some_iff.mp hk).1
    have hk2 : ((X2 ++ va_pl L (sg_F h q)) ++ [(b, .inr (ci, fs))])[k]? = some z := by rw [List.getElem?_append_left hkl]; exact hk
    refine ⟨(hP2 k z hk2).lt, fun e => ?_⟩
    have := hD2.1 k (X2 ++ va_pl L (sg_F h q)).length z (b, .inr (ci, fs)) hk2 (by rw [List.getElem?_append_right (Nat.le_refl _), Nat.sub_self]; rfl) e
    omega
  have hP3 : va_P (dC, dI) vwCl (X2 ++ va_pl L (sg_F h q)) H1 := fun k z hk => by
    obtain ⟨z1, z2⟩ := hlt2 k z hk
    have hkl := (List.getElem?_eq_some_iff.mp hk).1
    exact (hP2 k z (by rw [List.getElem?_append_left hkl]; exact hk)).kept (hk1 z.1 z1 (fun w => by rcases w with w | w; exact z2 w; omega))
  have hD3 : va_D A (X2 ++ va_pl L (sg_F h q)) := ⟨fun i j p1 p2 hi hj e => hD2.1 i j p1 p2 (by rw [List.getElem?_append_left (List.getElem?_eq_some_iff.mp hi).1]; exact hi) (by rw [List.getElem?_append_left (List.getElem?_eq_some_iff.mp hj).1]; exact hj) e, fun k z hk => hD2.2 k z (by rw [List.getElem?_append_left (List.getElem?_eq_some_iff.mp hk).1]; exact hk)⟩
  have hap : ∀ x, x ∈ M → x ∉ L := fun x hx hxL => by
    obtain ⟨i, hi⟩ := List.mem_iff_getElem?.mp hxL
    have e1 : (X2 ++ va_pl L (sg_F h q))[X2.length + i]? = some (x, sg_F h q x) := by
      rw [List.getElem?_append_right (by omega), Nat.add_sub_cancel_left]
      unfold va_pl
      rw [List.getElem?_map, hi]
      rfl
    obtain ⟨z1, z2⟩ := hlt2 _ _ e1
    rcases uA x hx with w | w
    · exact z2 w
    · have : x < H.size := z1
      omega
  have hD4 : va_D A (va_pl M (sg_F g r)) := wc_plD uN (fun a ha => hfree a (uA a ha))
  have hP5 := hP3.app hB
  have hD5 := hD3.app hD4 (fun i j p1 p2 hi hj e => by
    obtain ⟨z1, z2⟩ := hlt2 i p1 hi
    unfold va_pl at hj
    rw [List.getElem?_map] at hj
    obtain ⟨x, hx, e9⟩ := Option.map_eq_some_iff.mp hj
    have e8 : p1.1 = x := by rw [e, ← e9]
    rcases uA x (List.mem_of_getElem? hx) with w | w
    · exact z2 (e8.trans w)
    · omega)
  rw [List.append_assoc, gl_pl (hcT.trans ucT.symm) hap] at hP5 hD5
  obtain ⟨f1, -⟩ := gl_1r (h := h) (g := g) (q := q) (r := r) (hap b ub)
  exact kk _ _ _ M g r cc_gr.gl1 (cc_gr.gl2 hap) hap ub uk uV hex (List.mem_append_right _ ub) (f1.trans uk) hcT (gl_V hV uV hap) ls H1 locs1 hl hP5 hD5 hS1
end CR5
section CR11
variable {l : Launch} {dC : Nat → ClassId} {dI : Nat → Nat → Nat} {cT : Nat → ClassId} {R : Room} {mL : Nat} {cc : ByteArray} {own : String} {Ts : List Cond} {A : Nat → Prop} {Z : Zt} {X X2 : va_W} {L : List Nat} {h : Sh} {q : Sg} {cells slots pc : Nat} {lvs : List (Nat × Value)} {rest st : List Value}
theorem wc_fill2 (B : BC dC dI cT mL cc own Ts A Z) {index maxL a n : Nat} {bytes : ByteArray} {ret : Option FieldType} (ha : cc_y L h a 100 n) (cw : CallB R Z.2.2.1 Z.2.2.2.2.1 own index yJ7_fill_53178 bytes maxL ret wsJ7_fill_53178 ({ frames := 0, cells := 0, slots := 0, locals := 0 } : Room) 0 0 2 ∧ (Cond.static yJ7_fill_53178).before Z.2.2.2.2.1 Z.2.2.1 = true) (hcT : h.2.2.1 = cT) (hV : sx_V h L q) (hW : (rest.map fun v => v.category).sum ≤ 8) (hc0 : cells ≤ R.cells) (hs0 : slots ≤ R.slots) (hd : decode cc pc = .ok (.invokestatic index, 3)) (kk : ∀ r : Sg, sx_V h L r → (∀ b, b ∈ L → r.1 b = q.1 b) → (∀ b, b ∈ L → r.2.2.1 b = q.2.2.1 b) → WC l dC dI R mL Z A X L h r cells slots (pc + 3) lvs rest) : WC l dC dI R mL Z A X L h q cells slots pc lvs (.int (-1) :: .ref a :: rest) :=
  wc_callSv B (As := [.ref a, .int (-1)]) (fun hN => k_J7_fill_53178 l dC dI h L hN q hV (a0 := a) ha.1 ha.2.1 (-1) (by decide) (by decide) (show sx_E 100 (-1) from trivial)) cw hcT rfl rfl hW hc0 hs0 hd (fun r z => kk r z.1 (fun b hb => (z.2.1 b hb (fun w => w.2.2 rfl)).1) (fun b hb => z.2.2 b hb (fun w => w.1.2.2 rfl)))
end CR11
theorem cc_ua.fill {M : List Nat} {r r2 : Sg} {a b : Nat} (z : cc_ua M r a b) (h2 : ∀ c, c ∈ M → r2.2.2.1 c = r.2.2.1 c) : cc_ua M r2 a b := ⟨z.1, z.2.1, z.2.2.1, fun k hk => by rw [h2 a z.1, h2 b z.2.1]; exact z.2.2.2 k hk⟩
