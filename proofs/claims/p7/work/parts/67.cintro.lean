def cc_h0 (cT : Nat → ClassId) : Sh := (fun _ => 0, fun _ => 0, cT, fun _ _ => 0)
def cc_q0 : Sg := (fun _ _ => 0, fun _ _ => 0, fun _ _ => 0, fun _ _ => 0, fun _ _ => 0)
theorem cc_v {l : Launch} {dC : Nat → ClassId} {dI : Nat → Nat → Nat} {cT : Nat → ClassId} {y : MethodName} {ws ws' : List Cond} {rm : Room} {ci : Nat} {fs av : List Value} {a0 : Nat} {ex : U3 → Prop} {mc ms mL : Nat} {cc : ByteArray} {own : String} (hy : plainName y.cls = true) (hw : ws = Cond.code y cc mL none :: ws') (ho : y.cls = own) (hnm : y.name = "<init>") (hmL : (lg_sl (.ref a0 :: av)).length ≤ mL)
    (body : ∀ (sz : Nat) (Z : Zt), a0 < sz → Z.2.2.1.heap.size = sz → BC dC dI cT mL cc own ws (cc_A a0 sz) Z → (∀ (L : List Nat) (h : Sh) (q : Sg) (pc : Nat) (lvs : List (Nat × Value)), decode cc pc = .ok (.return_, 1) → cc_U a0 ci cT sz (L, h, q) → ex (L, h, q) → WC l dC dI rm mL Z (cc_A a0 sz) [] L h q mc ms pc lvs []) → WC l dC dI rm mL Z (cc_A a0 sz) [(a0, .inr (ci, fs))] [] (cc_h0 cT) cc_q0 0 0 0 (lv_args 0 (.ref a0 :: av)) []) : CCI l dC dI cT y ws rm ci fs av a0 ex mc ms := by
  intro sz
  refine Met.ofW (cc := cc) (maxL := mL) (ret := none) hy hw ?_
  intro p e s m args below meth c s₁ B hml hv
  obtain ⟨rfl, hsz, hlt, hP, hK, hX, hZ⟩ := hv
  subst ho
  have hlocks := B.notSynchronized
  have hin : meth.name = "<init>" := (name_of_methodNamed B.named B.method).1.trans hnm
  rw [lg_entry_eq]
  refine body sz (p, e, s, m, _, below, meth, c, _, 0, 0) hlt hsz ⟨⟨B.exec, B.bytes, hml, findClass_of_methodNamed B.named, atoms_spec (ws := ws) B.pre⟩, hK, fun a ha => Or.inr (by rw [← hsz]; exact ha), hX, hZ, hin⟩ ?_ _ _ _ (lv_entry _ hmL) ?_ ?_ va_S.rf
  · intro L h q pc lvs hd hu hx ls H locs hl hP hD hS
    exact W.vret B.exec B.bytes B.returns (fun t ht hW => ⟨⟨(L, h, q), rfl, ⟨hu, hx⟩, by subst ht; exact hP⟩, hS.F ht⟩) hS.2.2 hd
  · exact hP
  · refine ⟨fun i j p q hi hj e => ?_, fun k q hk => ?_⟩
    · have h1 := (List.getElem?_eq_some_iff.mp hi).1
      have h2 := (List.getElem?_eq_some_iff.mp hj).1
      have h1' : i < 1 := h1
      have h2' : j < 1 := h2
      omega
    · have h1 : k < 1 := (List.getElem?_eq_some_iff.mp hk).1
      obtain rfl : k = 0 := by omega
      have e : (a0, Sum.inr (ci, fs)) = q := Option.some.inj hk
      subst e
      exact Or.inl rfl
theorem wc_widen {l : Launch} {dC : Nat → ClassId} {dI : Nat → Nat → Nat} {R : Room} {mL : Nat} {A : Nat → Prop} {Z : Zt} {X : va_W} {L : List Nat} {h : Sh} {q : Sg} {cells slots pc : Nat} {lvs : List (Nat × Value)} {st : List Value} (k n : Nat) (h1 : cells ≤ k) (h2 : slots ≤ n) (kk : WC l dC dI R mL Z A X L h q k n pc lvs st) : WC l dC dI R mL Z A X L h q cells slots pc lvs st := fun ls H locs hl hP hD hS => W.widen h1 h2 (kk ls H locs hl hP hD hS)
theorem cc_V0 {cT : Nat → ClassId} : sx_V (cc_h0 cT) [] cc_q0 := by
  unfold sx_V sx_T sx_S sx_I sx_G
  simp
