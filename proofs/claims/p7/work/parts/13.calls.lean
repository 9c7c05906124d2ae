/-! Contracts over the pool, and calls by them: nothing is made, nothing outside the pool changes. -/
def AL (L : List Nat) (sz : Nat) : Nat → Prop := fun a => a ∈ L ∨ sz ≤ a
theorem AL_sub {L : List Nat} {H0 H : Heap} {locs : List Loc} (hS : va_S (AL L H0.size) H0 H locs) : ∀ a, AL L H.size a → AL L H0.size a := fun _ ha => ha.elim Or.inl (fun x => Or.inr (Nat.le_trans hS.1 x))
def sx_nd (L : List Nat) : Prop := ∀ (i j x : Nat), L[i]? = some x → L[j]? = some x → i = j
theorem AL_D {L : List Nat} (hN : sx_nd L) (sz : Nat) (g : Nat → va_E) : va_D (AL L sz) (va_pl L g) := by
  refine ⟨fun i j x y hx hy hxy => ?_, fun k x hx => ?_⟩
  · unfold va_pl at hx hy
    rw [List.getElem?_map] at hx hy
    cases hi : L[i]? with
    | none => rw [hi] at hx; cases hx
    | some u =>
      cases hj : L[j]? with
      | none => rw [hj] at hy; cases hy
      | some v =>
        rw [hi] at hx
        rw [hj] at hy
        cases hx
        cases hy
        have huv : u = v := hxy
        subst huv
        exact hN i j u hi hj
  · unfold va_pl at hx
    rw [List.getElem?_map] at hx
    cases hk : L[k]? with
    | none => rw [hk] at hx; cases hx
    | some u =>
      rw [hk] at hx
      cases hx
      exact Or.inl (List.mem_of_getElem? hk)
def sx_tys (h : Sh) : List (ClassId × FieldType) := [(h.2.2.1 13, .int), (h.2.2.1 200, .long), (h.2.2.1 300, .byte), (h.2.2.1 400, .object RX5), (h.2.2.1 401, .object RX2), (h.2.2.1 402, .object RX1), (h.2.2.1 403, .object RX0), (h.2.2.1 404, .array .long)]
def zz_TH (U : State) : Prop := va_Nw (.castable "java/util/NoSuchElementException" "java/util/NoSuchElementException") U ∧ va_Nw (.declares ⟨"java/lang/RuntimeException", "<init>", "(Ljava/lang/String;)V"⟩) U ∧ va_Nw (.declares ⟨"java/lang/Exception", "<init>", "(Ljava/lang/String;)V"⟩) U ∧ va_Nw (.declares ⟨"java/lang/Throwable", "<init>", "(Ljava/lang/String;)V"⟩) U
theorem zz_TH.warm {s U : State} (hW : s.WarmedH U.vm) (h : zz_TH s) : zz_TH U := ⟨va_Nw.warmC hW h.1, va_Nw.warmD hW h.2.1, va_Nw.warmD hW h.2.2.1, va_Nw.warmD hW h.2.2.2⟩
theorem zz_TH.same {u U : State} (hv : u.vm = U.vm) (h : zz_TH u) : zz_TH U := ⟨va_Nw.same rfl hv h.1, va_Nw.same rfl hv h.2.1, va_Nw.same rfl hv h.2.2.1, va_Nw.same rfl hv h.2.2.2⟩
/-- what rides along in every contract: the reference's static fields, and what a throw needs -/
def ZZ (A : Nat → Prop) (U : State) : Prop := va_Z "ClayAccountsModel" "SYSTEM_NAME" "J" (.long 286303963) A U U.heap ∧ va_Z "ClayAccountsModel" "TOTAL_NAME" "J" (.long 10938684) A U U.heap ∧ va_Z "ClayAccountsModel" "GRAND_NAME" "J" (.long 4075492) A U U.heap ∧ vx_Zq Bundle.tN "UNASSIGNED_STACK" Bundle.steD A U U.heap ∧ vx_Zq Bundle.tN "SUPPRESSED_SENTINEL" Bundle.listD A U U.heap ∧ zz_TH U ∧ (∃ sr : Nat, vk_R RX11 137 "no such SYSTEM, or no such question" sr U) ∧ (∃ sr : Nat, vk_R RX11 160 "OUT has no such byte" sr U) ∧ (∃ sr : Nat, vk_R RX11 173 "no such LINE, or no such question" sr U) ∧ (∃ sr : Nat, vk_R RX11 206 "no such LINE" sr U) ∧ (∃ sr : Nat, vk_R RX11 213 "no such ?" sr U)
theorem ZZ.calling {A : Nat → Prop} {U : State} {g : JFrame} {mk : MethodId} {a : Array Value} (h : ZZ A U) : ZZ A (U.calling g mk a) := ⟨va_Z.moved (u := U) (U := U.calling g mk a) (Vm.Alike.refl U.vm) h.1, va_Z.moved (u := U) (U := U.calling g mk a) (Vm.Alike.refl U.vm) h.2.1, va_Z.moved (u := U) (U := U.calling g mk a) (Vm.Alike.refl U.vm) h.2.2.1, vx_Zq.moved (u := U) (U := U.calling g mk a) (Vm.Alike.refl U.vm) h.2.2.2.1, vx_Zq.moved (u := U) (U := U.calling g mk a) (Vm.Alike.refl U.vm) h.2.2.2.2.1, zz_TH.same rfl h.2.2.2.2.2.1, h.2.2.2.2.2.2.1.elim (fun sr z => ⟨sr, vk_R.same rfl z⟩), h.2.2.2.2.2.2.2.1.elim (fun sr z => ⟨sr, vk_R.same rfl z⟩), h.2.2.2.2.2.2.2.2.1.elim (fun sr z => ⟨sr, vk_R.same rfl z⟩), h.2.2.2.2.2.2.2.2.2.1.elim (fun sr z => ⟨sr, vk_R.same rfl z⟩), h.2.2.2.2.2.2.2.2.2.2.elim (fun sr z => ⟨sr, vk_R.same rfl z⟩)⟩
theorem ZZ.enter {A A2 : Nat → Prop} {s U : State} {H : Heap} {locs : List Loc} (h : ZZ A s) (hU : U.heap = H) (hW : s.WarmedH U.vm) (hS : va_S A s.heap H locs) (hFc : ∀ a, A2 a → A a) : ZZ A2 U := ⟨by rw [hU]; exact va_Z.narrow (va_Z.kept (va_Z.moved hW.alike h.1) hS.2.1) hFc, by rw [hU]; exact va_Z.narrow (va_Z.kept (va_Z.moved hW.alike h.2.1) hS.2.1) hFc, by rw [hU]; exact va_Z.narrow (va_Z.kept (va_Z.moved hW.alike h.2.2.1) hS.2.1) hFc, by rw [hU]; exact vx_Zq.narrow (vx_Zq.kept (vx_Zq.moved hW.alike h.2.2.2.1) hS.2.1) hFc, by rw [hU]; exact vx_Zq.narrow (vx_Zq.kept (vx_Zq.moved hW.alike h.2.2.2.2.1) hS.2.1) hFc, zz_TH.warm hW h.2.2.2.2.2.1, h.2.2.2.2.2.2.1.elim (fun sr z => ⟨sr, vk_R.warm hW z⟩), h.2.2.2.2.2.2.2.1.elim (fun sr z => ⟨sr, vk_R.warm hW z⟩), h.2.2.2.2.2.2.2.2.1.elim (fun sr z => ⟨sr, vk_R.warm hW z⟩), h.2.2.2.2.2.2.2.2.2.1.elim (fun sr z => ⟨sr, vk_R.warm hW z⟩), h.2.2.2.2.2.2.2.2.2.2.elim (fun sr z => ⟨sr, vk_R.warm hW z⟩)⟩
def sx_pre (dC : Nat → ClassId) (dI : Nat → Nat → Nat) (h : Sh) (L : List Nat) (q : Sg) (av : List Value) (sz : Nat) : Array Value → State → Prop := va_Pc av (fun U => U.heap.size = sz ∧ va_P (dC, dI) vwCl (va_pl L (sg_F h q)) U.heap ∧ va_K (dC, dI) vwCl (sx_tys h) U ∧ ZZ (AL L sz) U)
def sx_at (dC : Nat → ClassId) (dI : Nat → Nat → Nat) (h : Sh) (L : List Nat) (q : Sg) (t : State) : Prop := va_P (dC, dI) vwCl (va_pl L (sg_F h q)) t.heap
/-- a method that answers an int (or a boolean), nothing, a long, a reference -/
def CMi (l : Launch) (dC : Nat → ClassId) (dI : Nat → Nat → Nat) (h : Sh) (L : List Nat) (y : MethodName) (ws : List Cond) (rm : Room) (q : Sg) (av : List Value) (post : Int32 → Sg → Prop) : Prop :=
  ∀ sz : Nat, Met l y ws rm (sx_pre dC dI h L q av sz) (va_Qi post (sx_at dC dI h L) (AL L sz)) 0 0 (AL L sz)
def CMv (l : Launch) (dC : Nat → ClassId) (dI : Nat → Nat → Nat) (h : Sh) (L : List Nat) (y : MethodName) (ws : List Cond) (rm : Room) (q : Sg) (av : List Value) (post : Sg → Prop) : Prop :=
  ∀ sz : Nat, Met l y ws rm (sx_pre dC dI h L q av sz) (va_Qv post (sx_at dC dI h L) (AL L sz)) 0 0 (AL L sz)
def CMr (l : Launch) (dC : Nat → ClassId) (dI : Nat → Nat → Nat) (h : Sh) (L : List Nat) (y : MethodName) (ws : List Cond) (rm : Room) (q : Sg) (av : List Value) (post : Nat → Sg → Prop) : Prop :=
  ∀ sz : Nat, Met l y ws rm (sx_pre dC dI h L q av sz) (va_Qr (fun _ => True) (fun (u : Sg) (ra : Nat) (t : State) => post ra u ∧ sx_at dC dI h L u t) (AL L sz)) 0 0 (AL L sz)
/-- where a walk stands: program, environment, start, method, arguments, frames below, the method's own data, its code, its aim -/
abbrev Zt : Type := Program × Env × State × MethodId × Array Value × List Frame × Method × Code × (State → Prop) × Nat × Nat
def WA (l : Launch) (dC : Nat → ClassId) (dI : Nat → Nat → Nat) (h : Sh) (L : List Nat) (R : Room) (mL : Nat) (Z : Zt) (q : Sg) (pc : Nat) (lvs : List (Nat × Value)) (st : List Value) : Prop :=
  Z.2.2.2.2.2.2.2.2.2.1 ≤ R.cells → Z.2.2.2.2.2.2.2.2.2.2 ≤ R.slots → ∀ (ls : Array Slot) (H : Heap) (locs : List Loc), lv_has ls mL lvs → va_P (dC, dI) vwCl (va_pl L (sg_F h q)) H → va_S (AL L Z.2.2.1.heap.size) Z.2.2.1.heap H locs →
    W Z.1 l Z.2.1 R Z.2.2.1 Z.2.2.2.1 Z.2.2.2.2.1 Z.2.2.2.2.2.1 Z.2.2.2.2.2.2.1 Z.2.2.2.2.2.2.2.1 H locs Z.2.2.2.2.2.2.2.2.2.1 Z.2.2.2.2.2.2.2.2.2.2 Z.2.2.2.2.2.2.2.2.1 (F0 Z.2.2.2.1 pc ls st)
def BX (dC : Nat → ClassId) (dI : Nat → Nat → Nat) (h : Sh) (L : List Nat) (mL : Nat) (cc : ByteArray) (own : String) (Ts : List Cond) (Z : Zt) : Prop :=
  CallFix Z.1 Z.2.2.2.1 Z.2.2.2.2.2.2.2.1 cc mL Z.2.2.1 Z.2.2.2.2.1 Ts own ∧ va_K (dC, dI) vwCl (sx_tys h) Z.2.2.1 ∧ (∀ g, va_D (AL L Z.2.2.1.heap.size) (va_pl L g)) ∧ ZZ (AL L Z.2.2.1.heap.size) Z.2.2.1
section ST
variable {l : Launch} {dC : Nat → ClassId} {dI : Nat → Nat → Nat} {h : Sh} {L : List Nat} {R : Room} {mL : Nat} {cc : ByteArray} {own : String} {ws ws' : List Cond} {q : Sg} {av : List Value} {y : MethodName}
theorem cm_i {post : Int32 → Sg → Prop} (hN : sx_nd L) (hy : plainName y.cls = true) (hw : ws = Cond.code y cc mL (some .int) :: ws') (ho : y.cls = own) (hmL : (lg_sl av).length ≤ mL)
    (body : ∀ Z : Zt, BX dC dI h L mL cc own ws Z → (∀ (r : Int32) (q' : Sg) (pc : Nat) (lvs : List (Nat × Value)), decode cc pc = .ok (.ireturn, 1) → post r q' → WA l dC dI h L R mL Z q' pc lvs [.int r]) → WA l dC dI h L R mL Z q 0 (lv_args 0 av) []) : CMi l dC dI h L y ws R q av post := by
  intro sz
  refine Met.ofW (cc := cc) (maxL := mL) (ret := some .int) hy hw ?_
  intro p e s m args below meth c s₁ B hml hv
  obtain ⟨rfl, hsz, hP, hK, hZ⟩ := hv
  subst hsz
  subst ho
  have hlocks := B.notSynchronized
  rw [lg_entry_eq]
  refine body (p, e, s, m, _, below, meth, c, _, 0, 0) ⟨⟨B.exec, B.bytes, hml, findClass_of_methodNamed B.named, atoms_spec (ws := ws) B.pre⟩, hK, AL_D hN _, hZ⟩ ?_ (Nat.zero_le _) (Nat.zero_le _) _ _ _ (lv_entry av hmL) hP va_S.rf
  intro r q' pc lvs hd hp _ _ ls H locs hl hP hS
  exact W.iret (v := r) B.exec B.bytes B.returns (fun t ht hW => ⟨⟨r, q', rfl, hp, by unfold sx_at; rw [ht]; exact hP⟩, hS.F ht⟩) hS.2.2 hd
theorem cm_z {post : Int32 → Sg → Prop} (hN : sx_nd L) (hy : plainName y.cls = true) (hw : ws = Cond.code y cc mL (some .boolean) :: ws') (ho : y.cls = own) (hmL : (lg_sl av).length ≤ mL)
    (body : ∀ Z : Zt, BX dC dI h L mL cc own ws Z → (∀ (r : Int32) (q' : Sg) (pc : Nat) (lvs : List (Nat × Value)), decode cc pc = .ok (.ireturn, 1) → (r = 0 ∨ r = 1) → post r q' → WA l dC dI h L R mL Z q' pc lvs [.int r]) → WA l dC dI h L R mL Z q 0 (lv_args 0 av) []) : CMi l dC dI h L y ws R q av post := by
  intro sz
  refine Met.ofW (cc := cc) (maxL := mL) (ret := some .boolean) hy hw ?_
  intro p e s m args below meth c s₁ B hml hv
  obtain ⟨rfl, hsz, hP, hK, hZ⟩ := hv
  subst hsz
  subst ho
  have hlocks := B.notSynchronized
  rw [lg_entry_eq]
  refine body (p, e, s, m, _, below, meth, c, _, 0, 0) ⟨⟨B.exec, B.bytes, hml, findClass_of_methodNamed B.named, atoms_spec (ws := ws) B.pre⟩, hK, AL_D hN _, hZ⟩ ?_ (Nat.zero_le _) (Nat.zero_le _) _ _ _ (lv_entry av hmL) hP va_S.rf
  intro r q' pc lvs hd h01 hp _ _ ls H locs hl hP hS
  exact W.zret (v := r) B.exec B.bytes B.returns (by rcases h01 with z | z <;> rw [z] <;> rfl) (fun t ht hW => ⟨⟨r, q', rfl, hp, by unfold sx_at; rw [ht]; exact hP⟩, hS.F ht⟩) hS.2.2 hd
theorem cm_v {post : Sg → Prop} (hN : sx_nd L) (hy : plainName y.cls = true) (hw : ws = Cond.code y cc mL none :: ws') (ho : y.cls = own) (hmL : (lg_sl av).length ≤ mL)
    (body : ∀ Z : Zt, BX dC dI h L mL cc own ws Z → (∀ (q' : Sg) (pc : Nat) (lvs : List (Nat × Value)), decode cc pc = .ok (.return_, 1) → post q' → WA l dC dI h L R mL Z q' pc lvs []) → WA l dC dI h L R mL Z q 0 (lv_args 0 av) []) : CMv l dC dI h L y ws R q av post := by
  intro sz
  refine Met.ofW (cc := cc) (maxL := mL) (ret := none) hy hw ?_
  intro p e s m args below meth c s₁ B hml hv
  obtain ⟨rfl, hsz, hP, hK, hZ⟩ := hv
  subst hsz
  subst ho
  have hlocks := B.notSynchronized
  rw [lg_entry_eq]
  refine body (p, e, s, m, _, below, meth, c, _, 0, 0) ⟨⟨B.exec, B.bytes, hml, findClass_of_methodNamed B.named, atoms_spec (ws := ws) B.pre⟩, hK, AL_D hN _, hZ⟩ ?_ (Nat.zero_le _) (Nat.zero_le _) _ _ _ (lv_entry av hmL) hP va_S.rf
  intro q' pc lvs hd hp _ _ ls H locs hl hP hS
  exact W.vret B.exec B.bytes B.returns (fun t ht hW => ⟨⟨q', rfl, hp, by unfold sx_at; rw [ht]; exact hP⟩, hS.F ht⟩) hS.2.2 hd
theorem cm_r {post : Nat → Sg → Prop} {C : String} (hN : sx_nd L) (hy : plainName y.cls = true) (hw : ws = Cond.code y cc mL (some (.object C)) :: ws') (ho : y.cls = own) (hmL : (lg_sl av).length ≤ mL)
    (body : ∀ Z : Zt, BX dC dI h L mL cc own ws Z → (∀ (r : Nat) (q' : Sg) (pc : Nat) (lvs : List (Nat × Value)), decode cc pc = .ok (.areturn, 1) → post r q' → WA l dC dI h L R mL Z q' pc lvs [.ref r]) → WA l dC dI h L R mL Z q 0 (lv_args 0 av) []) : CMr l dC dI h L y ws R q av post := by
  intro sz
  refine Met.ofW (cc := cc) (maxL := mL) (ret := some (.object C)) hy hw ?_
  intro p e s m args below meth c s₁ B hml hv
  obtain ⟨rfl, hsz, hP, hK, hZ⟩ := hv
  subst hsz
  subst ho
  have hlocks := B.notSynchronized
  rw [lg_entry_eq]
  refine body (p, e, s, m, _, below, meth, c, _, 0, 0) ⟨⟨B.exec, B.bytes, hml, findClass_of_methodNamed B.named, atoms_spec (ws := ws) B.pre⟩, hK, AL_D hN _, hZ⟩ ?_ (Nat.zero_le _) (Nat.zero_le _) _ _ _ (lv_entry av hmL) hP va_S.rf
  intro r q' pc lvs hd hp _ _ ls H locs hl hP hS
  exact W.aret (v := .ref r) B.exec B.bytes B.returns (Or.inl ⟨_, rfl⟩) (Or.inr ⟨r, rfl⟩) (fun t ht hW => ⟨⟨q', r, rfl, trivial, hp, by unfold sx_at; rw [ht]; exact hP⟩, hS.F ht⟩) hS.2.2 hd
end ST
