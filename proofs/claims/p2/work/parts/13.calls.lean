/-! Contracts over the pool, and calls by them: nothing is made, nothing outside the pool changes. -/
def AL (L : List Nat) (sz : Nat) : Nat → Prop := fun a => a ∈ L ∨ sz ≤ a
theorem AL_sub {L : List Nat} {H0 H : Heap} {locs : List Loc} (hS : va_S (AL L H0.size) H0 H locs) : ∀ a, AL L H.size a → AL L H0.size a := fun _ ha => ha.elim Or.inl (fun x => Or.inr (Nat.le_trans hS.1 x))
def sx_nd (L : List Nat) : Prop := ∀ (i j x : Nat), L[i]? = some x → L[j]? = some x → i = j
theorem AL_D {L : List Nat} (hN : sx_nd L) (sz : Nat) (g : Nat → va_E) : va_D (AL L sz) (va_pl L g) := by
  refine ⟨fun i j x y hx hy hxy => ?_, fun k x hx => ?_⟩
  · unfold va_pl at hx hy
    rw [List.getElem?_map] at hx hy
    cases hi : L[i]? with
    | none => rw [hi] at hx; cases hx
    | some u =>
      cases hj : L[j]? with
      | none => rw [hj] at hy; cases hy
      | some v =>
        rw [hi] at hx
        rw [hj] at hy
        cases hx
        cases hy
        have huv : u = v := hxy
        subst huv
        exact hN i j u hi hj
  · unfold va_pl at hx
    rw [List.getElem?_map] at hx
    cases hk : L[k]? with
    | none => rw [hk] at hx; cases hx
    | some u =>
      rw [hk] at hx
      cases hx
      exact Or.inl (List.mem_of_getElem? hk)
def sx_tys (h : Sh) : List (ClassId × FieldType) := [(h.2.2.1 13, .int), (h.2.2.1 200, .long), (h.2.2.1 300, .byte), (h.2.2.1 400, .object RX5), (h.2.2.1 401, .object RX2), (h.2.2.1 402, .object RX1), (h.2.2.1 403, .object RX0), (h.2.2.1 404, .array .long)]
def sx_pre (dC : Nat → ClassId) (dI : Nat → Nat → Nat) (h : Sh) (L : List Nat) (q : Sg) (av : List Value) (sz : Nat) : Array Value → State → Prop := va_Pc av (fun U => U.heap.size = sz ∧ va_P (dC, dI) vwCl (va_pl L (sg_F h q)) U.heap ∧ va_K (dC, dI) vwCl (sx_tys h) U)
def sx_at (dC : Nat → ClassId) (dI : Nat → Nat → Nat) (h : Sh) (L : List Nat) (q : Sg) (t : State) : Prop := va_P (dC, dI) vwCl (va_pl L (sg_F h q)) t.heap
/-- a method that answers an int (or a boolean), one that answers nothing, one that answers a reference -/
def CMi (l : Launch) (dC : Nat → ClassId) (dI : Nat → Nat → Nat) (h : Sh) (L : List Nat) (y : MethodName) (ws : List Cond) (rm : Room) (q : Sg) (av : List Value) (post : Int32 → Sg → Prop) : Prop :=
  ∀ sz : Nat, Met l y ws rm (sx_pre dC dI h L q av sz) (va_Qi post (sx_at dC dI h L) (AL L sz)) 0 0 (AL L sz)
def CMv (l : Launch) (dC : Nat → ClassId) (dI : Nat → Nat → Nat) (h : Sh) (L : List Nat) (y : MethodName) (ws : List Cond) (rm : Room) (q : Sg) (av : List Value) (post : Sg → Prop) : Prop :=
  ∀ sz : Nat, Met l y ws rm (sx_pre dC dI h L q av sz) (va_Qv post (sx_at dC dI h L) (AL L sz)) 0 0 (AL L sz)
section PC
variable {p : Program} {l : Launch} {e : Env} {R : Room} {s : State} {m : MethodId} {args : Array Value} {below : List Frame} {meth : Method} {c : Code} {H : Heap} {locs : List Loc} {cells slots : Nat} {Q : State → Prop}
variable {cc bytes : ByteArray} {pc maxL n nL index : Nat} {ls : Array Slot} {rest st As : List Value} {dC : Nat → ClassId} {dI : Nat → Nat → Nat} {h : Sh} {L : List Nat} {q : Sg} {own C : String} {y : MethodName} {ws Ts : List Cond} {rm : Room} {ret : Option FieldType}
theorem pl_recv (hK : va_K (dC, dI) vwCl (sx_tys h) s) (hP : va_P (dC, dI) vwCl (va_pl L (sg_F h q)) H) {b ci : Nat} (hb : b ∈ L) (hk : h.1 b = ci) (hc : ci < 13) {x : vw_C} (hx : vwCl[ci]? = some x) : ∃ cell : Cell, H[b]? = some cell ∧ cell.vm.isStatics = false ∧ s.vm.findClass x.1 = some cell.cls := by
  obtain ⟨k, hk2⟩ := pl_at (f := sg_F h q) hb (sg_F_o hk hc)
  exact va_recv hK hP hx hk2
theorem pl_callVi {post : Int32 → Sg → Prop} {b ci : Nat} {x : vw_C} (S : CallFix p m c cc nL s args Ts own) (hM : CMi l dC dI h L y ws rm q (.ref b :: As) post) (cw : CallW R s args own x.1 index y bytes maxL ret ws rm 0 0 n) (hK : va_K (dC, dI) vwCl (sx_tys h) s) (hP : va_P (dC, dI) vwCl (va_pl L (sg_F h q)) H) (hS : va_S (AL L s.heap.size) s.heap H locs)
    (hbL : b ∈ L) (hk : h.1 b = ci) (hci : ci < 13) (hx : vwCl[ci]? = some x) (hn : As.length = n) (hsize : ls.size = nL) (hst : st = As.reverse ++ .ref b :: rest) (hW : (rest.map fun v => v.category).sum ≤ 8) (hdg : decode cc pc = .ok (.invokevirtual index, 3)) (hf : cells ≤ R.cells ∧ slots ≤ R.slots)
    (kk : ∀ (r : Int32) (q' : Sg) (H1 : Heap) (locs1 : List Loc), post r q' → va_P (dC, dI) vwCl (va_pl L (sg_F h q')) H1 → va_S (AL L s.heap.size) s.heap H1 locs1 → W p l e R s m args below meth c H1 locs1 cells slots Q (F0 m (pc + 3) ls (.int r :: rest))) : W p l e R s m args below meth c H locs cells slots Q (F0 m pc ls st) := by
  subst hst
  refine va_calli (va_runV (As := As) (rest := rest) S (hM H.size) cw ⟨fun a U g mk z => by obtain ⟨z0, z1, zP, zK⟩ := z; exact ⟨z0, z1, zP, va_K.moved (u := U) (U := U.calling g mk a) (Vm.Alike.refl U.vm) zK⟩, pl_recv hK hP hbL hk hci hx, fun U hU hW9 => ⟨rfl, by rw [hU], by rw [hU]; exact hP, va_K.moved hW9.alike hK⟩⟩ rfl hn hsize rfl (lv_room hW) hdg hf) hS (fun a _ z => AL_sub hS a z) (AL_sub hS) (fun r u t H1 locs1 ht hvm hw hB _ _ hS1 => ?_)
  unfold sx_at at hB
  rw [ht] at hB
  exact kk r u H1 locs1 hw hB hS1
theorem pl_callVv {post : Sg → Prop} {b ci : Nat} {x : vw_C} (S : CallFix p m c cc nL s args Ts own) (hM : CMv l dC dI h L y ws rm q (.ref b :: As) post) (cw : CallW R s args own x.1 index y bytes maxL ret ws rm 0 0 n) (hK : va_K (dC, dI) vwCl (sx_tys h) s) (hP : va_P (dC, dI) vwCl (va_pl L (sg_F h q)) H) (hS : va_S (AL L s.heap.size) s.heap H locs)
    (hbL : b ∈ L) (hk : h.1 b = ci) (hci : ci < 13) (hx : vwCl[ci]? = some x) (hn : As.length = n) (hsize : ls.size = nL) (hst : st = As.reverse ++ .ref b :: rest) (hW : (rest.map fun v => v.category).sum ≤ 8) (hdg : decode cc pc = .ok (.invokevirtual index, 3)) (hf : cells ≤ R.cells ∧ slots ≤ R.slots)
    (kk : ∀ (q' : Sg) (H1 : Heap) (locs1 : List Loc), post q' → va_P (dC, dI) vwCl (va_pl L (sg_F h q')) H1 → va_S (AL L s.heap.size) s.heap H1 locs1 → W p l e R s m args below meth c H1 locs1 cells slots Q (F0 m (pc + 3) ls rest)) : W p l e R s m args below meth c H locs cells slots Q (F0 m pc ls st) := by
  subst hst
  refine va_callv (va_runV (As := As) (rest := rest) S (hM H.size) cw ⟨fun a U g mk z => by obtain ⟨z0, z1, zP, zK⟩ := z; exact ⟨z0, z1, zP, va_K.moved (u := U) (U := U.calling g mk a) (Vm.Alike.refl U.vm) zK⟩, pl_recv hK hP hbL hk hci hx, fun U hU hW9 => ⟨rfl, by rw [hU], by rw [hU]; exact hP, va_K.moved hW9.alike hK⟩⟩ rfl hn hsize rfl (lv_room hW) hdg hf) hS (fun a _ z => AL_sub hS a z) (AL_sub hS) (fun u t H1 locs1 ht hvm hw hB _ _ hS1 => ?_)
  unfold sx_at at hB
  rw [ht] at hB
  exact kk u H1 locs1 hw hB hS1
theorem pl_callSi {post : Int32 → Sg → Prop} (S : CallFix p m c cc nL s args Ts own) (hM : CMi l dC dI h L y ws rm q As post) (cw : CallB R s args own index y bytes maxL ret ws rm 0 0 n ∧ (Cond.static y).before args s = true) (hK : va_K (dC, dI) vwCl (sx_tys h) s) (hP : va_P (dC, dI) vwCl (va_pl L (sg_F h q)) H) (hS : va_S (AL L s.heap.size) s.heap H locs)
    (hn : As.length = n) (hsize : ls.size = nL) (hst : st = As.reverse ++ rest) (hW : (rest.map fun v => v.category).sum ≤ 8) (hdg : decode cc pc = .ok (.invokestatic index, 3)) (hf : cells ≤ R.cells ∧ slots ≤ R.slots)
    (kk : ∀ (r : Int32) (q' : Sg) (H1 : Heap) (locs1 : List Loc), post r q' → va_P (dC, dI) vwCl (va_pl L (sg_F h q')) H1 → va_S (AL L s.heap.size) s.heap H1 locs1 → W p l e R s m args below meth c H1 locs1 cells slots Q (F0 m (pc + 3) ls (.int r :: rest))) : W p l e R s m args below meth c H locs cells slots Q (F0 m pc ls st) := by
  subst hst
  refine va_calli (va_runS (As := As) (rest := rest) S (hM H.size) cw ⟨fun a U g mk z => by obtain ⟨z0, z1, zP, zK⟩ := z; exact ⟨z0, z1, zP, va_K.moved (u := U) (U := U.calling g mk a) (Vm.Alike.refl U.vm) zK⟩, fun U hU hW9 => ⟨rfl, by rw [hU], by rw [hU]; exact hP, va_K.moved hW9.alike hK⟩⟩ rfl hn hsize rfl (lv_room hW) hdg hf) hS (fun a _ z => AL_sub hS a z) (AL_sub hS) (fun r u t H1 locs1 ht hvm hw hB _ _ hS1 => ?_)
  unfold sx_at at hB
  rw [ht] at hB
  exact kk r u H1 locs1 hw hB hS1
theorem pl_callSv {post : Sg → Prop} (S : CallFix p m c cc nL s args Ts own) (hM : CMv l dC dI h L y ws rm q As post) (cw : CallB R s args own index y bytes maxL ret ws rm 0 0 n ∧ (Cond.static y).before args s = true) (hK : va_K (dC, dI) vwCl (sx_tys h) s) (hP : va_P (dC, dI) vwCl (va_pl L (sg_F h q)) H) (hS : va_S (AL L s.heap.size) s.heap H locs)
    (hn : As.length = n) (hsize : ls.size = nL) (hst : st = As.reverse ++ rest) (hW : (rest.map fun v => v.category).sum ≤ 8) (hdg : decode cc pc = .ok (.invokestatic index, 3)) (hf : cells ≤ R.cells ∧ slots ≤ R.slots)
    (kk : ∀ (q' : Sg) (H1 : Heap) (locs1 : List Loc), post q' → va_P (dC, dI) vwCl (va_pl L (sg_F h q')) H1 → va_S (AL L s.heap.size) s.heap H1 locs1 → W p l e R s m args below meth c H1 locs1 cells slots Q (F0 m (pc + 3) ls rest)) : W p l e R s m args below meth c H locs cells slots Q (F0 m pc ls st) := by
  subst hst
  refine va_callv (va_runS (As := As) (rest := rest) S (hM H.size) cw ⟨fun a U g mk z => by obtain ⟨z0, z1, zP, zK⟩ := z; exact ⟨z0, z1, zP, va_K.moved (u := U) (U := U.calling g mk a) (Vm.Alike.refl U.vm) zK⟩, fun U hU hW9 => ⟨rfl, by rw [hU], by rw [hU]; exact hP, va_K.moved hW9.alike hK⟩⟩ rfl hn hsize rfl (lv_room hW) hdg hf) hS (fun a _ z => AL_sub hS a z) (AL_sub hS) (fun u t H1 locs1 ht hvm hw hB _ _ hS1 => ?_)
  unfold sx_at at hB
  rw [ht] at hB
  exact kk u H1 locs1 hw hB hS1
end PC
