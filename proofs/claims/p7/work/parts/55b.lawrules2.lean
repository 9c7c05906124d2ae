/-- the law's own helpers, with their answer -/
def CMz (l : Launch) (dC : Nat → ClassId) (dI : Nat → Nat → Nat) (h : Sh) (L : List Nat) (y : MethodName) (ws : List Cond) (rm : Room) (q : Sg) (av : List Value) (post : Int32 → Sg → Prop) : Prop :=
  ∀ sz : Nat, vx_Met l y ws rm (sx_pre dC dI h L q av sz) (va_Qi post (sx_at dC dI h L) (AL L sz)) (vx_X (fun (_ : Unit) => False) (fun (_ : String) (_ : Unit) (_ : State) => True) (AL L sz)) 1 6 (AL L sz)
section LR
variable {l : Launch} {dC : Nat → ClassId} {dI : Nat → Nat → Nat} {h : Sh} {L : List Nat} {R : Room} {mL : Nat} {cc : ByteArray} {own : String} {Ts : List Cond} {Z : Zt} {q : Sg} {pc : Nat} {lvs : List (Nat × Value)} {rest : List Value}
theorem wa_callZ (B : BX dC dI h L mL cc own Ts Z) {n index maxL : Nat} {y : MethodName} {bytes : ByteArray} {ret : Option FieldType} {hh : List (Nat × Nat × Nat × Nat)} {ws : List Cond} {rm : Room} {As st : List Value} {post : Int32 → Sg → Prop} (hM : CMz l dC dI h L y ws rm q As post) (cw : vx_CSW R Z.2.2.1 Z.2.2.2.2.1 own index y bytes maxL ret hh ws rm 1 6 n) (hn : As.length = n) (hst : st = As.reverse ++ rest) (hW : (rest.map fun v => v.category).sum ≤ 8) (hd : decode cc pc = .ok (.invokestatic index, 3)) (hmore : (zl_more Z).2.2.2.2.2.2.2.2.2.1 ≤ R.cells ∧ (zl_more Z).2.2.2.2.2.2.2.2.2.2 ≤ R.slots) (kk : ∀ (r : Int32) (q2 : Sg), post r q2 → WA l dC dI h L R mL (zl_more Z) q2 (pc + 3) lvs (.int r :: rest)) : WA l dC dI h L R mL Z q pc lvs st := by
  intro hc0 hs0 ls H locs hl hP hS
  subst hst
  refine vx_calli (vx_runSX (As := As) (rest := rest) B.1 (hM H.size) cw ⟨fun a U g mk z => by obtain ⟨z0, z1, zP, zK, zZ⟩ := z; exact ⟨z0, z1, zP, va_K.moved (u := U) (U := U.calling g mk a) (Vm.Alike.refl U.vm) zK, zZ.calling⟩, fun U hU hW9 => ⟨rfl, by rw [hU], by rw [hU]; exact hP, va_K.moved hW9.alike B.2.1, B.2.2.2.enter hU hW9 hS (AL_sub hS)⟩⟩ rfl hn hl.1 rfl (lv_room hW) hd hmore) hS (fun a _ z => AL_sub hS a z) (AL_sub hS) (fun a _ z => AL_sub hS a z) (fun E ce q9 u t H1 locs ht hvm hw hB hz1 hk1 hS hc1 hc2 hc3 => hw.elim) (fun r9 u t H1 locs ht hvm hw hB hz1 hk1 hS1 => ?_)
  unfold sx_at at hB
  rw [ht] at hB
  exact kk r9 u hw hmore.1 hmore.2 ls H1 locs hl hB hS1
end LR
