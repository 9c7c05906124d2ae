section LR
variable {l : Launch} {dC : Nat → ClassId} {dI : Nat → Nat → Nat} {h : Sh} {L : List Nat} {R : Room} {mL : Nat} {cc : ByteArray} {own : String} {Ts : List Cond} {Z : Zt} {q : Sg} {pc : Nat} {lvs : List (Nat × Value)} {rest : List Value}
theorem wa_sld (B : BX dC dI h L mL cc own Ts Z) {b N : Nat} {xs : Nat → Int32} (hX : va_X b N xs Z.2.2.1 Z.2.2.1.heap) (hbl : b < Z.2.2.1.heap.size) (hbA : ¬ AL L Z.2.2.1.heap.size b) {i : Int32} (i1 : 0 ≤ i.toInt) (i2 : i.toInt < (N : Int)) (hd : decode cc pc = .ok (.iaload, 1)) (kk : WA l dC dI h L R mL Z q (pc + 1) lvs (.int (xs i.toNatClampNeg) :: rest)) : WA l dC dI h L R mL Z q pc lvs (.int i :: .ref b :: rest) := by
  intro hc0 hs0 ls H locs hl hP hS
  exact va_sld B.1.1 B.1.2.1 hX hbl hbA hS (vp_in_iff.mpr ⟨by omega, by omega⟩) hd (kk hc0 hs0 ls H locs hl hP hS)
theorem wa_slen (B : BX dC dI h L mL cc own Ts Z) {b N : Nat} {xs : Nat → Int32} (hX : va_X b N xs Z.2.2.1 Z.2.2.1.heap) (hbl : b < Z.2.2.1.heap.size) (hbA : ¬ AL L Z.2.2.1.heap.size b) (hd : decode cc pc = .ok (.arraylength, 1)) (kk : WA l dC dI h L R mL Z q (pc + 1) lvs (.int (Int32.ofNat N) :: rest)) : WA l dC dI h L R mL Z q pc lvs (.ref b :: rest) := by
  intro hc0 hs0 ls H locs hl hP hS
  exact va_slen B.1.1 B.1.2.1 hX hbl hbA hS hd (kk hc0 hs0 ls H locs hl hP hS)
/-- a step of the walk with a cell and six slots more -/
def zl_more (Z : Zt) : Zt := (Z.1, Z.2.1, Z.2.2.1, Z.2.2.2.1, Z.2.2.2.2.1, Z.2.2.2.2.2.1, Z.2.2.2.2.2.2.1, Z.2.2.2.2.2.2.2.1, Z.2.2.2.2.2.2.2.2.1, Z.2.2.2.2.2.2.2.2.2.1 + 1, Z.2.2.2.2.2.2.2.2.2.2 + 6)
theorem zl_moreB (B : BX dC dI h L mL cc own Ts Z) : BX dC dI h L mL cc own Ts (zl_more Z) := B
theorem wa_callW (B : BX dC dI h L mL cc own Ts Z) {n index maxL : Nat} {y : MethodName} {bytes : ByteArray} {ret : Option FieldType} {hh : List (Nat × Nat × Nat × Nat)} {ws : List Cond} {rm : Room} {As st : List Value} {post : Sg → Prop} (hM : CMw l dC dI h L y ws rm q As post) (cw : vx_CSW R Z.2.2.1 Z.2.2.2.2.1 own index y bytes maxL ret hh ws rm 1 6 n) (hn : As.length = n) (hst : st = As.reverse ++ rest) (hW : (rest.map fun v => v.category).sum ≤ 8) (hd : decode cc pc = .ok (.invokestatic index, 3)) (hmore : (zl_more Z).2.2.2.2.2.2.2.2.2.1 ≤ R.cells ∧ (zl_more Z).2.2.2.2.2.2.2.2.2.2 ≤ R.slots) (kk : ∀ (r : Int32) (q2 : Sg), post q2 → WA l dC dI h L R mL (zl_more Z) q2 (pc + 3) lvs (.int r :: rest)) : WA l dC dI h L R mL Z q pc lvs st := by
  intro hc0 hs0 ls H locs hl hP hS
  subst hst
  refine vx_calli (vx_runSX (As := As) (rest := rest) B.1 (hM H.size) cw ⟨fun a U g mk z => by obtain ⟨z0, z1, zP, zK, zZ⟩ := z; exact ⟨z0, z1, zP, va_K.moved (u := U) (U := U.calling g mk a) (Vm.Alike.refl U.vm) zK, zZ.calling⟩, fun U hU hW9 => ⟨rfl, by rw [hU], by rw [hU]; exact hP, va_K.moved hW9.alike B.2.1, B.2.2.2.enter hU hW9 hS (AL_sub hS)⟩⟩ rfl hn hl.1 rfl (lv_room hW) hd hmore) hS (fun a _ z => AL_sub hS a z) (AL_sub hS) (fun a _ z => AL_sub hS a z) (fun E ce q9 u t H1 locs ht hvm hw hB hz1 hk1 hS hc1 hc2 hc3 => hw.elim) (fun r9 u t H1 locs ht hvm hw hB hz1 hk1 hS1 => ?_)
  unfold sx_at at hB
  rw [ht] at hB
  exact kk r9 u hw hmore.1 hmore.2 ls H1 locs hl hB hS1
end LR
/-- what holds between two calls of the law: x0 the object, a0 the reference, t0 the tape -/
def lc_I (h : Sh) (L : List Nat) (x0 a0 t0 : Nat) (mm : Nat → Nat) (q : Sg) : Prop := sx_V h L q ∧ mv_N a0 q ∧ mv_F (mm 18) (mm 19) q ∧ mv_U (mm 17) q ∧ mv_S (mm 23) (mm 26) (mm 28) (mm 29) q ∧ mv_L (mm 40) (mm 41) (mm 44) a0 q ∧ q.2.2.1 x0 0 = t0 ∧ (∀ k, sx_tk 12 k ≠ 0 → q.2.2.1 a0 k = mm k) ∧ (q.1 t0 1).toInt = (q.1 a0 2).toInt ∧ (q.1 x0 14).toInt = (q.1 a0 45).toInt
