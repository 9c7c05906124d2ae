section ZZ
variable {p : Program} {l : Launch} {e : Env} {R : Room} {s : State} {m : MethodId} {args : Array Value} {below : List Frame} {meth : Method} {c : Code} {H : Heap} {locs : List Loc} {cells slots : Nat} {Q : State → Prop} {pc : Nat} {ls : Array Slot} {rest : List Value}
theorem zz_top {x y : Int32} (h : x = y) (k : W p l e R s m args below meth c H locs cells slots Q (F0 m pc ls (.int y :: rest))) : W p l e R s m args below meth c H locs cells slots Q (F0 m pc ls (.int x :: rest)) := by
  subst h
  exact k
end ZZ
theorem va_AOA.moved {ty : FieldType} {u U : State} (hvm : u.vm.Alike U.vm) (h : va_AOA ty u) : va_AOA ty U := by
  unfold va_AOA Cond.before Cond.holds at h
  simp only [Cond.value, beq_iff_eq] at h
  cases hc : u.vm.findClass (FieldType.array ty).toString with
  | none => simp [hc] at h
  | some comp =>
    simp only [hc, Option.bind_some, Option.bind_eq_some_iff, Option.map_eq_some_iff] at h
    obtain ⟨c, hi0, k, hk, hb⟩ := h
    obtain ⟨k', hk', he⟩ := hvm.2.2 _ _ hk
    have hi : (U.vm.classes.findIdx? fun (x : Class) => match x.kind with | .array component _ => component == comp | _ => false) = some c := by
      have e1 := va_idx_bare u.vm comp
      have e2 := va_idx_bare U.vm comp
      first | rw [hvm.bare_eq] at e1 | rw [← hvm.bare_eq] at e1
      exact e2.symm.trans (e1.trans hi0)
    have f1 : U.vm.findClass (FieldType.array ty).toString = some comp := by rw [hvm.findClass]; exact hc
    cases hkind : k.kind with
    | array component ty' =>
      rw [hkind] at hb
      simp at hb
      have hkind' : k'.kind = .array component (.array ty) := by rw [he, hkind, hb.1]
      have f2 : U.vm.findClass ("[" ++ (FieldType.array ty).toString) = some c := by rw [hvm.findClass]; exact hb.2
      unfold va_AOA Cond.before Cond.holds
      simp only [Cond.value]
      rw [f1, Option.bind_some]
      refine (congrArg (fun o : Option Nat => (o.bind (fun c => (U.vm.classes[c]?).map fun (k : Class) => match k.kind with | .array _ t => decide (t = FieldType.array ty) && decide (U.vm.findClass ("[" ++ (FieldType.array ty).toString) = some c) | _ => false) == some true)) hi).trans ?_
      simp [hk', hkind', f2]
    | _ => rw [hkind] at hb; simp at hb
/-- what the tables say of arrays of references, and of private constructors among nest mates -/
def zz_X (U : State) : Prop := va_AO RX2 U ∧ va_AO RX1 U ∧ va_AO RX5 U ∧ va_AO RX0 U ∧ va_AOA .long U ∧ va_Nw (.methodLinkNest RX10 11 yX8_init RX11) U ∧ va_Nw (.methodLinkNest RX11 26 yX10_init RX11) U ∧ va_Nw (.methodLinkNest RX11 33 yX6_init RX11) U ∧ va_Nw (.methodLinkNest RX11 40 yX4_init RX11) U ∧ va_Nw (.methodLinkNest RX11 75 yX9_init RX11) U ∧ va_Nw (.methodLinkNest RX11 83 yX0_init RX11) U ∧ va_Nw (.methodLinkNest RX5 23 yX2_init RX11) U ∧ va_Nw (.methodLinkNest RX5 24 yX1_init RX11) U ∧ va_Nw (.methodLinkNest RX6 11 yX8_init RX11) U
theorem zz_X.ao_X2 {U : State} (h : zz_X U) : va_AO RX2 U := h.1
theorem zz_X.ao_X1 {U : State} (h : zz_X U) : va_AO RX1 U := h.2.1
theorem zz_X.ao_X5 {U : State} (h : zz_X U) : va_AO RX5 U := h.2.2.1
theorem zz_X.ao_X0 {U : State} (h : zz_X U) : va_AO RX0 U := h.2.2.2.1
theorem zz_X.aoa {U : State} (h : zz_X U) : va_AOA .long U := h.2.2.2.2.1
theorem zz_X.n_RX10_11 {U : State} (h : zz_X U) : va_Nw (.methodLinkNest RX10 11 yX8_init RX11) U := h.2.2.2.2.2.1
theorem zz_X.n_RX11_26 {U : State} (h : zz_X U) : va_Nw (.methodLinkNest RX11 26 yX10_init RX11) U := h.2.2.2.2.2.2.1
theorem zz_X.n_RX11_33 {U : State} (h : zz_X U) : va_Nw (.methodLinkNest RX11 33 yX6_init RX11) U := h.2.2.2.2.2.2.2.1
theorem zz_X.n_RX11_40 {U : State} (h : zz_X U) : va_Nw (.methodLinkNest RX11 40 yX4_init RX11) U := h.2.2.2.2.2.2.2.2.1
theorem zz_X.n_RX11_75 {U : State} (h : zz_X U) : va_Nw (.methodLinkNest RX11 75 yX9_init RX11) U := h.2.2.2.2.2.2.2.2.2.1
theorem zz_X.n_RX11_83 {U : State} (h : zz_X U) : va_Nw (.methodLinkNest RX11 83 yX0_init RX11) U := h.2.2.2.2.2.2.2.2.2.2.1
theorem zz_X.n_RX5_23 {U : State} (h : zz_X U) : va_Nw (.methodLinkNest RX5 23 yX2_init RX11) U := h.2.2.2.2.2.2.2.2.2.2.2.1
theorem zz_X.n_RX5_24 {U : State} (h : zz_X U) : va_Nw (.methodLinkNest RX5 24 yX1_init RX11) U := h.2.2.2.2.2.2.2.2.2.2.2.2.1
theorem zz_X.n_RX6_11 {U : State} (h : zz_X U) : va_Nw (.methodLinkNest RX6 11 yX8_init RX11) U := h.2.2.2.2.2.2.2.2.2.2.2.2.2
theorem zz_al {u U : State} (hv : u.vm = U.vm) : u.vm.Alike U.vm := by
  rw [hv]
  exact Vm.Alike.refl U.vm
theorem zz_X.warm {s U : State} (hW : s.WarmedH U.vm) (h : zz_X s) : zz_X U := ⟨va_AO.moved hW.alike h.1, va_AO.moved hW.alike h.2.1, va_AO.moved hW.alike h.2.2.1, va_AO.moved hW.alike h.2.2.2.1, va_AOA.moved hW.alike h.2.2.2.2.1, va_Nw.warmM hW h.2.2.2.2.2.1, va_Nw.warmM hW h.2.2.2.2.2.2.1, va_Nw.warmM hW h.2.2.2.2.2.2.2.1, va_Nw.warmM hW h.2.2.2.2.2.2.2.2.1, va_Nw.warmM hW h.2.2.2.2.2.2.2.2.2.1, va_Nw.warmM hW h.2.2.2.2.2.2.2.2.2.2.1, va_Nw.warmM hW h.2.2.2.2.2.2.2.2.2.2.2.1, va_Nw.warmM hW h.2.2.2.2.2.2.2.2.2.2.2.2.1, va_Nw.warmM hW h.2.2.2.2.2.2.2.2.2.2.2.2.2⟩
theorem zz_X.same {u U : State} (hv : u.vm = U.vm) (h : zz_X u) : zz_X U := ⟨va_AO.moved (zz_al hv) h.1, va_AO.moved (zz_al hv) h.2.1, va_AO.moved (zz_al hv) h.2.2.1, va_AO.moved (zz_al hv) h.2.2.2.1, va_AOA.moved (zz_al hv) h.2.2.2.2.1, va_Nw.same rfl hv h.2.2.2.2.2.1, va_Nw.same rfl hv h.2.2.2.2.2.2.1, va_Nw.same rfl hv h.2.2.2.2.2.2.2.1, va_Nw.same rfl hv h.2.2.2.2.2.2.2.2.1, va_Nw.same rfl hv h.2.2.2.2.2.2.2.2.2.1, va_Nw.same rfl hv h.2.2.2.2.2.2.2.2.2.2.1, va_Nw.same rfl hv h.2.2.2.2.2.2.2.2.2.2.2.1, va_Nw.same rfl hv h.2.2.2.2.2.2.2.2.2.2.2.2.1, va_Nw.same rfl hv h.2.2.2.2.2.2.2.2.2.2.2.2.2⟩
set_option maxRecDepth 100000 in
theorem zz_defX0 (j : Nat) (hj : j < 4) : defaultValue (tyX0 j) = vp_V [.null, .int 0, .int 0, .int 0] j := by rcases (show j = 0 ∨ j = 1 ∨ j = 2 ∨ j = 3 by omega) with rfl | rfl | rfl | rfl <;> rfl
set_option maxRecDepth 100000 in
theorem zz_defX1 (j : Nat) (hj : j < 7) : defaultValue (tyX1 j) = vp_V [.int 0, .int 0, .int 0, .int 0, .int 0, .int 0, .int 0] j := by rcases (show j = 0 ∨ j = 1 ∨ j = 2 ∨ j = 3 ∨ j = 4 ∨ j = 5 ∨ j = 6 by omega) with rfl | rfl | rfl | rfl | rfl | rfl | rfl <;> rfl
set_option maxRecDepth 100000 in
theorem zz_defX2 (j : Nat) (hj : j < 6) : defaultValue (tyX2 j) = vp_V [.int 0, .int 0, .int 0, .int 0, .int 0, .int 0] j := by rcases (show j = 0 ∨ j = 1 ∨ j = 2 ∨ j = 3 ∨ j = 4 ∨ j = 5 by omega) with rfl | rfl | rfl | rfl | rfl | rfl <;> rfl
set_option maxRecDepth 100000 in
theorem zz_defX3 (j : Nat) (hj : j < 5) : defaultValue (tyX3 j) = vp_V [.null, .int 0, .int 0, .null, .null] j := by rcases (show j = 0 ∨ j = 1 ∨ j = 2 ∨ j = 3 ∨ j = 4 by omega) with rfl | rfl | rfl | rfl | rfl <;> rfl
set_option maxRecDepth 100000 in
theorem zz_defX4 (j : Nat) (hj : j < 7) : defaultValue (tyX4 j) = vp_V [.int 0, .null, .null, .null, .null, .null, .int 0] j := by rcases (show j = 0 ∨ j = 1 ∨ j = 2 ∨ j = 3 ∨ j = 4 ∨ j = 5 ∨ j = 6 by omega) with rfl | rfl | rfl | rfl | rfl | rfl | rfl <;> rfl
set_option maxRecDepth 100000 in
theorem zz_defX5 (j : Nat) (hj : j < 7) : defaultValue (tyX5 j) = vp_V [.null, .null, .int 0, .int 0, .int 0, .int 0, .int 0] j := by rcases (show j = 0 ∨ j = 1 ∨ j = 2 ∨ j = 3 ∨ j = 4 ∨ j = 5 ∨ j = 6 by omega) with rfl | rfl | rfl | rfl | rfl | rfl | rfl <;> rfl
set_option maxRecDepth 100000 in
theorem zz_defX6 (j : Nat) (hj : j < 8) : defaultValue (tyX6 j) = vp_V [.null, .int 0, .int 0, .int 0, .int 0, .int 0, .int 0, .int 0] j := by rcases (show j = 0 ∨ j = 1 ∨ j = 2 ∨ j = 3 ∨ j = 4 ∨ j = 5 ∨ j = 6 ∨ j = 7 by omega) with rfl | rfl | rfl | rfl | rfl | rfl | rfl | rfl <;> rfl
set_option maxRecDepth 100000 in
theorem zz_defX7 (j : Nat) (hj : j < 2) : defaultValue (tyX7 j) = vp_V [.null, .int 0] j := by rcases (show j = 0 ∨ j = 1 by omega) with rfl | rfl <;> rfl
set_option maxRecDepth 100000 in
theorem zz_defX8 (j : Nat) (hj : j < 11) : defaultValue (tyX8 j) = vp_V [.int 0, .int 0, .long 0, .int 0, .int 0, .int 0, .int 0, .null, .int 0, .int 0, .int 0] j := by rcases (show j = 0 ∨ j = 1 ∨ j = 2 ∨ j = 3 ∨ j = 4 ∨ j = 5 ∨ j = 6 ∨ j = 7 ∨ j = 8 ∨ j = 9 ∨ j = 10 by omega) with rfl | rfl | rfl | rfl | rfl | rfl | rfl | rfl | rfl | rfl | rfl <;> rfl
set_option maxRecDepth 100000 in
theorem zz_defX9 (j : Nat) (hj : j < 7) : defaultValue (tyX9 j) = vp_V [.null, .null, .null, .null, .null, .null, .int 0] j := by rcases (show j = 0 ∨ j = 1 ∨ j = 2 ∨ j = 3 ∨ j = 4 ∨ j = 5 ∨ j = 6 by omega) with rfl | rfl | rfl | rfl | rfl | rfl | rfl <;> rfl
set_option maxRecDepth 100000 in
theorem zz_defX10 (j : Nat) (hj : j < 3) : defaultValue (tyX10 j) = vp_V [.null, .int 0, .int 0] j := by rcases (show j = 0 ∨ j = 1 ∨ j = 2 by omega) with rfl | rfl | rfl <;> rfl
set_option maxRecDepth 100000 in
theorem zz_defX11 (j : Nat) (hj : j < 16) : defaultValue (tyX11 j) = vp_V [.null, .null, .null, .null, .null, .null, .null, .null, .null, .null, .null, .null, .null, .int 0, .int 0, .int 0] j := by rcases (show j = 0 ∨ j = 1 ∨ j = 2 ∨ j = 3 ∨ j = 4 ∨ j = 5 ∨ j = 6 ∨ j = 7 ∨ j = 8 ∨ j = 9 ∨ j = 10 ∨ j = 11 ∨ j = 12 ∨ j = 13 ∨ j = 14 ∨ j = 15 by omega) with rfl | rfl | rfl | rfl | rfl | rfl | rfl | rfl | rfl | rfl | rfl | rfl | rfl | rfl | rfl | rfl <;> rfl
set_option maxRecDepth 100000 in
theorem zz_defX12 (j : Nat) (hj : j < 51) : defaultValue (tyX12 j) = vp_V [.int 0, .null, .int 0, .null, .int 0, .int 0, .int 0, .int 0, .int 0, .int 0, .int 0, .long 0, .int 0, .int 0, .int 0, .int 0, .null, .null, .null, .null, .int 0, .null, .int 0, .null, .null, .null, .null, .null, .null, .null, .null, .int 0, .int 0, .int 0, .null, .null, .int 0, .int 0, .long 0, .long 0, .null, .null, .null, .null, .null, .int 0, .null, .null, .null, .int 0, .int 0] j := by rcases (show j = 0 ∨ j = 1 ∨ j = 2 ∨ j = 3 ∨ j = 4 ∨ j = 5 ∨ j = 6 ∨ j = 7 ∨ j = 8 ∨ j = 9 ∨ j = 10 ∨ j = 11 ∨ j = 12 ∨ j = 13 ∨ j = 14 ∨ j = 15 ∨ j = 16 ∨ j = 17 ∨ j = 18 ∨ j = 19 ∨ j = 20 ∨ j = 21 ∨ j = 22 ∨ j = 23 ∨ j = 24 ∨ j = 25 ∨ j = 26 ∨ j = 27 ∨ j = 28 ∨ j = 29 ∨ j = 30 ∨ j = 31 ∨ j = 32 ∨ j = 33 ∨ j = 34 ∨ j = 35 ∨ j = 36 ∨ j = 37 ∨ j = 38 ∨ j = 39 ∨ j = 40 ∨ j = 41 ∨ j = 42 ∨ j = 43 ∨ j = 44 ∨ j = 45 ∨ j = 46 ∨ j = 47 ∨ j = 48 ∨ j = 49 ∨ j = 50 by omega) with rfl | rfl | rfl | rfl | rfl | rfl | rfl | rfl | rfl | rfl | rfl | rfl | rfl | rfl | rfl | rfl | rfl | rfl | rfl | rfl | rfl | rfl | rfl | rfl | rfl | rfl | rfl | rfl | rfl | rfl | rfl | rfl | rfl | rfl | rfl | rfl | rfl | rfl | rfl | rfl | rfl | rfl | rfl | rfl | rfl | rfl | rfl | rfl | rfl | rfl | rfl <;> rfl
def zz_edge (e : Int32) : Int32 := if e < 0 then 0 else if 99999999 < e then 0 else 1
def zz_end (n : Int32) : Int32 := if n < 0 then 0 else if n ≤ 0 then 1 else 0
def zz_frag (a b : Int32) : Int32 := if zz_edge a = 0 then (-1) else if zz_edge b = 0 then (-1) else 0
def zz_cnt (w : Int32) : Int32 := if w.toInt < 0 then (-1) else if 5 < w.toInt then (-1) else 0
set_option maxHeartbeats 4000000 in
/-- the loop of Arrays.fill: from place i on, whatever stands behind it -/
theorem zz_fill_i {p : Program} {l : Launch} {e : Env} {R : Room} {s : State} {m : MethodId} {args : Array Value} {below : List Frame} {meth : Method} {c : Code} {cells slots : Nat} {Q : State → Prop} {A : Nat → Prop} {H0 : Heap} {dC : Nat → ClassId} {dI : Nat → Nat → Nat} {ar : Nat} {ka : ClassId} {nn : Nat} {va : Int32} (hx : p.tables.exec = Jvm.exec) (hb : c.code = cJ7_fill_53178) (hnn : nn < 2147483648) (hK : va_K (dC, dI) vwCl [(ka, .int)] s)
    (k : ∀ (f : Nat → Int32) (H : Heap) (locs : List Loc) (ls : Array Slot), va_P (dC, dI) vwCl [(ar, .inl (ka, nn, .inl f))] H → va_D A [(ar, .inl (ka, nn, .inl f))] → va_S A H0 H locs → W p l e R s m args below meth c H locs cells slots Q (F0 m 20 ls [])) :
    ∀ (d i : Nat) (f : Nat → Int32) (H : Heap) (locs : List Loc) (ls : Array Slot), i ≤ nn → nn ≤ i + d → lv_has ls 4 [(2, .int (nI i)), (3, .int (nI nn)), (0, .ref ar), (1, .int va)] → va_P (dC, dI) vwCl [(ar, .inl (ka, nn, .inl f))] H → va_D A [(ar, .inl (ka, nn, .inl f))] → va_S A H0 H locs → W p l e R s m args below meth c H locs cells slots Q (F0 m 5 ls []) := by
  intro d
  induction d with
  | zero =>
    intro i f H locs ls hin hi hl hP hD hS
    refine lv_iload_n hx hb dJ7_fill_53178_5 rfl (lv_at hl 0 rfl) ?_
    refine lv_iload_n hx hb dJ7_fill_53178_6 rfl (lv_at hl 1 rfl) ?_
    refine lv_icmp_ge (tgt := 20) hx hb dJ7_fill_53178_7 (by decide) (fun c9 => ?_) (fun c9 => ?_)
    · exact k f H locs ls hP hD hS
    · exact absurd (nI_le (by omega) (by omega)) c9
  | succ d ih =>
    intro i f H locs ls hin hi hl hP hD hS
    refine lv_iload_n hx hb dJ7_fill_53178_5 rfl (lv_at hl 0 rfl) ?_
    refine lv_iload_n hx hb dJ7_fill_53178_6 rfl (lv_at hl 1 rfl) ?_
    refine lv_icmp_ge (tgt := 20) hx hb dJ7_fill_53178_7 (by decide) (fun c9 => ?_) (fun c9 => ?_)
    · exact k f H locs ls hP hD hS
    · have hlt : i < nn := by
        rcases Nat.lt_or_ge i nn with q | q
        · exact q
        · exact absurd (nI_le q (by omega)) c9
      refine lv_aload_n hx hb dJ7_fill_53178_10 rfl (lv_at hl 2 rfl) ?_
      refine lv_iload_n hx hb dJ7_fill_53178_11 rfl (lv_at hl 0 rfl) ?_
      refine lv_iload_n hx hb dJ7_fill_53178_12 rfl (lv_at hl 3 rfl) ?_
      refine va_iast hx hb hK hP hD hS 0 0 rfl rfl (vp_in_nI hlt hnn) dJ7_fill_53178_13 (fun H locs hP hD hS => ?_)
      refine lv_iinc (v := nI (i + 1)) (lv' := [(2, .int (nI (i + 1))), (3, .int (nI nn)), (0, .ref ar), (1, .int va)]) hx hb dJ7_fill_53178_14 hl (k := 0) rfl (show nI i + Int32.ofInt 1 = nI (i + 1) from nI_1 i) (by decide) rfl (fun ls hl => ?_)
      refine lv_goto (tgt := 5) hx hb dJ7_fill_53178_17 (by decide) ?_
      exact ih (i + 1) _ H locs ls (by omega) (by omega) hl hP hD hS
set_option maxHeartbeats 4000000 in
/-- the loop of Arrays.fill: from place i on, whatever stands behind it -/
theorem zz_fill_l {p : Program} {l : Launch} {e : Env} {R : Room} {s : State} {m : MethodId} {args : Array Value} {below : List Frame} {meth : Method} {c : Code} {cells slots : Nat} {Q : State → Prop} {A : Nat → Prop} {H0 : Heap} {dC : Nat → ClassId} {dI : Nat → Nat → Nat} {ar : Nat} {ka : ClassId} {nn : Nat} {va : Int64} (hx : p.tables.exec = Jvm.exec) (hb : c.code = cJ7_fill_d0a16) (hnn : nn < 2147483648) (hK : va_K (dC, dI) vwCl [(ka, .long)] s)
    (k : ∀ (f : Nat → Int64) (H : Heap) (locs : List Loc) (ls : Array Slot), va_P (dC, dI) vwCl [(ar, .inl (ka, nn, .inr (.inl f)))] H → va_D A [(ar, .inl (ka, nn, .inr (.inl f)))] → va_S A H0 H locs → W p l e R s m args below meth c H locs cells slots Q (F0 m 22 ls [])) :
    ∀ (d i : Nat) (f : Nat → Int64) (H : Heap) (locs : List Loc) (ls : Array Slot), i ≤ nn → nn ≤ i + d → lv_has ls 5 [(3, .int (nI i)), (4, .int (nI nn)), (0, .ref ar), (1, .long va)] → va_P (dC, dI) vwCl [(ar, .inl (ka, nn, .inr (.inl f)))] H → va_D A [(ar, .inl (ka, nn, .inr (.inl f)))] → va_S A H0 H locs → W p l e R s m args below meth c H locs cells slots Q (F0 m 6 ls []) := by
  intro d
  induction d with
  | zero =>
    intro i f H locs ls hin hi hl hP hD hS
    refine lv_iload_n hx hb dJ7_fill_d0a16_6 rfl (lv_at hl 0 rfl) ?_
    refine lv_iload hx hb dJ7_fill_d0a16_7 (lv_at hl 1 rfl) ?_
    refine lv_icmp_ge (tgt := 22) hx hb dJ7_fill_d0a16_9 (by decide) (fun c9 => ?_) (fun c9 => ?_)
    · exact k f H locs ls hP hD hS
    · exact absurd (nI_le (by omega) (by omega)) c9
  | succ d ih =>
    intro i f H locs ls hin hi hl hP hD hS
    refine lv_iload_n hx hb dJ7_fill_d0a16_6 rfl (lv_at hl 0 rfl) ?_
    refine lv_iload hx hb dJ7_fill_d0a16_7 (lv_at hl 1 rfl) ?_
    refine lv_icmp_ge (tgt := 22) hx hb dJ7_fill_d0a16_9 (by decide) (fun c9 => ?_) (fun c9 => ?_)
    · exact k f H locs ls hP hD hS
    · have hlt : i < nn := by
        rcases Nat.lt_or_ge i nn with q | q
        · exact q
        · exact absurd (nI_le q (by omega)) c9
      refine lv_aload_n hx hb dJ7_fill_d0a16_12 rfl (lv_at hl 2 rfl) ?_
      refine lv_iload_n hx hb dJ7_fill_d0a16_13 rfl (lv_at hl 0 rfl) ?_
      refine lv_lload_n hx hb dJ7_fill_d0a16_14 rfl (lv_at hl 3 rfl) ?_
      refine va_last hx hb hK hP hD hS 0 0 rfl rfl (vp_in_nI hlt hnn) dJ7_fill_d0a16_15 (fun H locs hP hD hS => ?_)
      refine lv_iinc (v := nI (i + 1)) (lv' := [(3, .int (nI (i + 1))), (4, .int (nI nn)), (0, .ref ar), (1, .long va)]) hx hb dJ7_fill_d0a16_16 hl (k := 0) rfl (show nI i + Int32.ofInt 1 = nI (i + 1) from nI_1 i) (by decide) rfl (fun ls hl => ?_)
      refine lv_goto (tgt := 6) hx hb dJ7_fill_d0a16_19 (by decide) ?_
      exact ih (i + 1) _ H locs ls (by omega) (by omega) hl hP hD hS
set_option maxHeartbeats 4000000 in
set_option maxRecDepth 100000 in
theorem c_fill_i (l : Launch) (dC : Nat → ClassId) (dI : Nat → Nat → Nat) (ar : Nat) (ka : ClassId) (nn : Nat) (fa : Nat → Int32) (va : Int32) (sz : Nat) (hnn : nn < 2147483648) : Met l yJ7_fill_53178 wsJ7_fill_53178 ({ frames := 0, cells := 0, slots := 0, locals := 0 } : Room) (va_Pc [.ref ar, .int va] (fun U => U.heap.size = sz ∧ zz_X U ∧ va_P (dC, dI) vwCl [(ar, .inl (ka, nn, .inl fa))] U.heap ∧ va_K (dC, dI) vwCl [(ka, .int)] U ∧ va_D (fun _ => True) [(ar, .inl (ka, nn, .inl fa))])) (va_Qv (fun (_ : Unit) => True) (fun (_ : Unit) (t : State) => ∃ (fb : Nat → Int32), va_P (dC, dI) vwCl [(ar, .inl (ka, nn, .inl fb))] t.heap ∧ va_K (dC, dI) vwCl [(ka, .int)] t ∧ va_D (va_A [(ar, .inl (ka, nn, .inl fa))] sz) [(ar, .inl (ka, nn, .inl fb))]) (va_A [(ar, .inl (ka, nn, .inl fa))] sz)) 0 0 (va_A [(ar, .inl (ka, nn, .inl fa))] sz) := by
  refine Met.ofW (cc := cJ7_fill_53178) (maxL := 4) (ret := none) (by decide) rfl ?_
  intro p e s m args below meth c s₁ B hml hv
  obtain ⟨rfl, hsz, hzX, hP, hK, hD0⟩ := hv
  have hx := B.exec
  have hb := B.bytes
  have hr := B.returns
  have hts := atoms_spec (ws := wsJ7_fill_53178) B.pre
  have hown : s.vm.findClass RJ7 = some m.cls := findClass_of_methodNamed B.named
  have hlocks := B.notSynchronized
  subst hsz
  have hD := hD0.self (sz := s.heap.size)
  generalize hAe : va_A [(ar, .inl (ka, nn, .inl fa))] s.heap.size = A at  hD ⊢
  have hA : ∀ q : Nat, s.heap.size ≤ q → A q := fun q h => by rw [← hAe]; exact Or.inr h
  have hS : va_S A s.heap s.heap [] := va_S.rf
  have hP : va_P (dC, dI) vwCl [(ar, .inl (ka, nn, .inl fa))] s.heap := hP
  have hl := lv_entry ([.ref ar, .int va]) (n := 4) (Nat.le_of_ble_eq_true rfl)
  rw [lg_entry_eq]
  generalize (lg_sl ([.ref ar, .int va]) ++ List.replicate (4 - (lg_sl ([.ref ar, .int va])).length) Slot.unset).toArray = ls at hl ⊢
  have hl : lv_has ls 4 [(0, .ref ar), (1, .int va)] := hl
  skip
  refine lv_iconst (v := 0) hx hb dJ7_fill_53178_0 (by decide) ?_
  refine lv_istore_n (lv' := [(2, .int 0), (0, .ref ar), (1, .int va)]) hx hb dJ7_fill_53178_1 rfl hl (by decide) rfl (fun ls hl => ?_)
  refine lv_aload_n hx hb dJ7_fill_53178_2 rfl (lv_at hl 1 rfl) ?_
  refine va_alen (v := nI nn) hx hb hK hP 0 0 rfl rfl rfl dJ7_fill_53178_3 ?_
  refine lv_istore_n (lv' := [(3, .int (nI nn)), (2, .int 0), (0, .ref ar), (1, .int va)]) hx hb dJ7_fill_53178_4 rfl hl (by decide) rfl (fun ls hl => ?_)
  refine zz_fill_i hx hb hnn hK (fun f9 H locs ls hP hD hS => ?_) nn 0 _ _ _ ls (Nat.zero_le _) (by omega) (lv_sub hl [1, 0, 2, 3] rfl) hP hD hS
  refine W.widen (k := 0) (n := 0) (Nat.le_of_ble_eq_true rfl) (Nat.le_of_ble_eq_true rfl) ?_
  exact W.vret hx hb hr (fun t ht hW => ⟨⟨(), rfl, trivial, f9, by rw [ht]; exact hP, va_K.moved hW.alike hK, hD⟩, hS.F ht⟩) hS.2.2 dJ7_fill_53178_20
set_option maxHeartbeats 4000000 in
set_option maxRecDepth 100000 in
theorem c_fill_l (l : Launch) (dC : Nat → ClassId) (dI : Nat → Nat → Nat) (ar : Nat) (ka : ClassId) (nn : Nat) (fa : Nat → Int64) (va : Int64) (sz : Nat) (hnn : nn < 2147483648) : Met l yJ7_fill_d0a16 wsJ7_fill_d0a16 ({ frames := 0, cells := 0, slots := 0, locals := 0 } : Room) (va_Pc [.ref ar, .long va] (fun U => U.heap.size = sz ∧ zz_X U ∧ va_P (dC, dI) vwCl [(ar, .inl (ka, nn, .inr (.inl fa)))] U.heap ∧ va_K (dC, dI) vwCl [(ka, .long)] U ∧ va_D (fun _ => True) [(ar, .inl (ka, nn, .inr (.inl fa)))])) (va_Qv (fun (_ : Unit) => True) (fun (_ : Unit) (t : State) => ∃ (fb : Nat → Int64), va_P (dC, dI) vwCl [(ar, .inl (ka, nn, .inr (.inl fb)))] t.heap ∧ va_K (dC, dI) vwCl [(ka, .long)] t ∧ va_D (va_A [(ar, .inl (ka, nn, .inr (.inl fa)))] sz) [(ar, .inl (ka, nn, .inr (.inl fb)))]) (va_A [(ar, .inl (ka, nn, .inr (.inl fa)))] sz)) 0 0 (va_A [(ar, .inl (ka, nn, .inr (.inl fa)))] sz) := by
  refine Met.ofW (cc := cJ7_fill_d0a16) (maxL := 5) (ret := none) (by decide) rfl ?_
  intro p e s m args below meth c s₁ B hml hv
  obtain ⟨rfl, hsz, hzX, hP, hK, hD0⟩ := hv
  have hx := B.exec
  have hb := B.bytes
  have hr := B.returns
  have hts := atoms_spec (ws := wsJ7_fill_d0a16) B.pre
  have hown : s.vm.findClass RJ7 = some m.cls := findClass_of_methodNamed B.named
  have hlocks := B.notSynchronized
  subst hsz
  have hD := hD0.self (sz := s.heap.size)
  generalize hAe : va_A [(ar, .inl (ka, nn, .inr (.inl fa)))] s.heap.size = A at  hD ⊢
  have hA : ∀ q : Nat, s.heap.size ≤ q → A q := fun q h => by rw [← hAe]; exact Or.inr h
  have hS : va_S A s.heap s.heap [] := va_S.rf
  have hP : va_P (dC, dI) vwCl [(ar, .inl (ka, nn, .inr (.inl fa)))] s.heap := hP
  have hl := lv_entry ([.ref ar, .long va]) (n := 5) (Nat.le_of_ble_eq_true rfl)
  rw [lg_entry_eq]
  generalize (lg_sl ([.ref ar, .long va]) ++ List.replicate (5 - (lg_sl ([.ref ar, .long va])).length) Slot.unset).toArray = ls at hl ⊢
  have hl : lv_has ls 5 [(0, .ref ar), (1, .long va)] := hl
  skip
  refine lv_iconst (v := 0) hx hb dJ7_fill_d0a16_0 (by decide) ?_
  refine lv_istore_n (lv' := [(3, .int 0), (0, .ref ar), (1, .long va)]) hx hb dJ7_fill_d0a16_1 rfl hl (by decide) rfl (fun ls hl => ?_)
  refine lv_aload_n hx hb dJ7_fill_d0a16_2 rfl (lv_at hl 1 rfl) ?_
  refine va_alen (v := nI nn) hx hb hK hP 0 0 rfl rfl rfl dJ7_fill_d0a16_3 ?_
  refine lv_istore (lv' := [(4, .int (nI nn)), (3, .int 0), (0, .ref ar), (1, .long va)]) hx hb dJ7_fill_d0a16_4 hl (by decide) rfl (fun ls hl => ?_)
  refine zz_fill_l hx hb hnn hK (fun f9 H locs ls hP hD hS => ?_) nn 0 _ _ _ ls (Nat.zero_le _) (by omega) (lv_sub hl [1, 0, 2, 3] rfl) hP hD hS
  refine W.widen (k := 0) (n := 0) (Nat.le_of_ble_eq_true rfl) (Nat.le_of_ble_eq_true rfl) ?_
  exact W.vret hx hb hr (fun t ht hW => ⟨⟨(), rfl, trivial, f9, by rw [ht]; exact hP, va_K.moved hW.alike hK, hD⟩, hS.F ht⟩) hS.2.2 dJ7_fill_d0a16_22
