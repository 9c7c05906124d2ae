/-! A row an instruction, over WA: no heap and no locals' array in sight. -/
section PA
variable {p : Program} {l : Launch} {e : Env} {R : Room} {s : State} {m : MethodId} {args : Array Value} {below : List Frame} {meth : Method} {c : Code} {H : Heap} {locs : List Loc} {cells slots : Nat} {Q : State → Prop}
variable {cc : ByteArray} {pc : Nat} {ls : Array Slot} {rest : List Value} {D : va_G} {cl : List vw_C} {A : Nat → Prop} {a : Nat} {tys : List (ClassId × FieldType)} {L : List Nat} {f : Nat → va_E} {H0 : Heap}
theorem pl_aldA (hexec : p.tables.exec = Jvm.exec) (hb : c.code = cc) (hK : va_K D cl tys s) (hP : va_P D cl (va_pl L f) H) (ha : a ∈ L) (t0 : Nat) {cA : ClassId} {tt : FieldType} {n : Nat} {g : Nat → Option Nat} (he : f a = .inl (cA, n, .inr (.inr (.inr (.inr g))))) (ht : tys[t0]? = some (cA, .array tt)) {i : Int32} (hi : vp_in i n) {r : Nat} (hr : g i.toNatClampNeg = some r) (hdg : decode cc pc = .ok (.aaload, 1))
    (kk : W p l e R s m args below meth c H locs cells slots Q (F0 m (pc + 1) ls (.ref r :: rest))) : W p l e R s m args below meth c H locs cells slots Q (F0 m pc ls (.int i :: .ref a :: rest)) := by
  obtain ⟨q, hq⟩ := pl_at ha he
  have hlt : i.toNatClampNeg < n := Nat.not_le.mp fun q => hi (Or.inr q)
  refine W.aald (v := va_rf (g i.toNatClampNeg)) (ty := .array tt) hexec hb (hP q _ hq) ((hK.2 t0 _ ht).1 n (fun j => va_rf (g j))) rfl (fun q => by cases q) (by show ¬ (i < 0 ∨ (arrV _ _ _).slots.size ≤ _); rw [arrV_size]; exact hi) (by show (arrV _ _ _).slots[_]? = _; rw [arrV_read _ _ hlt]) rfl rfl hdg ?_
  rw [hr]
  exact kk
end PA
section RU
variable {l : Launch} {dC : Nat → ClassId} {dI : Nat → Nat → Nat} {h : Sh} {L : List Nat} {R : Room} {mL : Nat} {cc : ByteArray} {own : String} {Ts : List Cond} {Z : Zt} {q : Sg} {pc : Nat} {lvs : List (Nat × Value)} {rest : List Value}
theorem wa_iconst (B : BX dC dI h L mL cc own Ts Z) {n : Int} (v : Int32) (hd : decode cc pc = .ok (.iconst n, 1)) (hv : Int32.ofInt n = v) (kk : WA l dC dI h L R mL Z q (pc + 1) lvs (.int v :: rest)) : WA l dC dI h L R mL Z q pc lvs rest := by
  intro hc0 hs0 ls H locs hl hP hS
  exact lv_iconst B.1.1 B.1.2.1 hd hv (kk hc0 hs0 ls H locs hl hP hS)
theorem wa_bipush (B : BX dC dI h L mL cc own Ts Z) {n : Int} (v : Int32) (hd : decode cc pc = .ok (.bipush n, 2)) (hv : (Int8.ofInt n).toInt32 = v) (kk : WA l dC dI h L R mL Z q (pc + 2) lvs (.int v :: rest)) : WA l dC dI h L R mL Z q pc lvs rest := by
  intro hc0 hs0 ls H locs hl hP hS
  exact lv_bipush B.1.1 B.1.2.1 hd hv (kk hc0 hs0 ls H locs hl hP hS)
theorem wa_sipush (B : BX dC dI h L mL cc own Ts Z) {n : Int} (v : Int32) (hd : decode cc pc = .ok (.sipush n, 3)) (hv : (Int16.ofInt n).toInt32 = v) (kk : WA l dC dI h L R mL Z q (pc + 3) lvs (.int v :: rest)) : WA l dC dI h L R mL Z q pc lvs rest := by
  intro hc0 hs0 ls H locs hl hP hS
  exact lv_sipush B.1.1 B.1.2.1 hd hv (kk hc0 hs0 ls H locs hl hP hS)
theorem wa_lconst (B : BX dC dI h L mL cc own Ts Z) {n : Fin 2} (v : Int64) (hd : decode cc pc = .ok (.lconst n, 1)) (hv : Int64.ofNat (n : Nat) = v) (kk : WA l dC dI h L R mL Z q (pc + 1) lvs (.long v :: rest)) : WA l dC dI h L R mL Z q pc lvs rest := by
  intro hc0 hs0 ls H locs hl hP hS
  exact lv_lconst B.1.1 B.1.2.1 hd hv (kk hc0 hs0 ls H locs hl hP hS)
theorem wa_ldc (B : BX dC dI h L mL cc own Ts Z) {index : Nat} (v : Int32) (hc : Cond.constant own index v ∈ Ts) (hd : decode cc pc = .ok (.ldc index, 2)) (kk : WA l dC dI h L R mL Z q (pc + 2) lvs (.int v :: rest)) : WA l dC dI h L R mL Z q pc lvs rest := by
  intro hc0 hs0 ls H locs hl hP hS
  exact lv_ldc B.1.1 B.1.2.1 B.1.2.2.2.1 (B.1.2.2.2.2 _ hc) hd (kk hc0 hs0 ls H locs hl hP hS)
theorem wa_ldcw (B : BX dC dI h L mL cc own Ts Z) {index : Nat} (v : Int32) (hc : Cond.constant own index v ∈ Ts) (hd : decode cc pc = .ok (.ldc_w index, 3)) (kk : WA l dC dI h L R mL Z q (pc + 3) lvs (.int v :: rest)) : WA l dC dI h L R mL Z q pc lvs rest := by
  intro hc0 hs0 ls H locs hl hP hS
  exact lv_ldcw B.1.1 B.1.2.1 B.1.2.2.2.1 (B.1.2.2.2.2 _ hc) hd (kk hc0 hs0 ls H locs hl hP hS)
theorem wa_ldc2 (B : BX dC dI h L mL cc own Ts Z) {index : Nat} (v : Int64) (hc : Cond.constantLong own index v ∈ Ts) (hd : decode cc pc = .ok (.ldc2_w index, 3)) (kk : WA l dC dI h L R mL Z q (pc + 3) lvs (.long v :: rest)) : WA l dC dI h L R mL Z q pc lvs rest := by
  intro hc0 hs0 ls H locs hl hP hS
  exact lv_ldc2 B.1.1 B.1.2.1 B.1.2.2.2.1 (B.1.2.2.2.2 _ hc) hd (kk hc0 hs0 ls H locs hl hP hS)
theorem wa_iload_n (B : BX dC dI h L mL cc own Ts Z) {k : Fin 4} {i : Nat} {x : Int32} (hd : decode cc pc = .ok (.iload_n k, 1)) (hi : (k : Nat) = i) (j : Nat) (hj : lvs[j]? = some (i, .int x)) (kk : WA l dC dI h L R mL Z q (pc + 1) lvs (.int x :: rest)) : WA l dC dI h L R mL Z q pc lvs rest := by
  intro hc0 hs0 ls H locs hl hP hS
  exact lv_iload_n B.1.1 B.1.2.1 hd hi (lv_at hl j hj) (kk hc0 hs0 ls H locs hl hP hS)
theorem wa_iload (B : BX dC dI h L mL cc own Ts Z) {i : Nat} {x : Int32} (hd : decode cc pc = .ok (.iload i, 2)) (j : Nat) (hj : lvs[j]? = some (i, .int x)) (kk : WA l dC dI h L R mL Z q (pc + 2) lvs (.int x :: rest)) : WA l dC dI h L R mL Z q pc lvs rest := by
  intro hc0 hs0 ls H locs hl hP hS
  exact lv_iload B.1.1 B.1.2.1 hd (lv_at hl j hj) (kk hc0 hs0 ls H locs hl hP hS)
theorem wa_istore_n (B : BX dC dI h L mL cc own Ts Z) {k : Fin 4} {i : Nat} {x : Int32} (lvs2 : List (Nat × Value)) (hd : decode cc pc = .ok (.istore_n k, 1)) (hi : (k : Nat) = i) (hn : i < mL) (he : (i, Value.int x) :: lvs.filter (fun q => !(q.1 == i) && !(q.1 + 1 == i && q.2.category == 2)) = lvs2) (kk : WA l dC dI h L R mL Z q (pc + 1) lvs2 rest) : WA l dC dI h L R mL Z q pc lvs (.int x :: rest) := by
  intro hc0 hs0 ls H locs hl hP hS
  exact lv_istore_n B.1.1 B.1.2.1 hd hi hl hn he (fun ls2 hl2 => kk hc0 hs0 ls2 H locs hl2 hP hS)
theorem wa_istore (B : BX dC dI h L mL cc own Ts Z) {i : Nat} {x : Int32} (lvs2 : List (Nat × Value)) (hd : decode cc pc = .ok (.istore i, 2)) (hn : i < mL) (he : (i, Value.int x) :: lvs.filter (fun q => !(q.1 == i) && !(q.1 + 1 == i && q.2.category == 2)) = lvs2) (kk : WA l dC dI h L R mL Z q (pc + 2) lvs2 rest) : WA l dC dI h L R mL Z q pc lvs (.int x :: rest) := by
  intro hc0 hs0 ls H locs hl hP hS
  exact lv_istore B.1.1 B.1.2.1 hd hl hn he (fun ls2 hl2 => kk hc0 hs0 ls2 H locs hl2 hP hS)
theorem wa_lload_n (B : BX dC dI h L mL cc own Ts Z) {k : Fin 4} {i : Nat} {x : Int64} (hd : decode cc pc = .ok (.lload_n k, 1)) (hi : (k : Nat) = i) (j : Nat) (hj : lvs[j]? = some (i, .long x)) (kk : WA l dC dI h L R mL Z q (pc + 1) lvs (.long x :: rest)) : WA l dC dI h L R mL Z q pc lvs rest := by
  intro hc0 hs0 ls H locs hl hP hS
  exact lv_lload_n B.1.1 B.1.2.1 hd hi (lv_at hl j hj) (kk hc0 hs0 ls H locs hl hP hS)
theorem wa_lload (B : BX dC dI h L mL cc own Ts Z) {i : Nat} {x : Int64} (hd : decode cc pc = .ok (.lload i, 2)) (j : Nat) (hj : lvs[j]? = some (i, .long x)) (kk : WA l dC dI h L R mL Z q (pc + 2) lvs (.long x :: rest)) : WA l dC dI h L R mL Z q pc lvs rest := by
  intro hc0 hs0 ls H locs hl hP hS
  exact lv_lload B.1.1 B.1.2.1 hd (lv_at hl j hj) (kk hc0 hs0 ls H locs hl hP hS)
theorem wa_lstore_n (B : BX dC dI h L mL cc own Ts Z) {k : Fin 4} {i : Nat} {x : Int64} (lvs2 : List (Nat × Value)) (hd : decode cc pc = .ok (.lstore_n k, 1)) (hi : (k : Nat) = i) (hn : i + 1 < mL) (he : (i, Value.long x) :: lvs.filter (fun q => !(q.1 == i) && (!(q.1 == i + 1) && !(q.1 + 1 == i && q.2.category == 2))) = lvs2) (kk : WA l dC dI h L R mL Z q (pc + 1) lvs2 rest) : WA l dC dI h L R mL Z q pc lvs (.long x :: rest) := by
  intro hc0 hs0 ls H locs hl hP hS
  exact lv_lstore_n B.1.1 B.1.2.1 hd hi hl hn he (fun ls2 hl2 => kk hc0 hs0 ls2 H locs hl2 hP hS)
theorem wa_lstore (B : BX dC dI h L mL cc own Ts Z) {i : Nat} {x : Int64} (lvs2 : List (Nat × Value)) (hd : decode cc pc = .ok (.lstore i, 2)) (hn : i + 1 < mL) (he : (i, Value.long x) :: lvs.filter (fun q => !(q.1 == i) && (!(q.1 == i + 1) && !(q.1 + 1 == i && q.2.category == 2))) = lvs2) (kk : WA l dC dI h L R mL Z q (pc + 2) lvs2 rest) : WA l dC dI h L R mL Z q pc lvs (.long x :: rest) := by
  intro hc0 hs0 ls H locs hl hP hS
  exact lv_lstore B.1.1 B.1.2.1 hd hl hn he (fun ls2 hl2 => kk hc0 hs0 ls2 H locs hl2 hP hS)
theorem wa_aload_n (B : BX dC dI h L mL cc own Ts Z) {k : Fin 4} {i : Nat} {x : Nat} (hd : decode cc pc = .ok (.aload_n k, 1)) (hi : (k : Nat) = i) (j : Nat) (hj : lvs[j]? = some (i, .ref x)) (kk : WA l dC dI h L R mL Z q (pc + 1) lvs (.ref x :: rest)) : WA l dC dI h L R mL Z q pc lvs rest := by
  intro hc0 hs0 ls H locs hl hP hS
  exact lv_aload_n B.1.1 B.1.2.1 hd hi (lv_at hl j hj) (kk hc0 hs0 ls H locs hl hP hS)
theorem wa_aload (B : BX dC dI h L mL cc own Ts Z) {i : Nat} {x : Nat} (hd : decode cc pc = .ok (.aload i, 2)) (j : Nat) (hj : lvs[j]? = some (i, .ref x)) (kk : WA l dC dI h L R mL Z q (pc + 2) lvs (.ref x :: rest)) : WA l dC dI h L R mL Z q pc lvs rest := by
  intro hc0 hs0 ls H locs hl hP hS
  exact lv_aload B.1.1 B.1.2.1 hd (lv_at hl j hj) (kk hc0 hs0 ls H locs hl hP hS)
theorem wa_astore_n (B : BX dC dI h L mL cc own Ts Z) {k : Fin 4} {i : Nat} {x : Nat} (lvs2 : List (Nat × Value)) (hd : decode cc pc = .ok (.astore_n k, 1)) (hi : (k : Nat) = i) (hn : i < mL) (he : (i, Value.ref x) :: lvs.filter (fun q => !(q.1 == i) && !(q.1 + 1 == i && q.2.category == 2)) = lvs2) (kk : WA l dC dI h L R mL Z q (pc + 1) lvs2 rest) : WA l dC dI h L R mL Z q pc lvs (.ref x :: rest) := by
  intro hc0 hs0 ls H locs hl hP hS
  exact lv_astore_n B.1.1 B.1.2.1 hd hi hl hn he (fun ls2 hl2 => kk hc0 hs0 ls2 H locs hl2 hP hS)
theorem wa_astore (B : BX dC dI h L mL cc own Ts Z) {i : Nat} {x : Nat} (lvs2 : List (Nat × Value)) (hd : decode cc pc = .ok (.astore i, 2)) (hn : i < mL) (he : (i, Value.ref x) :: lvs.filter (fun q => !(q.1 == i) && !(q.1 + 1 == i && q.2.category == 2)) = lvs2) (kk : WA l dC dI h L R mL Z q (pc + 2) lvs2 rest) : WA l dC dI h L R mL Z q pc lvs (.ref x :: rest) := by
  intro hc0 hs0 ls H locs hl hP hS
  exact lv_astore B.1.1 B.1.2.1 hd hl hn he (fun ls2 hl2 => kk hc0 hs0 ls2 H locs hl2 hP hS)
theorem wa_iinc (B : BX dC dI h L mL cc own Ts Z) {i : Nat} {n : Int} {x : Int32} (lvs2 : List (Nat × Value)) (v : Int32) (hd : decode cc pc = .ok (.iinc i n, 3)) (j : Nat) (hj : lvs[j]? = some (i, .int x)) (hv : x + Int32.ofInt n = v) (hn : i < mL) (he : (i, Value.int v) :: lvs.filter (fun q => !(q.1 == i) && !(q.1 + 1 == i && q.2.category == 2)) = lvs2) (kk : WA l dC dI h L R mL Z q (pc + 3) lvs2 rest) : WA l dC dI h L R mL Z q pc lvs rest := by
  intro hc0 hs0 ls H locs hl hP hS
  exact lv_iinc (k := j) B.1.1 B.1.2.1 hd hl hj hv hn he (fun ls2 hl2 => kk hc0 hs0 ls2 H locs hl2 hP hS)
theorem wa_iadd (B : BX dC dI h L mL cc own Ts Z) {x y : Int32} (hd : decode cc pc = .ok (.iadd, 1)) (kk : ∀ v : Int32, v = x + y → WA l dC dI h L R mL Z q (pc + 1) lvs (.int v :: rest)) : WA l dC dI h L R mL Z q pc lvs (.int y :: .int x :: rest) := by
  intro hc0 hs0 ls H locs hl hP hS
  exact lv_iadd B.1.1 B.1.2.1 hd (lv_topi (fun v e => kk v e hc0 hs0 ls H locs hl hP hS))
theorem wa_isub (B : BX dC dI h L mL cc own Ts Z) {x y : Int32} (hd : decode cc pc = .ok (.isub, 1)) (kk : ∀ v : Int32, v = x - y → WA l dC dI h L R mL Z q (pc + 1) lvs (.int v :: rest)) : WA l dC dI h L R mL Z q pc lvs (.int y :: .int x :: rest) := by
  intro hc0 hs0 ls H locs hl hP hS
  exact lv_isub B.1.1 B.1.2.1 hd (lv_topi (fun v e => kk v e hc0 hs0 ls H locs hl hP hS))
theorem wa_imul (B : BX dC dI h L mL cc own Ts Z) {x y : Int32} (hd : decode cc pc = .ok (.imul, 1)) (kk : ∀ v : Int32, v = x * y → WA l dC dI h L R mL Z q (pc + 1) lvs (.int v :: rest)) : WA l dC dI h L R mL Z q pc lvs (.int y :: .int x :: rest) := by
  intro hc0 hs0 ls H locs hl hP hS
  exact lv_imul B.1.1 B.1.2.1 hd (lv_topi (fun v e => kk v e hc0 hs0 ls H locs hl hP hS))
theorem wa_iand (B : BX dC dI h L mL cc own Ts Z) {x y : Int32} (hd : decode cc pc = .ok (.iand, 1)) (kk : ∀ v : Int32, v = x &&& y → WA l dC dI h L R mL Z q (pc + 1) lvs (.int v :: rest)) : WA l dC dI h L R mL Z q pc lvs (.int y :: .int x :: rest) := by
  intro hc0 hs0 ls H locs hl hP hS
  exact lv_iand B.1.1 B.1.2.1 hd (lv_topi (fun v e => kk v e hc0 hs0 ls H locs hl hP hS))
theorem wa_ior (B : BX dC dI h L mL cc own Ts Z) {x y : Int32} (hd : decode cc pc = .ok (.ior, 1)) (kk : ∀ v : Int32, v = x ||| y → WA l dC dI h L R mL Z q (pc + 1) lvs (.int v :: rest)) : WA l dC dI h L R mL Z q pc lvs (.int y :: .int x :: rest) := by
  intro hc0 hs0 ls H locs hl hP hS
  exact lv_ior B.1.1 B.1.2.1 hd (lv_topi (fun v e => kk v e hc0 hs0 ls H locs hl hP hS))
theorem wa_ixor (B : BX dC dI h L mL cc own Ts Z) {x y : Int32} (hd : decode cc pc = .ok (.ixor, 1)) (kk : ∀ v : Int32, v = x ^^^ y → WA l dC dI h L R mL Z q (pc + 1) lvs (.int v :: rest)) : WA l dC dI h L R mL Z q pc lvs (.int y :: .int x :: rest) := by
  intro hc0 hs0 ls H locs hl hP hS
  exact lv_ixor B.1.1 B.1.2.1 hd (lv_topi (fun v e => kk v e hc0 hs0 ls H locs hl hP hS))
theorem wa_ishl (B : BX dC dI h L mL cc own Ts Z) {x y : Int32} (hd : decode cc pc = .ok (.ishl, 1)) (kk : ∀ v : Int32, v = x <<< (y &&& 31) → WA l dC dI h L R mL Z q (pc + 1) lvs (.int v :: rest)) : WA l dC dI h L R mL Z q pc lvs (.int y :: .int x :: rest) := by
  intro hc0 hs0 ls H locs hl hP hS
  exact lv_ishl B.1.1 B.1.2.1 hd (lv_topi (fun v e => kk v e hc0 hs0 ls H locs hl hP hS))
theorem wa_ishr (B : BX dC dI h L mL cc own Ts Z) {x y : Int32} (hd : decode cc pc = .ok (.ishr, 1)) (kk : ∀ v : Int32, v = x >>> (y &&& 31) → WA l dC dI h L R mL Z q (pc + 1) lvs (.int v :: rest)) : WA l dC dI h L R mL Z q pc lvs (.int y :: .int x :: rest) := by
  intro hc0 hs0 ls H locs hl hP hS
  exact lv_ishr B.1.1 B.1.2.1 hd (lv_topi (fun v e => kk v e hc0 hs0 ls H locs hl hP hS))
theorem wa_idiv (B : BX dC dI h L mL cc own Ts Z) {x y : Int32} (hd : decode cc pc = .ok (.idiv, 1)) (hy : ¬ y = 0) (kk : ∀ v : Int32, v = x / y → WA l dC dI h L R mL Z q (pc + 1) lvs (.int v :: rest)) : WA l dC dI h L R mL Z q pc lvs (.int y :: .int x :: rest) := by
  intro hc0 hs0 ls H locs hl hP hS
  exact lv_idiv B.1.1 B.1.2.1 hd hy (lv_topi (fun v e => kk v e hc0 hs0 ls H locs hl hP hS))
theorem wa_irem (B : BX dC dI h L mL cc own Ts Z) {x y : Int32} (hd : decode cc pc = .ok (.irem, 1)) (hy : ¬ y = 0) (kk : ∀ v : Int32, v = x - x / y * y → WA l dC dI h L R mL Z q (pc + 1) lvs (.int v :: rest)) : WA l dC dI h L R mL Z q pc lvs (.int y :: .int x :: rest) := by
  intro hc0 hs0 ls H locs hl hP hS
  exact lv_irem B.1.1 B.1.2.1 hd hy (lv_topi (fun v e => kk v e hc0 hs0 ls H locs hl hP hS))
theorem wa_ladd (B : BX dC dI h L mL cc own Ts Z) {x y : Int64} (hd : decode cc pc = .ok (.ladd, 1)) (kk : ∀ v : Int64, v = x + y → WA l dC dI h L R mL Z q (pc + 1) lvs (.long v :: rest)) : WA l dC dI h L R mL Z q pc lvs (.long y :: .long x :: rest) := by
  intro hc0 hs0 ls H locs hl hP hS
  exact lv_ladd B.1.1 B.1.2.1 hd (lv_topl (fun v e => kk v e hc0 hs0 ls H locs hl hP hS))
theorem wa_lsub (B : BX dC dI h L mL cc own Ts Z) {x y : Int64} (hd : decode cc pc = .ok (.lsub, 1)) (kk : ∀ v : Int64, v = x - y → WA l dC dI h L R mL Z q (pc + 1) lvs (.long v :: rest)) : WA l dC dI h L R mL Z q pc lvs (.long y :: .long x :: rest) := by
  intro hc0 hs0 ls H locs hl hP hS
  exact lv_lsub B.1.1 B.1.2.1 hd (lv_topl (fun v e => kk v e hc0 hs0 ls H locs hl hP hS))
theorem wa_lmul (B : BX dC dI h L mL cc own Ts Z) {x y : Int64} (hd : decode cc pc = .ok (.lmul, 1)) (kk : ∀ v : Int64, v = x * y → WA l dC dI h L R mL Z q (pc + 1) lvs (.long v :: rest)) : WA l dC dI h L R mL Z q pc lvs (.long y :: .long x :: rest) := by
  intro hc0 hs0 ls H locs hl hP hS
  exact lv_lmul B.1.1 B.1.2.1 hd (lv_topl (fun v e => kk v e hc0 hs0 ls H locs hl hP hS))
theorem wa_lor (B : BX dC dI h L mL cc own Ts Z) {x y : Int64} (hd : decode cc pc = .ok (.lor, 1)) (kk : ∀ v : Int64, v = x ||| y → WA l dC dI h L R mL Z q (pc + 1) lvs (.long v :: rest)) : WA l dC dI h L R mL Z q pc lvs (.long y :: .long x :: rest) := by
  intro hc0 hs0 ls H locs hl hP hS
  exact lv_lor B.1.1 B.1.2.1 hd (lv_topl (fun v e => kk v e hc0 hs0 ls H locs hl hP hS))
theorem wa_ldiv (B : BX dC dI h L mL cc own Ts Z) {x y : Int64} (hd : decode cc pc = .ok (.ldiv, 1)) (hy : ¬ y = 0) (kk : ∀ v : Int64, v = x / y → WA l dC dI h L R mL Z q (pc + 1) lvs (.long v :: rest)) : WA l dC dI h L R mL Z q pc lvs (.long y :: .long x :: rest) := by
  intro hc0 hs0 ls H locs hl hP hS
  exact lv_ldiv B.1.1 B.1.2.1 hd hy (lv_topl (fun v e => kk v e hc0 hs0 ls H locs hl hP hS))
theorem wa_lrem (B : BX dC dI h L mL cc own Ts Z) {x y : Int64} (hd : decode cc pc = .ok (.lrem, 1)) (hy : ¬ y = 0) (kk : ∀ v : Int64, v = x - x / y * y → WA l dC dI h L R mL Z q (pc + 1) lvs (.long v :: rest)) : WA l dC dI h L R mL Z q pc lvs (.long y :: .long x :: rest) := by
  intro hc0 hs0 ls H locs hl hP hS
  exact lv_lrem B.1.1 B.1.2.1 hd hy (lv_topl (fun v e => kk v e hc0 hs0 ls H locs hl hP hS))
theorem wa_iushr (B : BX dC dI h L mL cc own Ts Z) {x y : Int32} (hd : decode cc pc = .ok (.iushr, 1)) (kk : ∀ v : Int32, v = (x.toUInt32 >>> (y.toUInt32 &&& Int32.toUInt32 31)).toInt32 → WA l dC dI h L R mL Z q (pc + 1) lvs (.int v :: rest)) : WA l dC dI h L R mL Z q pc lvs (.int y :: .int x :: rest) := by
  intro hc0 hs0 ls H locs hl hP hS
  exact lv_iushr B.1.1 B.1.2.1 hd rfl (kk _ rfl hc0 hs0 ls H locs hl hP hS)
theorem wa_lushr (B : BX dC dI h L mL cc own Ts Z) {x : Int64} {y : Int32} (hd : decode cc pc = .ok (.lushr, 1)) (kk : ∀ v : Int64, v = (x.toUInt64 >>> (y.toInt64.toUInt64 &&& Int64.toUInt64 63)).toInt64 → WA l dC dI h L R mL Z q (pc + 1) lvs (.long v :: rest)) : WA l dC dI h L R mL Z q pc lvs (.int y :: .long x :: rest) := by
  intro hc0 hs0 ls H locs hl hP hS
  exact lv_lushr B.1.1 B.1.2.1 hd rfl (kk _ rfl hc0 hs0 ls H locs hl hP hS)
theorem wa_lshl (B : BX dC dI h L mL cc own Ts Z) {x : Int64} {y : Int32} (hd : decode cc pc = .ok (.lshl, 1)) (kk : ∀ v : Int64, v = x <<< (y.toInt64 &&& 63) → WA l dC dI h L R mL Z q (pc + 1) lvs (.long v :: rest)) : WA l dC dI h L R mL Z q pc lvs (.int y :: .long x :: rest) := by
  intro hc0 hs0 ls H locs hl hP hS
  exact lv_lshl B.1.1 B.1.2.1 hd rfl (kk _ rfl hc0 hs0 ls H locs hl hP hS)
theorem wa_i2l (B : BX dC dI h L mL cc own Ts Z) {x : Int32} (hd : decode cc pc = .ok (.i2l, 1)) (kk : ∀ v : Int64, v = x.toInt64 → WA l dC dI h L R mL Z q (pc + 1) lvs (.long v :: rest)) : WA l dC dI h L R mL Z q pc lvs (.int x :: rest) := by
  intro hc0 hs0 ls H locs hl hP hS
  exact lv_i2l B.1.1 B.1.2.1 hd rfl (kk _ rfl hc0 hs0 ls H locs hl hP hS)
theorem wa_l2i (B : BX dC dI h L mL cc own Ts Z) {x : Int64} (hd : decode cc pc = .ok (.l2i, 1)) (kk : ∀ v : Int32, v = x.toInt32 → WA l dC dI h L R mL Z q (pc + 1) lvs (.int v :: rest)) : WA l dC dI h L R mL Z q pc lvs (.long x :: rest) := by
  intro hc0 hs0 ls H locs hl hP hS
  exact lv_l2i B.1.1 B.1.2.1 hd rfl (kk _ rfl hc0 hs0 ls H locs hl hP hS)
theorem wa_i2b (B : BX dC dI h L mL cc own Ts Z) {x : Int32} (hd : decode cc pc = .ok (.i2b, 1)) (kk : ∀ v : Int32, v = x.toInt8.toInt32 → WA l dC dI h L R mL Z q (pc + 1) lvs (.int v :: rest)) : WA l dC dI h L R mL Z q pc lvs (.int x :: rest) := by
  intro hc0 hs0 ls H locs hl hP hS
  exact lv_i2b B.1.1 B.1.2.1 hd rfl (kk _ rfl hc0 hs0 ls H locs hl hP hS)
theorem wa_lcmp (B : BX dC dI h L mL cc own Ts Z) {x y : Int64} (hd : decode cc pc = .ok (.lcmp, 1)) (kk : ∀ v : Int32, v = lg_cmp x y → WA l dC dI h L R mL Z q (pc + 1) lvs (.int v :: rest)) : WA l dC dI h L R mL Z q pc lvs (.long y :: .long x :: rest) := by
  intro hc0 hs0 ls H locs hl hP hS
  exact W.lcmp B.1.1 B.1.2.1 hd (lv_topi (fun v e => kk v e hc0 hs0 ls H locs hl hP hS))
theorem wa_dup (B : BX dC dI h L mL cc own Ts Z) {x : Value} (hd : decode cc pc = .ok (.dup, 1)) (hx : x.category = 1) (kk : WA l dC dI h L R mL Z q (pc + 1) lvs (x :: x :: rest)) : WA l dC dI h L R mL Z q pc lvs (x :: rest) := by
  intro hc0 hs0 ls H locs hl hP hS
  exact lv_dup B.1.1 B.1.2.1 hd hx (kk hc0 hs0 ls H locs hl hP hS)
theorem wa_pop (B : BX dC dI h L mL cc own Ts Z) {x : Value} (hd : decode cc pc = .ok (.pop, 1)) (hx : x.category = 1) (kk : WA l dC dI h L R mL Z q (pc + 1) lvs rest) : WA l dC dI h L R mL Z q pc lvs (x :: rest) := by
  intro hc0 hs0 ls H locs hl hP hS
  exact lv_pop B.1.1 B.1.2.1 hd hx (kk hc0 hs0 ls H locs hl hP hS)
theorem wa_dup2 (B : BX dC dI h L mL cc own Ts Z) {x y : Value} (hd : decode cc pc = .ok (.dup2, 1)) (hx : x.category = 1) (hy : y.category = 1) (kk : WA l dC dI h L R mL Z q (pc + 1) lvs (x :: y :: x :: y :: rest)) : WA l dC dI h L R mL Z q pc lvs (x :: y :: rest) := by
  intro hc0 hs0 ls H locs hl hP hS
  exact lv_dup2_11 B.1.1 B.1.2.1 hd hx hy (kk hc0 hs0 ls H locs hl hP hS)
theorem wa_goto (B : BX dC dI h L mL cc own Ts Z) {off : Int} (tgt : Nat) (hd : decode cc pc = .ok (.goto off, 3)) (ht : (pc : Int) + off = (tgt : Int)) (kk : WA l dC dI h L R mL Z q tgt lvs rest) : WA l dC dI h L R mL Z q pc lvs rest := by
  intro hc0 hs0 ls H locs hl hP hS
  exact lv_goto B.1.1 B.1.2.1 hd ht (kk hc0 hs0 ls H locs hl hP hS)
theorem zx_lt {a b : Int32} : a < b ↔ a.toInt < b.toInt := Int32.lt_iff_toInt_lt
theorem zx_le {a b : Int32} : a ≤ b ↔ a.toInt ≤ b.toInt := Int32.le_iff_toInt_le
theorem zx_eq {a b : Int32} : a = b ↔ a.toInt = b.toInt := Int32.toInt_inj.symm
theorem wa_if_eq (B : BX dC dI h L mL cc own Ts Z) {x : Int32} {off : Int} (tgt : Nat) (hd : decode cc pc = .ok (.ifCond .eq off, 3)) (ht : (pc : Int) + off = (tgt : Int)) (k1 : x.toInt = (0 : Int) → WA l dC dI h L R mL Z q tgt lvs rest) (k2 : ¬ x.toInt = (0 : Int) → WA l dC dI h L R mL Z q (pc + 3) lvs rest) : WA l dC dI h L R mL Z q pc lvs (.int x :: rest) := by
  intro hc0 hs0 ls H locs hl hP hS
  exact lv_if_eq B.1.1 B.1.2.1 hd ht (fun z => k1 (zx_eq.mp z) hc0 hs0 ls H locs hl hP hS) (fun z => k2 (fun e => z (zx_eq.mpr e)) hc0 hs0 ls H locs hl hP hS)
theorem wa_if_ne (B : BX dC dI h L mL cc own Ts Z) {x : Int32} {off : Int} (tgt : Nat) (hd : decode cc pc = .ok (.ifCond .ne off, 3)) (ht : (pc : Int) + off = (tgt : Int)) (k1 : ¬ x.toInt = (0 : Int) → WA l dC dI h L R mL Z q tgt lvs rest) (k2 : x.toInt = (0 : Int) → WA l dC dI h L R mL Z q (pc + 3) lvs rest) : WA l dC dI h L R mL Z q pc lvs (.int x :: rest) := by
  intro hc0 hs0 ls H locs hl hP hS
  exact lv_if_ne B.1.1 B.1.2.1 hd ht (fun z => k1 (fun e => z (zx_eq.mpr e)) hc0 hs0 ls H locs hl hP hS) (fun z => k2 (zx_eq.mp z) hc0 hs0 ls H locs hl hP hS)
theorem wa_if_lt (B : BX dC dI h L mL cc own Ts Z) {x : Int32} {off : Int} (tgt : Nat) (hd : decode cc pc = .ok (.ifCond .lt off, 3)) (ht : (pc : Int) + off = (tgt : Int)) (k1 : x.toInt < (0 : Int) → WA l dC dI h L R mL Z q tgt lvs rest) (k2 : ¬ x.toInt < (0 : Int) → WA l dC dI h L R mL Z q (pc + 3) lvs rest) : WA l dC dI h L R mL Z q pc lvs (.int x :: rest) := by
  intro hc0 hs0 ls H locs hl hP hS
  exact lv_if_lt B.1.1 B.1.2.1 hd ht (fun z => k1 (zx_lt.mp z) hc0 hs0 ls H locs hl hP hS) (fun z => k2 (fun e => z (zx_lt.mpr e)) hc0 hs0 ls H locs hl hP hS)
theorem wa_if_ge (B : BX dC dI h L mL cc own Ts Z) {x : Int32} {off : Int} (tgt : Nat) (hd : decode cc pc = .ok (.ifCond .ge off, 3)) (ht : (pc : Int) + off = (tgt : Int)) (k1 : (0 : Int) ≤ x.toInt → WA l dC dI h L R mL Z q tgt lvs rest) (k2 : ¬ (0 : Int) ≤ x.toInt → WA l dC dI h L R mL Z q (pc + 3) lvs rest) : WA l dC dI h L R mL Z q pc lvs (.int x :: rest) := by
  intro hc0 hs0 ls H locs hl hP hS
  exact lv_if_ge B.1.1 B.1.2.1 hd ht (fun z => k1 (zx_le.mp z) hc0 hs0 ls H locs hl hP hS) (fun z => k2 (fun e => z (zx_le.mpr e)) hc0 hs0 ls H locs hl hP hS)
theorem wa_if_gt (B : BX dC dI h L mL cc own Ts Z) {x : Int32} {off : Int} (tgt : Nat) (hd : decode cc pc = .ok (.ifCond .gt off, 3)) (ht : (pc : Int) + off = (tgt : Int)) (k1 : (0 : Int) < x.toInt → WA l dC dI h L R mL Z q tgt lvs rest) (k2 : ¬ (0 : Int) < x.toInt → WA l dC dI h L R mL Z q (pc + 3) lvs rest) : WA l dC dI h L R mL Z q pc lvs (.int x :: rest) := by
  intro hc0 hs0 ls H locs hl hP hS
  exact lv_if_gt B.1.1 B.1.2.1 hd ht (fun z => k1 (zx_lt.mp z) hc0 hs0 ls H locs hl hP hS) (fun z => k2 (fun e => z (zx_lt.mpr e)) hc0 hs0 ls H locs hl hP hS)
theorem wa_if_le (B : BX dC dI h L mL cc own Ts Z) {x : Int32} {off : Int} (tgt : Nat) (hd : decode cc pc = .ok (.ifCond .le off, 3)) (ht : (pc : Int) + off = (tgt : Int)) (k1 : x.toInt ≤ (0 : Int) → WA l dC dI h L R mL Z q tgt lvs rest) (k2 : ¬ x.toInt ≤ (0 : Int) → WA l dC dI h L R mL Z q (pc + 3) lvs rest) : WA l dC dI h L R mL Z q pc lvs (.int x :: rest) := by
  intro hc0 hs0 ls H locs hl hP hS
  exact lv_if_le B.1.1 B.1.2.1 hd ht (fun z => k1 (zx_le.mp z) hc0 hs0 ls H locs hl hP hS) (fun z => k2 (fun e => z (zx_le.mpr e)) hc0 hs0 ls H locs hl hP hS)
theorem wa_icmp_eq (B : BX dC dI h L mL cc own Ts Z) {x y : Int32} {off : Int} (tgt : Nat) (hd : decode cc pc = .ok (.if_icmp .eq off, 3)) (ht : (pc : Int) + off = (tgt : Int)) (k1 : x.toInt = y.toInt → WA l dC dI h L R mL Z q tgt lvs rest) (k2 : ¬ x.toInt = y.toInt → WA l dC dI h L R mL Z q (pc + 3) lvs rest) : WA l dC dI h L R mL Z q pc lvs (.int y :: .int x :: rest) := by
  intro hc0 hs0 ls H locs hl hP hS
  exact lv_icmp_eq B.1.1 B.1.2.1 hd ht (fun z => k1 (zx_eq.mp z) hc0 hs0 ls H locs hl hP hS) (fun z => k2 (fun e => z (zx_eq.mpr e)) hc0 hs0 ls H locs hl hP hS)
theorem wa_icmp_ne (B : BX dC dI h L mL cc own Ts Z) {x y : Int32} {off : Int} (tgt : Nat) (hd : decode cc pc = .ok (.if_icmp .ne off, 3)) (ht : (pc : Int) + off = (tgt : Int)) (k1 : ¬ x.toInt = y.toInt → WA l dC dI h L R mL Z q tgt lvs rest) (k2 : x.toInt = y.toInt → WA l dC dI h L R mL Z q (pc + 3) lvs rest) : WA l dC dI h L R mL Z q pc lvs (.int y :: .int x :: rest) := by
  intro hc0 hs0 ls H locs hl hP hS
  exact lv_icmp_ne B.1.1 B.1.2.1 hd ht (fun z => k1 (fun e => z (zx_eq.mpr e)) hc0 hs0 ls H locs hl hP hS) (fun z => k2 (zx_eq.mp z) hc0 hs0 ls H locs hl hP hS)
theorem wa_icmp_lt (B : BX dC dI h L mL cc own Ts Z) {x y : Int32} {off : Int} (tgt : Nat) (hd : decode cc pc = .ok (.if_icmp .lt off, 3)) (ht : (pc : Int) + off = (tgt : Int)) (k1 : x.toInt < y.toInt → WA l dC dI h L R mL Z q tgt lvs rest) (k2 : ¬ x.toInt < y.toInt → WA l dC dI h L R mL Z q (pc + 3) lvs rest) : WA l dC dI h L R mL Z q pc lvs (.int y :: .int x :: rest) := by
  intro hc0 hs0 ls H locs hl hP hS
  exact lv_icmp_lt B.1.1 B.1.2.1 hd ht (fun z => k1 (zx_lt.mp z) hc0 hs0 ls H locs hl hP hS) (fun z => k2 (fun e => z (zx_lt.mpr e)) hc0 hs0 ls H locs hl hP hS)
theorem wa_icmp_ge (B : BX dC dI h L mL cc own Ts Z) {x y : Int32} {off : Int} (tgt : Nat) (hd : decode cc pc = .ok (.if_icmp .ge off, 3)) (ht : (pc : Int) + off = (tgt : Int)) (k1 : y.toInt ≤ x.toInt → WA l dC dI h L R mL Z q tgt lvs rest) (k2 : ¬ y.toInt ≤ x.toInt → WA l dC dI h L R mL Z q (pc + 3) lvs rest) : WA l dC dI h L R mL Z q pc lvs (.int y :: .int x :: rest) := by
  intro hc0 hs0 ls H locs hl hP hS
  exact lv_icmp_ge B.1.1 B.1.2.1 hd ht (fun z => k1 (zx_le.mp z) hc0 hs0 ls H locs hl hP hS) (fun z => k2 (fun e => z (zx_le.mpr e)) hc0 hs0 ls H locs hl hP hS)
theorem wa_icmp_gt (B : BX dC dI h L mL cc own Ts Z) {x y : Int32} {off : Int} (tgt : Nat) (hd : decode cc pc = .ok (.if_icmp .gt off, 3)) (ht : (pc : Int) + off = (tgt : Int)) (k1 : y.toInt < x.toInt → WA l dC dI h L R mL Z q tgt lvs rest) (k2 : ¬ y.toInt < x.toInt → WA l dC dI h L R mL Z q (pc + 3) lvs rest) : WA l dC dI h L R mL Z q pc lvs (.int y :: .int x :: rest) := by
  intro hc0 hs0 ls H locs hl hP hS
  exact lv_icmp_gt B.1.1 B.1.2.1 hd ht (fun z => k1 (zx_lt.mp z) hc0 hs0 ls H locs hl hP hS) (fun z => k2 (fun e => z (zx_lt.mpr e)) hc0 hs0 ls H locs hl hP hS)
theorem wa_icmp_le (B : BX dC dI h L mL cc own Ts Z) {x y : Int32} {off : Int} (tgt : Nat) (hd : decode cc pc = .ok (.if_icmp .le off, 3)) (ht : (pc : Int) + off = (tgt : Int)) (k1 : x.toInt ≤ y.toInt → WA l dC dI h L R mL Z q tgt lvs rest) (k2 : ¬ x.toInt ≤ y.toInt → WA l dC dI h L R mL Z q (pc + 3) lvs rest) : WA l dC dI h L R mL Z q pc lvs (.int y :: .int x :: rest) := by
  intro hc0 hs0 ls H locs hl hP hS
  exact lv_icmp_le B.1.1 B.1.2.1 hd ht (fun z => k1 (zx_le.mp z) hc0 hs0 ls H locs hl hP hS) (fun z => k2 (fun e => z (zx_le.mpr e)) hc0 hs0 ls H locs hl hP hS)
theorem wa_getI (B : BX dC dI h L mL cc own Ts Z) {C ref : String} {T : u_T} {N ci index a : Nat} (hin : ∀ w ∈ u_ws C T N, w ∈ Ts) (ha : a ∈ L) (hk : h.1 a = ci) (h13 : ci < 13) (hc : vwCl[ci]? = some (C, T, N)) (k : Nat) (hkN : k < N) (hnf : k < sg_nf ci) (hlink : Cond.fieldLink own index ref (T k).2.1 (T k).2.2.1 ∈ Ts) (hsame : (T k).1 = ref) (ht : sg_ty ci k = .int ∨ sg_ty ci k = .boolean) {v : Int32} (hv : q.1 a k = v) (hd : decode cc pc = .ok (.getfield index, 3)) (kk : WA l dC dI h L R mL Z q (pc + 3) lvs (.int v :: rest)) : WA l dC dI h L R mL Z q pc lvs (.ref a :: rest) := by
  intro hc0 hs0 ls H locs hl hP hS
  exact pl_get (D := (dC, dI)) (v := .int v) B.1.1 B.1.2.1 B.1.2.2.2.2 hin B.1.2.2.2.1 B.2.1 hP ha (sg_F_o hk h13) hc k hkN (B.1.2.2.2.2 _ hlink) (fun _ h9 => hsame ▸ h9) (by rw [sg_fs_at hnf]; rcases ht with z | z <;> rw [z] <;> simp only [sg_v, hv]) hd (kk hc0 hs0 ls H locs hl hP hS)
theorem wa_getJ (B : BX dC dI h L mL cc own Ts Z) {C ref : String} {T : u_T} {N ci index a : Nat} (hin : ∀ w ∈ u_ws C T N, w ∈ Ts) (ha : a ∈ L) (hk : h.1 a = ci) (h13 : ci < 13) (hc : vwCl[ci]? = some (C, T, N)) (k : Nat) (hkN : k < N) (hnf : k < sg_nf ci) (hlink : Cond.fieldLink own index ref (T k).2.1 (T k).2.2.1 ∈ Ts) (hsame : (T k).1 = ref) (ht : sg_ty ci k = .long) {v : Int64} (hv : q.2.1 a k = v) (hd : decode cc pc = .ok (.getfield index, 3)) (kk : WA l dC dI h L R mL Z q (pc + 3) lvs (.long v :: rest)) : WA l dC dI h L R mL Z q pc lvs (.ref a :: rest) := by
  intro hc0 hs0 ls H locs hl hP hS
  exact pl_get (D := (dC, dI)) (v := .long v) B.1.1 B.1.2.1 B.1.2.2.2.2 hin B.1.2.2.2.1 B.2.1 hP ha (sg_F_o hk h13) hc k hkN (B.1.2.2.2.2 _ hlink) (fun _ h9 => hsame ▸ h9) (by rw [sg_fs_at hnf, ht]; simp only [sg_v, hv]) hd (kk hc0 hs0 ls H locs hl hP hS)
theorem wa_getR (B : BX dC dI h L mL cc own Ts Z) {C ref : String} {T : u_T} {N ci index a : Nat} (hin : ∀ w ∈ u_ws C T N, w ∈ Ts) (ha : a ∈ L) (hk : h.1 a = ci) (h13 : ci < 13) (hc : vwCl[ci]? = some (C, T, N)) (k : Nat) (hkN : k < N) (hnf : k < sg_nf ci) (hlink : Cond.fieldLink own index ref (T k).2.1 (T k).2.2.1 ∈ Ts) (hsame : (T k).1 = ref) (ht : ∀ i j r, sg_v (sg_ty ci k) i j r = .ref r) {v : Nat} (hv : q.2.2.1 a k = v) (hd : decode cc pc = .ok (.getfield index, 3)) (kk : WA l dC dI h L R mL Z q (pc + 3) lvs (.ref v :: rest)) : WA l dC dI h L R mL Z q pc lvs (.ref a :: rest) := by
  intro hc0 hs0 ls H locs hl hP hS
  exact pl_get (D := (dC, dI)) (v := .ref v) B.1.1 B.1.2.1 B.1.2.2.2.2 hin B.1.2.2.2.1 B.2.1 hP ha (sg_F_o hk h13) hc k hkN (B.1.2.2.2.2 _ hlink) (fun _ h9 => hsame ▸ h9) (by rw [sg_fs_at hnf, ht, hv]) hd (kk hc0 hs0 ls H locs hl hP hS)
theorem wa_putI (B : BX dC dI h L mL cc own Ts Z) {C ref : String} {T : u_T} {N ci index a : Nat} (hin : ∀ w ∈ u_ws C T N, w ∈ Ts) (ha : a ∈ L) (hk : h.1 a = ci) (h13 : ci < 13) (hc : vwCl[ci]? = some (C, T, N)) (k : Nat) (hkN : k < N) (hnf : k < sg_nf ci) (hlink : Cond.fieldLink own index ref (T k).2.1 (T k).2.2.1 ∈ Ts) (hsame : (T k).1 = ref) (ht : sg_ty ci k = .int ∨ sg_ty ci k = .boolean) {v : Int32} {ty : FieldType} (ty0 : Nat → FieldType) (hty : ∀ k, k < N → parseFieldDescriptor (T k).2.2.1 = some (ty0 k)) (hnm : ∀ a, a < N → ∀ b, b < N → a ≠ b → (T a).2.1 ≠ (T b).2.1) (hfin : (T k).2.2.2 = false) (hpd : parseFieldDescriptor (T k).2.2.1 = some ty) (hn : narrow ty (.int v) = .int v) (hfit : fits ty (.int v) = true) (hd : decode cc pc = .ok (.putfield index, 3)) (kk : ∀ q2 : Sg, q2 = sg_pI q a k v → WA l dC dI h L R mL Z q2 (pc + 3) lvs rest) : WA l dC dI h L R mL Z q pc lvs (.int v :: .ref a :: rest) := by
  intro hc0 hs0 ls H locs hl hP hS
  refine pl_put (D := (dC, dI)) (v := .int v) B.1.1 B.1.2.1 B.1.2.2.2.2 hin ty0 hty hnm B.1.2.2.2.1 B.2.1 hP B.2.2.1 hS ha (sg_F_o hk h13) hc k hkN (B.1.2.2.2.2 _ hlink) (fun _ h9 => hsame ▸ h9) hfin hpd hn hfit (by rw [sg_fs_len]; exact hnf) hd (fun H1 locs1 hP1 hS1 => ?_)
  rw [sg_upI hk h13 hnf ht] at hP1
  exact kk _ rfl hc0 hs0 ls H1 locs1 hl hP1 hS1
theorem wa_putJ (B : BX dC dI h L mL cc own Ts Z) {C ref : String} {T : u_T} {N ci index a : Nat} (hin : ∀ w ∈ u_ws C T N, w ∈ Ts) (ha : a ∈ L) (hk : h.1 a = ci) (h13 : ci < 13) (hc : vwCl[ci]? = some (C, T, N)) (k : Nat) (hkN : k < N) (hnf : k < sg_nf ci) (hlink : Cond.fieldLink own index ref (T k).2.1 (T k).2.2.1 ∈ Ts) (hsame : (T k).1 = ref) (ht : sg_ty ci k = .long) {v : Int64} {ty : FieldType} (ty0 : Nat → FieldType) (hty : ∀ k, k < N → parseFieldDescriptor (T k).2.2.1 = some (ty0 k)) (hnm : ∀ a, a < N → ∀ b, b < N → a ≠ b → (T a).2.1 ≠ (T b).2.1) (hfin : (T k).2.2.2 = false) (hpd : parseFieldDescriptor (T k).2.2.1 = some ty) (hn : narrow ty (.long v) = .long v) (hfit : fits ty (.long v) = true) (hd : decode cc pc = .ok (.putfield index, 3)) (kk : ∀ q2 : Sg, q2 = sg_pJ q a k v → WA l dC dI h L R mL Z q2 (pc + 3) lvs rest) : WA l dC dI h L R mL Z q pc lvs (.long v :: .ref a :: rest) := by
  intro hc0 hs0 ls H locs hl hP hS
  refine pl_put (D := (dC, dI)) (v := .long v) B.1.1 B.1.2.1 B.1.2.2.2.2 hin ty0 hty hnm B.1.2.2.2.1 B.2.1 hP B.2.2.1 hS ha (sg_F_o hk h13) hc k hkN (B.1.2.2.2.2 _ hlink) (fun _ h9 => hsame ▸ h9) hfin hpd hn hfit (by rw [sg_fs_len]; exact hnf) hd (fun H1 locs1 hP1 hS1 => ?_)
  rw [sg_upJ hk h13 hnf ht] at hP1
  exact kk _ rfl hc0 hs0 ls H1 locs1 hl hP1 hS1
theorem wa_putR (B : BX dC dI h L mL cc own Ts Z) {C ref : String} {T : u_T} {N ci index a : Nat} (hin : ∀ w ∈ u_ws C T N, w ∈ Ts) (ha : a ∈ L) (hk : h.1 a = ci) (h13 : ci < 13) (hc : vwCl[ci]? = some (C, T, N)) (k : Nat) (hkN : k < N) (hnf : k < sg_nf ci) (hlink : Cond.fieldLink own index ref (T k).2.1 (T k).2.2.1 ∈ Ts) (hsame : (T k).1 = ref) (ht : ∀ i j r, sg_v (sg_ty ci k) i j r = .ref r) {v : Nat} {ty : FieldType} (ty0 : Nat → FieldType) (hty : ∀ k, k < N → parseFieldDescriptor (T k).2.2.1 = some (ty0 k)) (hnm : ∀ a, a < N → ∀ b, b < N → a ≠ b → (T a).2.1 ≠ (T b).2.1) (hfin : (T k).2.2.2 = false) (hpd : parseFieldDescriptor (T k).2.2.1 = some ty) (hn : narrow ty (.ref v) = .ref v) (hfit : fits ty (.ref v) = true) (hd : decode cc pc = .ok (.putfield index, 3)) (kk : ∀ q2 : Sg, q2 = sg_pR q a k v → WA l dC dI h L R mL Z q2 (pc + 3) lvs rest) : WA l dC dI h L R mL Z q pc lvs (.ref v :: .ref a :: rest) := by
  intro hc0 hs0 ls H locs hl hP hS
  refine pl_put (D := (dC, dI)) (v := .ref v) B.1.1 B.1.2.1 B.1.2.2.2.2 hin ty0 hty hnm B.1.2.2.2.1 B.2.1 hP B.2.2.1 hS ha (sg_F_o hk h13) hc k hkN (B.1.2.2.2.2 _ hlink) (fun _ h9 => hsame ▸ h9) hfin hpd hn hfit (by rw [sg_fs_len]; exact hnf) hd (fun H1 locs1 hP1 hS1 => ?_)
  rw [sg_upR hk h13 hnf (fun i j => ht i j v)] at hP1
  exact kk _ rfl hc0 hs0 ls H1 locs1 hl hP1 hS1
theorem wa_iaload (B : BX dC dI h L mL cc own Ts Z) {a K : Nat} {i : Int32} (ha : a ∈ L) (hk : h.1 a = K) (h1 : 13 ≤ K) (h2 : K < 200) (i1 : 0 ≤ i.toInt) (i2 : i.toInt < (h.2.1 a : Int)) {v : Int32} (hv : q.2.2.2.1 a i.toNatClampNeg = v) (hd : decode cc pc = .ok (.iaload, 1)) (kk : WA l dC dI h L R mL Z q (pc + 1) lvs (.int v :: rest)) : WA l dC dI h L R mL Z q pc lvs (.int i :: .ref a :: rest) := by
  intro hc0 hs0 ls H locs hl hP hS
  exact pl_iald B.1.1 B.1.2.1 B.2.1 hP ha 0 (sg_F_i hk h1 h2) rfl (vp_in_iff.mpr ⟨by omega, by omega⟩) hd (by rw [hv]; exact kk hc0 hs0 ls H locs hl hP hS)
theorem wa_baload (B : BX dC dI h L mL cc own Ts Z) {a K : Nat} {i : Int32} (ha : a ∈ L) (hk : h.1 a = K) (h1 : 300 ≤ K) (h2 : K < 400) (i1 : 0 ≤ i.toInt) (i2 : i.toInt < (h.2.1 a : Int)) {v : Int32} (hv : q.2.2.2.1 a i.toNatClampNeg = v) (hd : decode cc pc = .ok (.baload, 1)) (kk : WA l dC dI h L R mL Z q (pc + 1) lvs (.int v :: rest)) : WA l dC dI h L R mL Z q pc lvs (.int i :: .ref a :: rest) := by
  intro hc0 hs0 ls H locs hl hP hS
  exact pl_bald B.1.1 B.1.2.1 B.2.1 hP ha 2 (sg_F_b hk h1 h2) rfl (vp_in_iff.mpr ⟨by omega, by omega⟩) hd (by rw [hv]; exact kk hc0 hs0 ls H locs hl hP hS)
theorem wa_laload (B : BX dC dI h L mL cc own Ts Z) {a K : Nat} {i : Int32} (ha : a ∈ L) (hk : h.1 a = K) (h1 : 200 ≤ K) (h2 : K < 300) (i1 : 0 ≤ i.toInt) (i2 : i.toInt < (h.2.1 a : Int)) {v : Int64} (hv : q.2.2.2.2 a i.toNatClampNeg = v) (hd : decode cc pc = .ok (.laload, 1)) (kk : WA l dC dI h L R mL Z q (pc + 1) lvs (.long v :: rest)) : WA l dC dI h L R mL Z q pc lvs (.int i :: .ref a :: rest) := by
  intro hc0 hs0 ls H locs hl hP hS
  exact pl_lald B.1.1 B.1.2.1 B.2.1 hP ha 1 (sg_F_l hk h1 h2) rfl (vp_in_iff.mpr ⟨by omega, by omega⟩) hd (by rw [hv]; exact kk hc0 hs0 ls H locs hl hP hS)
theorem wa_aaload (B : BX dC dI h L mL cc own Ts Z) {a K t0 : Nat} {C : String} {i : Int32} (ha : a ∈ L) (hk : h.1 a = K) (h1 : 400 ≤ K) (ht0 : (sx_tys h)[t0]? = some (h.2.2.1 K, .object C)) (i1 : 0 ≤ i.toInt) (i2 : i.toInt < (h.2.1 a : Int)) {v : Nat} (hv : h.2.2.2 a i.toNatClampNeg = v) (hd : decode cc pc = .ok (.aaload, 1)) (kk : WA l dC dI h L R mL Z q (pc + 1) lvs (.ref v :: rest)) : WA l dC dI h L R mL Z q pc lvs (.int i :: .ref a :: rest) := by
  intro hc0 hs0 ls H locs hl hP hS
  exact pl_aldq B.1.1 B.1.2.1 B.2.1 hP ha t0 (sg_F_q hk h1) ht0 (vp_in_iff.mpr ⟨by omega, by omega⟩) (congrArg some hv) hd (kk hc0 hs0 ls H locs hl hP hS)
theorem wa_aaloadA (B : BX dC dI h L mL cc own Ts Z) {a K t0 : Nat} {tt : FieldType} {i : Int32} (ha : a ∈ L) (hk : h.1 a = K) (h1 : 400 ≤ K) (ht0 : (sx_tys h)[t0]? = some (h.2.2.1 K, .array tt)) (i1 : 0 ≤ i.toInt) (i2 : i.toInt < (h.2.1 a : Int)) {v : Nat} (hv : h.2.2.2 a i.toNatClampNeg = v) (hd : decode cc pc = .ok (.aaload, 1)) (kk : WA l dC dI h L R mL Z q (pc + 1) lvs (.ref v :: rest)) : WA l dC dI h L R mL Z q pc lvs (.int i :: .ref a :: rest) := by
  intro hc0 hs0 ls H locs hl hP hS
  exact pl_aldA B.1.1 B.1.2.1 B.2.1 hP ha t0 (sg_F_q hk h1) ht0 (vp_in_iff.mpr ⟨by omega, by omega⟩) (congrArg some hv) hd (kk hc0 hs0 ls H locs hl hP hS)
theorem wa_iastore (B : BX dC dI h L mL cc own Ts Z) {a K : Nat} {i : Int32} {v : Int32} (ha : a ∈ L) (hk : h.1 a = K) (h1 : 13 ≤ K) (h2 : K < 200) (i1 : 0 ≤ i.toInt) (i2 : i.toInt < (h.2.1 a : Int)) (hd : decode cc pc = .ok (.iastore, 1)) (kk : ∀ q2 : Sg, q2 = sg_pG q a (upd (q.2.2.2.1 a) i.toNatClampNeg v) → WA l dC dI h L R mL Z q2 (pc + 1) lvs rest) : WA l dC dI h L R mL Z q pc lvs (.int v :: .int i :: .ref a :: rest) := by
  intro hc0 hs0 ls H locs hl hP hS
  refine pl_iast B.1.1 B.1.2.1 B.2.1 hP B.2.2.1 hS ha 0 (sg_F_i hk h1 h2) rfl (vp_in_iff.mpr ⟨by omega, by omega⟩) hd (fun H1 locs1 hP1 hS1 => ?_)
  rw [sg_upG hk h1 h2] at hP1
  exact kk _ rfl hc0 hs0 ls H1 locs1 hl hP1 hS1
theorem wa_bastore (B : BX dC dI h L mL cc own Ts Z) {a K : Nat} {i : Int32} {v : Int32} (ha : a ∈ L) (hk : h.1 a = K) (h1 : 300 ≤ K) (h2 : K < 400) (i1 : 0 ≤ i.toInt) (i2 : i.toInt < (h.2.1 a : Int)) (hd : decode cc pc = .ok (.bastore, 1)) (kk : ∀ q2 : Sg, q2 = sg_pG q a (upd (q.2.2.2.1 a) i.toNatClampNeg (vp_nar .byte v)) → WA l dC dI h L R mL Z q2 (pc + 1) lvs rest) : WA l dC dI h L R mL Z q pc lvs (.int v :: .int i :: .ref a :: rest) := by
  intro hc0 hs0 ls H locs hl hP hS
  refine pl_bast B.1.1 B.1.2.1 B.2.1 hP B.2.2.1 hS ha 2 (sg_F_b hk h1 h2) rfl (vp_in_iff.mpr ⟨by omega, by omega⟩) hd (fun H1 locs1 hP1 hS1 => ?_)
  rw [sg_upB hk h1 h2] at hP1
  exact kk _ rfl hc0 hs0 ls H1 locs1 hl hP1 hS1
theorem wa_lastore (B : BX dC dI h L mL cc own Ts Z) {a K : Nat} {i : Int32} {v : Int64} (ha : a ∈ L) (hk : h.1 a = K) (h1 : 200 ≤ K) (h2 : K < 300) (i1 : 0 ≤ i.toInt) (i2 : i.toInt < (h.2.1 a : Int)) (hd : decode cc pc = .ok (.lastore, 1)) (kk : ∀ q2 : Sg, q2 = sg_pL q a (vp_updL (q.2.2.2.2 a) i.toNatClampNeg v) → WA l dC dI h L R mL Z q2 (pc + 1) lvs rest) : WA l dC dI h L R mL Z q pc lvs (.long v :: .int i :: .ref a :: rest) := by
  intro hc0 hs0 ls H locs hl hP hS
  refine pl_last B.1.1 B.1.2.1 B.2.1 hP B.2.2.1 hS ha 1 (sg_F_l hk h1 h2) rfl (vp_in_iff.mpr ⟨by omega, by omega⟩) hd (fun H1 locs1 hP1 hS1 => ?_)
  rw [sg_upL hk h1 h2] at hP1
  exact kk _ rfl hc0 hs0 ls H1 locs1 hl hP1 hS1
theorem wa_alenI (B : BX dC dI h L mL cc own Ts Z) {a K : Nat} (ha : a ∈ L) (hk : h.1 a = K) (h1 : 13 ≤ K) (h2 : K < 200) (hd : decode cc pc = .ok (.arraylength, 1)) (kk : ∀ v : Int32, v = Int32.ofNat (h.2.1 a) → WA l dC dI h L R mL Z q (pc + 1) lvs (.int v :: rest)) : WA l dC dI h L R mL Z q pc lvs (.ref a :: rest) := by
  intro hc0 hs0 ls H locs hl hP hS
  exact pl_alen B.1.1 B.1.2.1 B.2.1 hP ha 0 (sg_F_i hk h1 h2) rfl rfl hd (kk _ rfl hc0 hs0 ls H locs hl hP hS)
theorem wa_alenL (B : BX dC dI h L mL cc own Ts Z) {a K : Nat} (ha : a ∈ L) (hk : h.1 a = K) (h1 : 200 ≤ K) (h2 : K < 300) (hd : decode cc pc = .ok (.arraylength, 1)) (kk : ∀ v : Int32, v = Int32.ofNat (h.2.1 a) → WA l dC dI h L R mL Z q (pc + 1) lvs (.int v :: rest)) : WA l dC dI h L R mL Z q pc lvs (.ref a :: rest) := by
  intro hc0 hs0 ls H locs hl hP hS
  exact pl_alen B.1.1 B.1.2.1 B.2.1 hP ha 1 (sg_F_l hk h1 h2) rfl rfl hd (kk _ rfl hc0 hs0 ls H locs hl hP hS)
theorem wa_alenB (B : BX dC dI h L mL cc own Ts Z) {a K : Nat} (ha : a ∈ L) (hk : h.1 a = K) (h1 : 300 ≤ K) (h2 : K < 400) (hd : decode cc pc = .ok (.arraylength, 1)) (kk : ∀ v : Int32, v = Int32.ofNat (h.2.1 a) → WA l dC dI h L R mL Z q (pc + 1) lvs (.int v :: rest)) : WA l dC dI h L R mL Z q pc lvs (.ref a :: rest) := by
  intro hc0 hs0 ls H locs hl hP hS
  exact pl_alen B.1.1 B.1.2.1 B.2.1 hP ha 2 (sg_F_b hk h1 h2) rfl rfl hd (kk _ rfl hc0 hs0 ls H locs hl hP hS)
theorem wa_tswOut (B : BX dC dI h L mL cc own Ts Z) {dflt lo hi : Int} {offs : Array Int} {len : Nat} {x : Int32} (tgt : Nat) (hd : decode cc pc = .ok (.tableswitch dflt lo hi offs, len)) (hx : x.toInt < lo ∨ hi < x.toInt) (ht : (pc : Int) + dflt = (tgt : Int)) (kk : WA l dC dI h L R mL Z q tgt lvs rest) : WA l dC dI h L R mL Z q pc lvs (.int x :: rest) := by
  intro hc0 hs0 ls H locs hl hP hS
  exact lv_tableOut B.1.1 B.1.2.1 hd hx ht (kk hc0 hs0 ls H locs hl hP hS)
theorem wa_tswIn (B : BX dC dI h L mL cc own Ts Z) {dflt lo hi : Int} {offs : Array Int} {len : Nat} {x : Int32} {off : Int} (tgt : Nat) (n : Int) (hd : decode cc pc = .ok (.tableswitch dflt lo hi offs, len)) (hx : x.toInt = n) (h1 : lo ≤ n) (h2 : n ≤ hi) (ho : offs[(n - lo).toNat]? = some off) (ht : (pc : Int) + off = (tgt : Int)) (kk : WA l dC dI h L R mL Z q tgt lvs rest) : WA l dC dI h L R mL Z q pc lvs (.int x :: rest) := by
  intro hc0 hs0 ls H locs hl hP hS
  exact lv_tableIn B.1.1 B.1.2.1 hd (by omega) (by omega) (by rw [hx]; exact ho) ht (kk hc0 hs0 ls H locs hl hP hS)
theorem wa_gets0 (B : BX dC dI h L mL cc own Ts Z) {index : Nat} (hlink : Cond.fieldLink own index "ClayAccountsModel" "SYSTEM_NAME" "J" ∈ Ts) (hd : decode cc pc = .ok (.getstatic index, 3)) (kk : WA l dC dI h L R mL Z q (pc + 3) lvs (.long 286303963 :: rest)) : WA l dC dI h L R mL Z q pc lvs rest := by
  intro hc0 hs0 ls H locs hl hP hS
  exact va_gets B.1.1 B.1.2.1 B.2.2.2.1 hS B.1.2.2.2.1 (B.1.2.2.2.2 _ hlink) (fun _ h9 => h9) hd (kk hc0 hs0 ls H locs hl hP hS)
theorem wa_gets1 (B : BX dC dI h L mL cc own Ts Z) {index : Nat} (hlink : Cond.fieldLink own index "ClayAccountsModel" "TOTAL_NAME" "J" ∈ Ts) (hd : decode cc pc = .ok (.getstatic index, 3)) (kk : WA l dC dI h L R mL Z q (pc + 3) lvs (.long 10938684 :: rest)) : WA l dC dI h L R mL Z q pc lvs rest := by
  intro hc0 hs0 ls H locs hl hP hS
  exact va_gets B.1.1 B.1.2.1 B.2.2.2.2.1 hS B.1.2.2.2.1 (B.1.2.2.2.2 _ hlink) (fun _ h9 => h9) hd (kk hc0 hs0 ls H locs hl hP hS)
theorem wa_gets2 (B : BX dC dI h L mL cc own Ts Z) {index : Nat} (hlink : Cond.fieldLink own index "ClayAccountsModel" "GRAND_NAME" "J" ∈ Ts) (hd : decode cc pc = .ok (.getstatic index, 3)) (kk : WA l dC dI h L R mL Z q (pc + 3) lvs (.long 4075492 :: rest)) : WA l dC dI h L R mL Z q pc lvs rest := by
  intro hc0 hs0 ls H locs hl hP hS
  exact va_gets B.1.1 B.1.2.1 B.2.2.2.2.2.1 hS B.1.2.2.2.1 (B.1.2.2.2.2 _ hlink) (fun _ h9 => h9) hd (kk hc0 hs0 ls H locs hl hP hS)
theorem wa_mmax (B : BX dC dI h L mL cc own Ts Z) {index : Nat} {x y : Int32} (h1 : Cond.methodLink own index Lib.Math.max.name ∈ Ts) (h2 : Cond.static Lib.Math.max.name ∈ Ts) (h3 : Cond.initialized "java/lang/Math" ∈ Ts) (h4 : Cond.code Lib.Math.max.name Lib.Math.max.code 2 (some .int) ∈ Ts) (hf : 1 ≤ R.frames) (hlo : (rest.map fun v => v.category).sum + 13 ≤ R.locals) (hd : decode cc pc = .ok (.invokestatic index, 3)) (kk : ∀ v : Int32, v = (if x < y then y else x) → WA l dC dI h L R mL Z q (pc + 3) lvs (.int v :: rest)) : WA l dC dI h L R mL Z q pc lvs (.int y :: .int x :: rest) := by
  intro hc0 hs0 ls H locs hl hP hS
  exact va_mmax B.1.1 B.1.2.1 (by rw [B.1.2.2.1]; exact hl.1.symm) B.1.2.2.2.1 (B.1.2.2.2.2 _ h1) (B.1.2.2.2.2 _ h2) (B.1.2.2.2.2 _ h3) (B.1.2.2.2.2 _ h4) hf hlo hc0 hs0 hd (lv_topi (fun v e => kk v e hc0 hs0 ls H locs hl hP hS))
theorem wa_mmin (B : BX dC dI h L mL cc own Ts Z) {index : Nat} {x y : Int32} (h1 : Cond.methodLink own index Lib.Math.min.name ∈ Ts) (h2 : Cond.static Lib.Math.min.name ∈ Ts) (h3 : Cond.initialized "java/lang/Math" ∈ Ts) (h4 : Cond.code Lib.Math.min.name Lib.Math.min.code 2 (some .int) ∈ Ts) (hf : 1 ≤ R.frames) (hlo : (rest.map fun v => v.category).sum + 13 ≤ R.locals) (hd : decode cc pc = .ok (.invokestatic index, 3)) (kk : ∀ v : Int32, v = (if y < x then y else x) → WA l dC dI h L R mL Z q (pc + 3) lvs (.int v :: rest)) : WA l dC dI h L R mL Z q pc lvs (.int y :: .int x :: rest) := by
  intro hc0 hs0 ls H locs hl hP hS
  exact va_mmin B.1.1 B.1.2.1 (by rw [B.1.2.2.1]; exact hl.1.symm) B.1.2.2.2.1 (B.1.2.2.2.2 _ h1) (B.1.2.2.2.2 _ h2) (B.1.2.2.2.2 _ h3) (B.1.2.2.2.2 _ h4) hf hlo hc0 hs0 hd (lv_topi (fun v e => kk v e hc0 hs0 ls H locs hl hP hS))
theorem wa_mmax_long (B : BX dC dI h L mL cc own Ts Z) {index : Nat} {x y : Int64} (h1 : Cond.methodLink own index Lib.MathLoose.max_long.x ∈ Ts) (h2 : Cond.static Lib.MathLoose.max_long.x ∈ Ts) (h3 : Cond.initialized "java/lang/Math" ∈ Ts) (h4 : Cond.code Lib.MathLoose.max_long.x Lib.MathLoose.max_long.code 4 (some .long) ∈ Ts) (hf : 1 ≤ R.frames) (hlo : (rest.map fun v => v.category).sum + 15 ≤ R.locals) (hd : decode cc pc = .ok (.invokestatic index, 3)) (kk : ∀ v : Int64, v = (if y < x then x else y) → WA l dC dI h L R mL Z q (pc + 3) lvs (.long v :: rest)) : WA l dC dI h L R mL Z q pc lvs (.long y :: .long x :: rest) := by
  intro hc0 hs0 ls H locs hl hP hS
  exact va_mmax_long B.1.1 B.1.2.1 (by rw [B.1.2.2.1]; exact hl.1.symm) B.1.2.2.2.1 (B.1.2.2.2.2 _ h1) (B.1.2.2.2.2 _ h2) (B.1.2.2.2.2 _ h3) (B.1.2.2.2.2 _ h4) hf hlo hc0 hs0 hd (lv_topl (fun v e => kk v e hc0 hs0 ls H locs hl hP hS))
theorem wa_mmin_long (B : BX dC dI h L mL cc own Ts Z) {index : Nat} {x y : Int64} (h1 : Cond.methodLink own index Lib.MathLoose.min_long.x ∈ Ts) (h2 : Cond.static Lib.MathLoose.min_long.x ∈ Ts) (h3 : Cond.initialized "java/lang/Math" ∈ Ts) (h4 : Cond.code Lib.MathLoose.min_long.x Lib.MathLoose.min_long.code 4 (some .long) ∈ Ts) (hf : 1 ≤ R.frames) (hlo : (rest.map fun v => v.category).sum + 15 ≤ R.locals) (hd : decode cc pc = .ok (.invokestatic index, 3)) (kk : ∀ v : Int64, v = (if y < x then y else x) → WA l dC dI h L R mL Z q (pc + 3) lvs (.long v :: rest)) : WA l dC dI h L R mL Z q pc lvs (.long y :: .long x :: rest) := by
  intro hc0 hs0 ls H locs hl hP hS
  exact va_mmin_long B.1.1 B.1.2.1 (by rw [B.1.2.2.1]; exact hl.1.symm) B.1.2.2.2.1 (B.1.2.2.2.2 _ h1) (B.1.2.2.2.2 _ h2) (B.1.2.2.2.2 _ h3) (B.1.2.2.2.2 _ h4) hf hlo hc0 hs0 hd (lv_topl (fun v e => kk v e hc0 hs0 ls H locs hl hP hS))
theorem pl_recv {s : State} {H : Heap} (hK : va_K (dC, dI) vwCl (sx_tys h) s) (hP : va_P (dC, dI) vwCl (va_pl L (sg_F h q)) H) {b ci : Nat} (hb : b ∈ L) (hk : h.1 b = ci) (hc : ci < 13) {x : vw_C} (hx : vwCl[ci]? = some x) : ∃ cell : Cell, H[b]? = some cell ∧ cell.vm.isStatics = false ∧ s.vm.findClass x.1 = some cell.cls := by
  obtain ⟨k, hk2⟩ := pl_at (f := sg_F h q) hb (sg_F_o hk hc)
  exact va_recv hK hP hx hk2
theorem wa_callVi (B : BX dC dI h L mL cc own Ts Z) {b ci n index maxL : Nat} {x : vw_C} {y : MethodName} {bytes : ByteArray} {ret : Option FieldType} {ws : List Cond} {rm : Room} {As st : List Value} {post : Int32 → Sg → Prop} (hM : CMi l dC dI h L y ws rm q (.ref b :: As) post) (cw : CallW R Z.2.2.1 Z.2.2.2.2.1 own x.1 index y bytes maxL ret ws rm 0 0 n) (hbL : b ∈ L) (hk : h.1 b = ci) (hci : ci < 13) (hx : vwCl[ci]? = some x) (hn : As.length = n) (hst : st = As.reverse ++ .ref b :: rest) (hW : (rest.map fun v => v.category).sum ≤ 8) (hd : decode cc pc = .ok (.invokevirtual index, 3)) (kk : ∀ (r : Int32) (q2 : Sg), post r q2 → WA l dC dI h L R mL Z q2 (pc + 3) lvs (.int r :: rest)) : WA l dC dI h L R mL Z q pc lvs st := by
  intro hc0 hs0 ls H locs hl hP hS
  subst hst
  refine va_calli (va_runV (As := As) (rest := rest) B.1 (hM H.size) cw ⟨fun a U g mk z => by obtain ⟨z0, z1, zP, zK, zZ⟩ := z; exact ⟨z0, z1, zP, va_K.moved (u := U) (U := U.calling g mk a) (Vm.Alike.refl U.vm) zK, zZ.calling⟩, pl_recv B.2.1 hP hbL hk hci hx, fun U hU hW9 => ⟨rfl, by rw [hU], by rw [hU]; exact hP, va_K.moved hW9.alike B.2.1, B.2.2.2.enter hU hW9 hS (AL_sub hS)⟩⟩ rfl hn hl.1 rfl (lv_room hW) hd ⟨hc0, hs0⟩) hS (fun a _ z => AL_sub hS a z) (AL_sub hS) (fun r u t H1 locs1 ht hvm hw hB _ _ hS1 => ?_)
  unfold sx_at at hB
  rw [ht] at hB
  exact kk r u hw hc0 hs0 ls H1 locs1 hl hB hS1
theorem wa_callVv (B : BX dC dI h L mL cc own Ts Z) {b ci n index maxL : Nat} {x : vw_C} {y : MethodName} {bytes : ByteArray} {ret : Option FieldType} {ws : List Cond} {rm : Room} {As st : List Value} {post : Sg → Prop} (hM : CMv l dC dI h L y ws rm q (.ref b :: As) post) (cw : CallW R Z.2.2.1 Z.2.2.2.2.1 own x.1 index y bytes maxL ret ws rm 0 0 n) (hbL : b ∈ L) (hk : h.1 b = ci) (hci : ci < 13) (hx : vwCl[ci]? = some x) (hn : As.length = n) (hst : st = As.reverse ++ .ref b :: rest) (hW : (rest.map fun v => v.category).sum ≤ 8) (hd : decode cc pc = .ok (.invokevirtual index, 3)) (kk : ∀ q2 : Sg, post q2 → WA l dC dI h L R mL Z q2 (pc + 3) lvs (rest)) : WA l dC dI h L R mL Z q pc lvs st := by
  intro hc0 hs0 ls H locs hl hP hS
  subst hst
  refine va_callv (va_runV (As := As) (rest := rest) B.1 (hM H.size) cw ⟨fun a U g mk z => by obtain ⟨z0, z1, zP, zK, zZ⟩ := z; exact ⟨z0, z1, zP, va_K.moved (u := U) (U := U.calling g mk a) (Vm.Alike.refl U.vm) zK, zZ.calling⟩, pl_recv B.2.1 hP hbL hk hci hx, fun U hU hW9 => ⟨rfl, by rw [hU], by rw [hU]; exact hP, va_K.moved hW9.alike B.2.1, B.2.2.2.enter hU hW9 hS (AL_sub hS)⟩⟩ rfl hn hl.1 rfl (lv_room hW) hd ⟨hc0, hs0⟩) hS (fun a _ z => AL_sub hS a z) (AL_sub hS) (fun u t H1 locs1 ht hvm hw hB _ _ hS1 => ?_)
  unfold sx_at at hB
  rw [ht] at hB
  exact kk u hw hc0 hs0 ls H1 locs1 hl hB hS1
theorem wa_callVr (B : BX dC dI h L mL cc own Ts Z) {b ci n index maxL : Nat} {x : vw_C} {y : MethodName} {bytes : ByteArray} {ret : Option FieldType} {ws : List Cond} {rm : Room} {As st : List Value} {post : Nat → Sg → Prop} (hM : CMr l dC dI h L y ws rm q (.ref b :: As) post) (cw : CallW R Z.2.2.1 Z.2.2.2.2.1 own x.1 index y bytes maxL ret ws rm 0 0 n) (hbL : b ∈ L) (hk : h.1 b = ci) (hci : ci < 13) (hx : vwCl[ci]? = some x) (hn : As.length = n) (hst : st = As.reverse ++ .ref b :: rest) (hW : (rest.map fun v => v.category).sum ≤ 8) (hd : decode cc pc = .ok (.invokevirtual index, 3)) (kk : ∀ (r : Nat) (q2 : Sg), post r q2 → WA l dC dI h L R mL Z q2 (pc + 3) lvs (.ref r :: rest)) : WA l dC dI h L R mL Z q pc lvs st := by
  intro hc0 hs0 ls H locs hl hP hS
  subst hst
  refine va_callr (va_runV (As := As) (rest := rest) B.1 (hM H.size) cw ⟨fun a U g mk z => by obtain ⟨z0, z1, zP, zK, zZ⟩ := z; exact ⟨z0, z1, zP, va_K.moved (u := U) (U := U.calling g mk a) (Vm.Alike.refl U.vm) zK, zZ.calling⟩, pl_recv B.2.1 hP hbL hk hci hx, fun U hU hW9 => ⟨rfl, by rw [hU], by rw [hU]; exact hP, va_K.moved hW9.alike B.2.1, B.2.2.2.enter hU hW9 hS (AL_sub hS)⟩⟩ rfl hn hl.1 rfl (lv_room hW) hd ⟨hc0, hs0⟩) hS (fun a _ z => AL_sub hS a z) (AL_sub hS) (fun u r t H1 locs1 ht hvm hw hB _ _ hS1 => ?_)
  obtain ⟨hw, hB⟩ := hB
  unfold sx_at at hB
  rw [ht] at hB
  exact kk r u hw hc0 hs0 ls H1 locs1 hl hB hS1
theorem wa_callSi (B : BX dC dI h L mL cc own Ts Z) {n index maxL : Nat} {y : MethodName} {bytes : ByteArray} {ret : Option FieldType} {ws : List Cond} {rm : Room} {As st : List Value} {post : Int32 → Sg → Prop} (hM : CMi l dC dI h L y ws rm q As post) (cw : CallB R Z.2.2.1 Z.2.2.2.2.1 own index y bytes maxL ret ws rm 0 0 n ∧ (Cond.static y).before Z.2.2.2.2.1 Z.2.2.1 = true) (hn : As.length = n) (hst : st = As.reverse ++ rest) (hW : (rest.map fun v => v.category).sum ≤ 8) (hd : decode cc pc = .ok (.invokestatic index, 3)) (kk : ∀ (r : Int32) (q2 : Sg), post r q2 → WA l dC dI h L R mL Z q2 (pc + 3) lvs (.int r :: rest)) : WA l dC dI h L R mL Z q pc lvs st := by
  intro hc0 hs0 ls H locs hl hP hS
  subst hst
  refine va_calli (va_runS (As := As) (rest := rest) B.1 (hM H.size) cw ⟨fun a U g mk z => by obtain ⟨z0, z1, zP, zK, zZ⟩ := z; exact ⟨z0, z1, zP, va_K.moved (u := U) (U := U.calling g mk a) (Vm.Alike.refl U.vm) zK, zZ.calling⟩, fun U hU hW9 => ⟨rfl, by rw [hU], by rw [hU]; exact hP, va_K.moved hW9.alike B.2.1, B.2.2.2.enter hU hW9 hS (AL_sub hS)⟩⟩ rfl hn hl.1 rfl (lv_room hW) hd ⟨hc0, hs0⟩) hS (fun a _ z => AL_sub hS a z) (AL_sub hS) (fun r u t H1 locs1 ht hvm hw hB _ _ hS1 => ?_)
  unfold sx_at at hB
  rw [ht] at hB
  exact kk r u hw hc0 hs0 ls H1 locs1 hl hB hS1
theorem wa_callSv (B : BX dC dI h L mL cc own Ts Z) {n index maxL : Nat} {y : MethodName} {bytes : ByteArray} {ret : Option FieldType} {ws : List Cond} {rm : Room} {As st : List Value} {post : Sg → Prop} (hM : CMv l dC dI h L y ws rm q As post) (cw : CallB R Z.2.2.1 Z.2.2.2.2.1 own index y bytes maxL ret ws rm 0 0 n ∧ (Cond.static y).before Z.2.2.2.2.1 Z.2.2.1 = true) (hn : As.length = n) (hst : st = As.reverse ++ rest) (hW : (rest.map fun v => v.category).sum ≤ 8) (hd : decode cc pc = .ok (.invokestatic index, 3)) (kk : ∀ q2 : Sg, post q2 → WA l dC dI h L R mL Z q2 (pc + 3) lvs (rest)) : WA l dC dI h L R mL Z q pc lvs st := by
  intro hc0 hs0 ls H locs hl hP hS
  subst hst
  refine va_callv (va_runS (As := As) (rest := rest) B.1 (hM H.size) cw ⟨fun a U g mk z => by obtain ⟨z0, z1, zP, zK, zZ⟩ := z; exact ⟨z0, z1, zP, va_K.moved (u := U) (U := U.calling g mk a) (Vm.Alike.refl U.vm) zK, zZ.calling⟩, fun U hU hW9 => ⟨rfl, by rw [hU], by rw [hU]; exact hP, va_K.moved hW9.alike B.2.1, B.2.2.2.enter hU hW9 hS (AL_sub hS)⟩⟩ rfl hn hl.1 rfl (lv_room hW) hd ⟨hc0, hs0⟩) hS (fun a _ z => AL_sub hS a z) (AL_sub hS) (fun u t H1 locs1 ht hvm hw hB _ _ hS1 => ?_)
  unfold sx_at at hB
  rw [ht] at hB
  exact kk u hw hc0 hs0 ls H1 locs1 hl hB hS1
theorem wa_callSr (B : BX dC dI h L mL cc own Ts Z) {n index maxL : Nat} {y : MethodName} {bytes : ByteArray} {ret : Option FieldType} {ws : List Cond} {rm : Room} {As st : List Value} {post : Nat → Sg → Prop} (hM : CMr l dC dI h L y ws rm q As post) (cw : CallB R Z.2.2.1 Z.2.2.2.2.1 own index y bytes maxL ret ws rm 0 0 n ∧ (Cond.static y).before Z.2.2.2.2.1 Z.2.2.1 = true) (hn : As.length = n) (hst : st = As.reverse ++ rest) (hW : (rest.map fun v => v.category).sum ≤ 8) (hd : decode cc pc = .ok (.invokestatic index, 3)) (kk : ∀ (r : Nat) (q2 : Sg), post r q2 → WA l dC dI h L R mL Z q2 (pc + 3) lvs (.ref r :: rest)) : WA l dC dI h L R mL Z q pc lvs st := by
  intro hc0 hs0 ls H locs hl hP hS
  subst hst
  refine va_callr (va_runS (As := As) (rest := rest) B.1 (hM H.size) cw ⟨fun a U g mk z => by obtain ⟨z0, z1, zP, zK, zZ⟩ := z; exact ⟨z0, z1, zP, va_K.moved (u := U) (U := U.calling g mk a) (Vm.Alike.refl U.vm) zK, zZ.calling⟩, fun U hU hW9 => ⟨rfl, by rw [hU], by rw [hU]; exact hP, va_K.moved hW9.alike B.2.1, B.2.2.2.enter hU hW9 hS (AL_sub hS)⟩⟩ rfl hn hl.1 rfl (lv_room hW) hd ⟨hc0, hs0⟩) hS (fun a _ z => AL_sub hS a z) (AL_sub hS) (fun u r t H1 locs1 ht hvm hw hB _ _ hS1 => ?_)
  obtain ⟨hw, hB⟩ := hB
  unfold sx_at at hB
  rw [ht] at hB
  exact kk r u hw hc0 hs0 ls H1 locs1 hl hB hS1
theorem WA.cast {q2 : Sg} {lv2 : List (Nat × Value)} {st st2 : List Value} (hq : q2 = q) (hl2 : lv2 = lvs) (hs : st2 = st) (k : WA l dC dI h L R mL Z q2 pc lv2 st2) : WA l dC dI h L R mL Z q pc lvs st := by
  rw [← hq, ← hl2, ← hs]
  exact k
theorem WA.sub {lv2 : List (Nat × Value)} {st : List Value} (ks : List Nat) (hp : lv_pick lvs ks = lv2) (k : WA l dC dI h L R mL Z q pc lv2 st) : WA l dC dI h L R mL Z q pc lvs st := fun hc0 hs0 ls H locs hl hP hS => k hc0 hs0 ls H locs (lv_sub hl ks hp) hP hS
end RU
theorem zx_and255 (x : Int32) : 0 ≤ (x &&& 255).toInt ∧ (x &&& 255).toInt ≤ 255 := by
  obtain ⟨j, hj, e⟩ := pk_andE x (m := 255) 8 (by decide)
  rw [e, nI_toInt (by omega)]
  omega
theorem zx_bd (x : Int32) : -2147483648 ≤ x.toInt ∧ x.toInt < 2147483648 := ⟨Int32.le_toInt x, Int32.toInt_lt x⟩
theorem zx_01 {r : Int32} (h : r.toInt = 0 ∨ r.toInt = 1) : r = 0 ∨ r = 1 := h.elim (fun z => Or.inl (zx_eq.mpr z)) (fun z => Or.inr (zx_eq.mpr z))
theorem zx_max {x y : Int32} : ((if x < y then y else x).toInt = x.toInt ∨ (if x < y then y else x).toInt = y.toInt) ∧ x.toInt ≤ (if x < y then y else x).toInt ∧ y.toInt ≤ (if x < y then y else x).toInt := by
  by_cases h : x < y
  · rw [if_pos h]
    have := zx_lt.mp h
    omega
  · rw [if_neg h]
    have : ¬ x.toInt < y.toInt := fun z => h (zx_lt.mpr z)
    omega
theorem zx_min {x y : Int32} : ((if y < x then y else x).toInt = x.toInt ∨ (if y < x then y else x).toInt = y.toInt) ∧ x.toInt ≥ (if y < x then y else x).toInt ∧ y.toInt ≥ (if y < x then y else x).toInt := by
  by_cases h : y < x
  · rw [if_pos h]
    have := zx_lt.mp h
    omega
  · rw [if_neg h]
    have : ¬ y.toInt < x.toInt := fun z => h (zx_lt.mpr z)
    omega
def sx_ck (k : Nat) : Prop := k < 12 ∨ (100 ≤ k ∧ k < 110) ∨ (200 ≤ k ∧ k < 210) ∨ 300 ≤ k
def sx_mk (k : Nat) : Prop := k = 12 ∨ (110 ≤ k ∧ k < 200) ∨ (210 ≤ k ∧ k < 300)
theorem zx_len {n : Nat} (hn : n ≤ 5000) : (Int32.ofNat n).toInt = (n : Int) := nI_toInt (by omega)
theorem zx_andle {x y : Int32} (hx : 0 ≤ x.toInt) : 0 ≤ (x &&& y).toInt ∧ (x &&& y).toInt ≤ x.toInt := by
  have h1 : x.toInt = (x.toBitVec.toNat : Int) := by
    show x.toBitVec.toInt = _
    rw [BitVec.toInt_eq_toNat_of_msb]
    exact (BitVec.msb_eq_false_iff_two_mul_lt).mpr (by have : x.toBitVec.toInt = x.toInt := rfl; have h2 := BitVec.toInt_eq_toNat_cond x.toBitVec; have h3 := x.toBitVec.isLt; split at h2 <;> omega)
  have h4 : (x &&& y).toBitVec.toNat ≤ x.toBitVec.toNat := by
    rw [Int32.toBitVec_and, BitVec.toNat_and]
    exact Nat.and_le_left
  have h5 : (x &&& y).toInt = ((x &&& y).toBitVec.toNat : Int) := by
    show (x &&& y).toBitVec.toInt = _
    have h6 : x.toBitVec.toNat < 2147483648 := by
      have h2 := BitVec.toInt_eq_toNat_cond x.toBitVec
      have : x.toBitVec.toInt = x.toInt := rfl
      have h3 := x.toBitVec.isLt
      split at h2 <;> omega
    rw [BitVec.toInt_eq_toNat_cond, if_pos (by omega)]
  omega
theorem zx_ix {i : Int32} {n : Nat} (h1 : 0 ≤ i.toInt) (h2 : i.toInt < (n : Int)) : i.toNatClampNeg < n := Nat.not_le.mp fun z => (vp_in_iff.mpr ⟨by omega, by omega⟩ : vp_in i n) (Or.inr z)
theorem zx_add {x y : Int32} (h1 : -2147483648 ≤ x.toInt + y.toInt) (h2 : x.toInt + y.toInt < 2147483648) : (x + y).toInt = x.toInt + y.toInt := by
  rw [Int32.toInt_add, Int.bmod_eq_of_le (by omega) (by omega)]
theorem zx_sub {x y : Int32} (h1 : -2147483648 ≤ x.toInt - y.toInt) (h2 : x.toInt - y.toInt < 2147483648) : (x - y).toInt = x.toInt - y.toInt := by
  rw [Int32.toInt_sub, Int.bmod_eq_of_le (by omega) (by omega)]
theorem zx_mul {x y : Int32} (h1 : -2147483648 ≤ x.toInt * y.toInt) (h2 : x.toInt * y.toInt < 2147483648) : (x * y).toInt = x.toInt * y.toInt := by
  rw [Int32.toInt_mul, Int.bmod_eq_of_le (by omega) (by omega)]
