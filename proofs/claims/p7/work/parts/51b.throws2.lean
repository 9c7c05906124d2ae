/-! As 51.throws, and the throw has its reason. -/
def CMy (l : Launch) (dC : Nat → ClassId) (dI : Nat → Nat → Nat) (h : Sh) (L : List Nat) (y : MethodName) (ws : List Cond) (rm : Room) (q : Sg) (av : List Value) (thr : Prop) (post : Int32 → Sg → Prop) : Prop :=
  ∀ sz : Nat, vx_Met l y ws rm (sx_pre dC dI h L q av sz) (va_Qi post (sx_at dC dI h L) (AL L sz)) (vx_X (fun (_ : Unit) => True) (fun (E : String) (_ : Unit) (t : State) => (E = "java/util/NoSuchElementException" ∧ thr) ∧ sx_at dC dI h L q t) (AL L sz)) 1 6 (AL L sz)
theorem cm_y {l : Launch} {dC : Nat → ClassId} {dI : Nat → Nat → Nat} {h : Sh} {L : List Nat} {R : Room} {mL : Nat} {cc : ByteArray} {ws ws' : List Cond} {q : Sg} {av : List Value} {y : MethodName} {thr : Prop} {post : Int32 → Sg → Prop} {is : Nat} {text : String} (hlst : l.stackTraces = false) (hN : sx_nd L) (hy : plainName y.cls = true) (hw : ws = Cond.code y cc mL (some .int) :: ws') (ho : y.cls = RX11) (hmL : (lg_sl av).length ≤ mL)
    (hR : 5 < R.frames ∧ 82 ≤ R.locals ∧ 1 ≤ R.cells ∧ 6 ≤ R.slots) (h1 : Cond.classLink RX11 135 zt_N ∈ ws) (h2 : Cond.initialized zt_N ∈ ws) (h3 : ∀ w ∈ (zt_at RX11 139).filter goodWord, w ∈ ws) (hz : ∀ (A : Nat → Prop) (U : State), ZZ A U → ∃ sr : Nat, vk_R RX11 is text sr U)
    (body : ∀ Z : Zt, BX dC dI h L mL cc RX11 ws Z → (∀ (r : Int32) (q' : Sg) (pc : Nat) (lvs : List (Nat × Value)), decode cc pc = .ok (.ireturn, 1) → post r q' → WA l dC dI h L R mL Z q' pc lvs [.int r]) →
      (∀ (pc : Nat) (lvs : List (Nat × Value)), thr → decode cc pc = .ok (.new 135, 3) → decode cc (pc + 3) = .ok (.dup, 1) → decode cc (pc + 4) = .ok (.ldc is, 2) → decode cc (pc + 6) = .ok (.invokespecial 139, 3) → decode cc (pc + 9) = .ok (.athrow, 1) → WA l dC dI h L R mL Z q pc lvs []) → WA l dC dI h L R mL Z q 0 (lv_args 0 av) []) : CMy l dC dI h L y ws R q av thr post := by
  intro sz
  refine vx_ofW (cc := cc) (maxL := mL) (ret := some .int) hy hw ?_
  intro p e s m args below meth c s₁ B hml hnx hv
  obtain ⟨rfl, hsz, hP, hK, hZ⟩ := hv
  subst hsz
  have hlocks := B.notSynchronized
  have hts := atoms_spec (ws := ws) B.pre
  have hown : s.vm.findClass RX11 = some m.cls := ho ▸ findClass_of_methodNamed B.named
  rw [lg_entry_eq]
  refine body (p, e, s, m, _, below, meth, c, _, 0, 0) ⟨⟨B.exec, B.bytes, hml, hown, hts⟩, hK, AL_D hN _, hZ⟩ ?_ ?_ (Nat.zero_le _) (Nat.zero_le _) _ _ _ (lv_entry av hmL) hP va_S.rf
  · intro r q' pc lvs hd hp _ _ ls H locs hl hP hS
    refine W.widen (k := 1) (n := 6) (Nat.zero_le _) (Nat.zero_le _) ?_
    exact vx_ret (W.iret (v := r) B.exec B.bytes B.returns (fun t ht hW => ⟨⟨r, q', rfl, hp, by unfold sx_at; rw [ht]; exact hP⟩, hS.F ht⟩) hS.2.2 hd)
  · intro pc lvs hthr9 d0 d3 d4 d6 d9 _ _ ls H locs hl hP hS
    obtain ⟨sr, hsr⟩ := hz _ _ hZ
    have hzC : zz_TH s := hZ.2.2.2.2.2.1
    exact zt_throw (ik := 135) (is := is) (ic := 139) (A := AL L s.heap.size) B.exec B.bytes hlst hown (hts _ h1) (hts _ h2) hsr (vx_hat (fun w hh => hts w (h3 w hh)) zz_ng (vx_c (va_Nw.use rfl hzC.2.1) (vx_c (va_Nw.use rfl hzC.2.2.1) (vx_c (va_Nw.use rfl hzC.2.2.2) vx_n)))) zz_gw hZ.2.2.2.1 hZ.2.2.2.2.1 hS (by rw [hml]; exact hl.1) d0 d3 d4 d6 d9 (fun x9 h9 => (hnx x9 h9).elim) hR.1 (show 0 + 82 ≤ R.locals by omega) (show 0 + 1 ≤ R.cells by omega) (show 0 + 6 ≤ R.slots by omega) hlocks (fun t hv9 hz9 hq9 => ⟨(), trivial, ⟨⟨rfl, hthr9⟩, pl_kept hP hq9⟩, Nat.le_trans hS.1 hz9, fun a b1 b2 => (hq9 a (Nat.lt_of_lt_of_le b1 hS.1)).trans (hS.2.1 a b1 b2)⟩) hS.2.2 (Nat.le_of_ble_eq_true rfl) (Nat.le_of_ble_eq_true rfl)
