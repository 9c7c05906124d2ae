section CR6
variable {l : Launch} {dC : Nat → ClassId} {dI : Nat → Nat → Nat} {cT : Nat → ClassId} {R : Room} {mL : Nat} {cc : ByteArray} {own : String} {Ts : List Cond} {A : Nat → Prop} {Z : Zt} {X X2 : va_W} {L : List Nat} {h : Sh} {q : Sg} {cells slots pc : Nat} {lvs : List (Nat × Value)} {rest : List Value}
/-- an object of the pool into an array of references that still lies raw -/
theorem wc_aast (B : BC dC dI cT mL cc own Ts A Z) (q0 t0 K : Nat) {a v n ci : Nat} {r : vw_C} {f : Nat → Option Nat} {i : Int32} (he : X[q0]? = some (a, .inl (cT K, n, .inr (.inr (.inr (.inr f)))))) (ht : (cc_tys cT)[t0]? = some (cT K, .object r.1)) (hv : v ∈ L) (hk : h.1 v = ci) (hci : ci < 13) (hc : vwCl[ci]? = some r) (hin : vp_in i n) (hX2 : X.set q0 (a, .inl (cT K, n, .inr (.inr (.inr (.inr (va_up f i.toNatClampNeg (some v))))))) = X2) (hd : decode cc pc = .ok (.aastore, 1)) (kk : WC l dC dI R mL Z A X2 L h q cells slots (pc + 1) lvs rest) : WC l dC dI R mL Z A X L h q cells slots pc lvs (.ref v :: .int i :: .ref a :: rest) := by
  intro ls H locs hl hP hD hS
  obtain ⟨k, hk2⟩ := pl_at (f := sg_F h q) hv (sg_F_o hk hci)
  have hv2 : (X ++ va_pl L (sg_F h q))[X.length + k]? = some (v, .inr (ci, sg_fs q ci v)) := by
    rw [List.getElem?_append_right (by omega), Nat.add_sub_cancel_left]
    exact hk2
  refine va_astq (D := (dC, dI)) (r := r) B.1.1 B.1.2.1 B.2.1 hP hD hS q0 t0 (X.length + k) ci (wc_at he) ht hv2 hc hin hd (fun H1 locs1 hP1 hD1 hS1 => ?_)
  rw [wc_set he, hX2] at hP1 hD1
  exact kk ls H1 locs1 hl hP1 hD1 hS1
end CR6
