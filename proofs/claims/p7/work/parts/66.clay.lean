theorem wc_er : ∀ (X : va_W) (q0 : Nat) (x : Nat × va_E), X[q0]? = some x → (x :: X.eraseIdx q0).Perm X
  | [], _, _, h => by cases h
  | y :: X, 0, x, h => by
    have e : y = x := Option.some.inj h
    subst e
    exact List.Perm.refl _
  | y :: X, k + 1, x, h => (List.Perm.swap y x (X.eraseIdx k)).trans ((wc_er X k x h).cons y)
theorem wc_erase {X : va_W} {q0 : Nat} {x : Nat × va_E} {P : va_W} (he : X[q0]? = some x) : (X ++ P).Perm (X.eraseIdx q0 ++ (P ++ [x])) := by
  have h1 : (x :: X.eraseIdx q0).Perm X := wc_er X q0 x he
  refine (List.Perm.append_right P h1).symm.trans ?_
  rw [← List.append_assoc]
  exact (List.perm_append_singleton x (X.eraseIdx q0 ++ P)).symm
section CR3
variable {l : Launch} {dC : Nat → ClassId} {dI : Nat → Nat → Nat} {cT : Nat → ClassId} {R : Room} {mL : Nat} {cc : ByteArray} {own : String} {Ts : List Cond} {A : Nat → Prop} {Z : Zt} {X X2 : va_W} {L : List Nat} {h : Sh} {q : Sg} {cells slots pc : Nat} {lvs : List (Nat × Value)} {st : List Value}
/-- a raw cell is laid into the pool -/
theorem wc_lay (q0 : Nat) {a : Nat} {e : va_E} (he : X[q0]? = some (a, e)) (hX2 : X.eraseIdx q0 = X2) (K n : Nat) (Rr : Nat → Nat) (I : Nat → Int32) (J : Nat → Int64) (Rf : Nat → Nat) (G : Nat → Int32) (M : Nat → Int64) (hsg : sg_F (gp_h h a K n Rr) (gp_q q a I J Rf G M) a = e) (kk : a ∉ L → WC l dC dI R mL Z A X2 (L ++ [a]) (gp_h h a K n Rr) (gp_q q a I J Rf G M) cells slots pc lvs st) : WC l dC dI R mL Z A X L h q cells slots pc lvs st := by
  intro ls H locs hl hP hD hS
  have hP1 := wc_permP (wc_erase he) hP
  have hD1 := wc_permD (wc_erase he) hD
  rw [hX2] at hP1 hD1
  have ha : a ∉ L := cc_new (by rw [← List.append_assoc] at hD1; exact hD1)
  rw [gp_pl ha hsg] at hP1 hD1
  exact kk ha ls H locs hl hP1 hD1 hS
end CR3
