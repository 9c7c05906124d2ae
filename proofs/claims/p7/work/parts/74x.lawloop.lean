theorem zx_and31 (x : Int32) : 0 ≤ (x &&& 31).toInt ∧ (x &&& 31).toInt ≤ 31 := by
  obtain ⟨j, hj, e⟩ := pk_andE x (m := 31) 5 (by decide)
  rw [e, nI_toInt (by omega)]
  omega
set_option maxHeartbeats 4000000 in
set_option maxRecDepth 100000 in
theorem law_loop {p : Program} {e : Env} {s : State} {m : MethodId} {below : List Frame} {meth : Method} {c : Code} (l : Launch) (hlst : l.stackTraces = false) (dC : Nat → ClassId) (dI : Nat → Nat → Nat) (h : Sh) (L : List Nat) (hN : sx_nd L) {b N : Nat} {xs : Nat → Int32} (C0 : lw_At p s m meth c b N xs) (hK : va_K (dC, dI) vwCl (sx_tys h) s) (hZ : ZZ (AL L s.heap.size) s) (hLs : ∀ a, a ∈ L → s.heap.size ≤ a) (hN2 : N ≤ 3072) {x0 a0 ot t0 tb fa : Nat} (hfd : lc_fd h fa) {mm : Nat → Nat} (hx0 : x0 ∈ L) (kx0 : h.1 x0 = 11) (ha0 : a0 ∈ L) (ka0 : h.1 a0 = 12) (hot : ot ∈ L) (kot : h.1 ot = 200) (lot : h.2.1 ot = 1) :
    ∀ (n : Nat) (i : Int32) (cells slots : Nat) (q : Sg), ((N : Int) - i.toInt).toNat < n → 0 ≤ i.toInt → (cells : Int) * 6 ≤ 3000 + i.toInt → (slots : Int) ≤ 30000 + i.toInt → i.toInt ≤ (N : Int) + 5 → lc_I8 h L x0 a0 t0 tb fa mm q → WA l dC dI h L room_1 7 (p, e, s, m, #[Value.ref b], below, meth, c, lw_Z below #[Value.ref b] s, cells, slots) q 23 [(4, .int i), (3, .ref ot), (2, .ref a0), (1, .ref x0), (0, .ref b)] [] := by
  obtain ⟨hx, hb, hr, hml, hown, hts0, hX, hbl, hlocks, hgv⟩ := id C0
  have hts : ∀ w ∈ wsL_law, w.before #[Value.ref b] s = true := fun w h => hts0 w (wsL_law_in w h)
  have hbA0 : ¬ AL L s.heap.size b := fun z => z.elim (fun y => absurd (hLs b y) (by omega)) (fun y => by omega)
  intro n
  induction n with
  | zero =>
    intro i cells slots q hn
    exact absurd hn (Nat.not_lt_zero _)
  | succ n ih =>
    intro i cells slots q hn hi0 hc hs hiN hI
    obtain ⟨Z, eZ⟩ : ∃ z : Zt, z = (p, e, s, m, #[Value.ref b], below, meth, c, lw_Z below #[Value.ref b] s, cells, slots) := ⟨_, rfl⟩
    rw [← eZ]
    have B : BX dC dI h L 7 cL_law RL wsL_law Z := by rw [eZ]; exact ⟨⟨hx, hb, hml, hown, hts⟩, hK, AL_D hN _, hZ⟩
    have hX2 : va_X b N xs Z.2.2.1 Z.2.2.1.heap := by rw [eZ]; exact hX
    have hbl2 : b < Z.2.2.1.heap.size := by rw [eZ]; exact hbl
    have hbA2 : ¬ AL L Z.2.2.1.heap.size b := by rw [eZ]; exact hbA0
    refine wa_iload B dL_law_23 0 rfl ?_
    refine wa_aload_n B dL_law_25 rfl 4 rfl ?_
    refine wa_slen B hX2 hbl2 hbA2 dL_law_26 ?_
    refine wa_bipush B 6 dL_law_27 (by decide) ?_
    refine wa_isub B dL_law_29 (fun v ev => ?_)
    have gN : (Int32.ofNat N).toInt = (N : Int) := zx_len (by omega)
    have tv : v.toInt = (N : Int) - 6 := by
      rw [ev, zx_sub (show (-2147483648 : Int) ≤ (Int32.ofNat N).toInt - 6 by omega) (show (Int32.ofNat N).toInt - 6 < (2147483648 : Int) by omega), gN]
      rfl
    refine wa_icmp_gt B 781 dL_law_30 (by decide) (fun (t : v.toInt < i.toInt) => ?_) (fun (t : ¬ v.toInt < i.toInt) => ?_)
    · refine wa_iconst B 1 dL_law_781 (by decide) ?_
      rw [eZ]
      intro hc0 hs0 ls H locs hl hP hS
      refine va_forget (fun z hz => (hS.2.2 z hz).elim (fun y => hLs _ y) (fun y => y)) ?_
      refine W.widen (k := 601024) (n := 7293034) hc0 hs0 ?_
      exact lw_ret hx hb hr hlocks dL_law_782
    · have hi1 : i.toInt + 6 ≤ (N : Int) := by omega
      have hroom : (zl_more Z).2.2.2.2.2.2.2.2.2.1 ≤ room_1.cells ∧ (zl_more Z).2.2.2.2.2.2.2.2.2.2 ≤ room_1.slots := by
        rw [eZ]
        exact ⟨show cells + 1 ≤ 601024 by omega, show slots + 6 ≤ 7293034 by omega⟩
      have hcont : ∀ (Z2 : Zt) (q2 : Sg), (Z2 = Z ∨ Z2 = zl_more Z) → lc_I8 h L x0 a0 t0 tb fa mm q2 → WA l dC dI h L room_1 7 Z2 q2 775 [(4, .int i), (3, .ref ot), (2, .ref a0), (1, .ref x0), (0, .ref b)] [] := by
        intro Z2 q2 hZ2 hI2
        have B2 : BX dC dI h L 7 cL_law RL wsL_law Z2 := by
          rcases hZ2 with z | z
          · rw [z]; exact B
          · rw [z]; exact zl_moreB B
        obtain ⟨i2, ei2⟩ : ∃ z : Int32, z = i + 6 := ⟨_, rfl⟩
        have ti2 : i2.toInt = i.toInt + 6 := by
          rw [ei2]
          exact zx_add (show (-2147483648 : Int) ≤ i.toInt + 6 by omega) (show i.toInt + 6 < (2147483648 : Int) by omega)
        refine wa_iinc B2 [(4, .int i2), (3, .ref ot), (2, .ref a0), (1, .ref x0), (0, .ref b)] i2 dL_law_775 0 rfl (by rw [ei2]; rfl) (by decide) rfl ?_
        refine wa_goto B2 23 dL_law_778 (by decide) ?_
        rcases hZ2 with z | z
        · rw [z, eZ]
          exact ih i2 cells slots q2 (by omega) (by omega) (by omega) (by omega) (by omega) hI2
        · rw [z, eZ]
          exact ih i2 (cells + 1) (slots + 6) q2 (by omega) (by omega) (by omega) (by omega) (by omega) hI2
      refine wa_aload_n B dL_law_33 rfl 4 rfl ?_
      refine wa_iload B dL_law_34 0 rfl ?_
      refine wa_sld B hX2 hbl2 hbA2 (i := i) (show 0 ≤ i.toInt by omega) (show i.toInt < (N : Int) by omega) dL_law_36 ?_
      refine wa_bipush B 31 dL_law_37 (by decide) ?_
      refine wa_iand B dL_law_39 (fun k ek => ?_)
      have gk : 0 ≤ k.toInt ∧ k.toInt ≤ 31 := by rw [ek]; exact zx_and31 _
      rcases (show (k.toInt < 0 ∨ 19 < k.toInt) ∨ k.toInt = 0 ∨ k.toInt = 1 ∨ k.toInt = 2 ∨ k.toInt = 3 ∨ k.toInt = 4 ∨ k.toInt = 5 ∨ k.toInt = 6 ∨ k.toInt = 7 ∨ k.toInt = 8 ∨ k.toInt = 9 ∨ k.toInt = 10 ∨ k.toInt = 11 ∨ k.toInt = 12 ∨ k.toInt = 13 ∨ k.toInt = 14 ∨ k.toInt = 15 ∨ k.toInt = 16 ∨ k.toInt = 17 ∨ k.toInt = 18 ∨ k.toInt = 19 by omega) with t | t | t | t | t | t | t | t | t | t | t | t | t | t | t | t | t | t | t | t | t
      · refine wa_tswOut B 775 dL_law_40 t (by decide) ?_
        exact hcont Z q (Or.inl rfl) hI
      · refine wa_tswIn B 136 0 dL_law_40 t (by decide) (by decide) rfl (by decide) ?_
        exact lc6_136 l hlst dC dI h L hN B hX2 hbl2 hbA2 hfd hx0 kx0 ha0 ka0 hot kot lot hi0 hi1 hN2 hroom hI hcont
      · refine wa_tswIn B 209 1 dL_law_40 t (by decide) (by decide) rfl (by decide) ?_
        exact lc6_209 l hlst dC dI h L hN B hX2 hbl2 hbA2 hfd hx0 kx0 ha0 ka0 hot kot lot hi0 hi1 hN2 hroom hI hcont
      · refine wa_tswIn B 234 2 dL_law_40 t (by decide) (by decide) rfl (by decide) ?_
        exact lc6_234 l hlst dC dI h L hN B hX2 hbl2 hbA2 hfd hx0 kx0 ha0 ka0 hot kot lot hi0 hi1 hN2 hroom hI hcont
      · refine wa_tswIn B 247 3 dL_law_40 t (by decide) (by decide) rfl (by decide) ?_
        exact lc6_247 l hlst dC dI h L hN B hX2 hbl2 hbA2 hfd hx0 kx0 ha0 ka0 hot kot lot hi0 hi1 hN2 hroom hI hcont
      · refine wa_tswIn B 260 4 dL_law_40 t (by decide) (by decide) rfl (by decide) ?_
        exact lc6_260 l hlst dC dI h L hN B hX2 hbl2 hbA2 hfd hx0 kx0 ha0 ka0 hot kot lot hi0 hi1 hN2 hroom hI hcont
      · refine wa_tswIn B 300 5 dL_law_40 t (by decide) (by decide) rfl (by decide) ?_
        exact lc6_300 l hlst dC dI h L hN B hX2 hbl2 hbA2 hfd hx0 kx0 ha0 ka0 hot kot lot hi0 hi1 hN2 hroom hI hcont
      · refine wa_tswIn B 337 6 dL_law_40 t (by decide) (by decide) rfl (by decide) ?_
        exact lc6_337 l hlst dC dI h L hN B hX2 hbl2 hbA2 hfd hx0 kx0 ha0 ka0 hot kot lot hi0 hi1 hN2 hroom hI hcont
      · refine wa_tswIn B 365 7 dL_law_40 t (by decide) (by decide) rfl (by decide) ?_
        exact lc6_365 l hlst dC dI h L hN B hX2 hbl2 hbA2 hfd hx0 kx0 ha0 ka0 hot kot lot hi0 hi1 hN2 hroom hI hcont
      · refine wa_tswIn B 378 8 dL_law_40 t (by decide) (by decide) rfl (by decide) ?_
        exact lc6_378 l hlst dC dI h L hN B hX2 hbl2 hbA2 hfd hx0 kx0 ha0 ka0 hot kot lot hi0 hi1 hN2 hroom hI hcont
      · refine wa_tswIn B 430 9 dL_law_40 t (by decide) (by decide) rfl (by decide) ?_
        exact lc6_430 l hlst dC dI h L hN B hX2 hbl2 hbA2 hfd hx0 kx0 ha0 ka0 hot kot lot hi0 hi1 hN2 hroom hI hcont
      · refine wa_tswIn B 455 10 dL_law_40 t (by decide) (by decide) rfl (by decide) ?_
        exact lc6_455 l hlst dC dI h L hN B hX2 hbl2 hbA2 hfd hx0 kx0 ha0 ka0 hot kot lot hi0 hi1 hN2 hroom hI hcont
      · refine wa_tswIn B 480 11 dL_law_40 t (by decide) (by decide) rfl (by decide) ?_
        exact lc6_480 l hlst dC dI h L hN B hX2 hbl2 hbA2 hfd hx0 kx0 ha0 ka0 hot kot lot hi0 hi1 hN2 hroom hI hcont
      · refine wa_tswIn B 548 12 dL_law_40 t (by decide) (by decide) rfl (by decide) ?_
        exact lc6_548 l hlst dC dI h L hN B hX2 hbl2 hbA2 hfd hx0 kx0 ha0 ka0 hot kot lot hi0 hi1 hN2 hroom hI hcont
      · refine wa_tswIn B 588 13 dL_law_40 t (by decide) (by decide) rfl (by decide) ?_
        exact lc6_588 l hlst dC dI h L hN B hX2 hbl2 hbA2 hfd hx0 kx0 ha0 ka0 hot kot lot hi0 hi1 hN2 hroom hI hcont
      · refine wa_tswIn B 613 14 dL_law_40 t (by decide) (by decide) rfl (by decide) ?_
        exact lc6_613 l hlst dC dI h L hN B hX2 hbl2 hbA2 hfd hx0 kx0 ha0 ka0 hot kot lot hi0 hi1 hN2 hroom hI hcont
      · refine wa_tswIn B 650 15 dL_law_40 t (by decide) (by decide) rfl (by decide) ?_
        exact lc6_650 l hlst dC dI h L hN B hX2 hbl2 hbA2 hfd hx0 kx0 ha0 ka0 hot kot lot hi0 hi1 hN2 hroom hI hcont
      · refine wa_tswIn B 675 16 dL_law_40 t (by decide) (by decide) rfl (by decide) ?_
        exact lc6_675 l hlst dC dI h L hN B hX2 hbl2 hbA2 hfd hx0 kx0 ha0 ka0 hot kot lot hi0 hi1 hN2 hroom hI hcont
      · refine wa_tswIn B 712 17 dL_law_40 t (by decide) (by decide) rfl (by decide) ?_
        exact lc6_712 l hlst dC dI h L hN B hX2 hbl2 hbA2 hfd hx0 kx0 ha0 ka0 hot kot lot hi0 hi1 hN2 hroom hI hcont
      · refine wa_tswIn B 725 18 dL_law_40 t (by decide) (by decide) rfl (by decide) ?_
        exact lc6_725 l hlst dC dI h L hN B hX2 hbl2 hbA2 hfd hx0 kx0 ha0 ka0 hot kot lot hi0 hi1 hN2 hroom hI hcont
      · refine wa_tswIn B 750 19 dL_law_40 t (by decide) (by decide) rfl (by decide) ?_
        exact lc6_750 l hlst dC dI h L hN B hX2 hbl2 hbA2 hfd hx0 kx0 ha0 ka0 hot kot lot hi0 hi1 hN2 hroom hI hcont
