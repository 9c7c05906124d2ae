/-! One TOKEN of a text of SYSTEMS from place a on: its kind as the class has it, where it stands, where the next one begins. -/
noncomputable def pz_if {α : Type} (P : Prop) (x y : α) : α := @ite α P (Classical.propDecidable P) x y
theorem pz_if1 {α : Type} {P : Prop} {x y : α} (h : P) : pz_if P x y = x := by
  unfold pz_if
  exact if_pos h
theorem pz_if0 {α : Type} {P : Prop} {x y : α} (h : ¬ P) : pz_if P x y = y := by
  unfold pz_if
  exact if_neg h
theorem pz_cmp {x y : Int64} : (lg_cmp x y).toInt = 0 ↔ x = y := by
  rcases zy_cmp x y with z | z | z
  · exact ⟨fun h => by omega, fun h => by rw [h] at z; omega⟩
  · exact ⟨fun _ => Int64.toInt_inj.mp z.1, fun _ => z.2⟩
  · exact ⟨fun h => by omega, fun h => by rw [h] at z; omega⟩
theorem pz_ceq {v : Int32} {x y : Int64} (e : v = lg_cmp x y) (h : v.toInt = 0) : x = y := pz_cmp.mp (by rw [← e]; exact h)
theorem pz_cne {v : Int32} {x y : Int64} (e : v = lg_cmp x y) (h : ¬ v.toInt = 0) : ¬ x = y := fun z => h (by rw [e]; exact pz_cmp.mpr z)
def sx_kg (a : Nat) (S : List Nat) (q q' : Sg) : Prop := (∀ k, k ∉ S → q'.1 a k = q.1 a k) ∧ (∀ k, k ∉ S → q'.2.1 a k = q.2.1 a k) ∧ q'.2.2.1 a = q.2.2.1 a
section KG
variable {a k : Nat} {S S2 : List Nat} {q q1 q2 : Sg} {v : Int32} {w : Int64}
theorem sx_kg.rf : sx_kg a S q q := ⟨fun _ _ => rfl, fun _ _ => rfl, rfl⟩
theorem sx_kg.tr (h1 : sx_kg a S q q1) (h2 : sx_kg a S q1 q2) : sx_kg a S q q2 := ⟨fun k hk => (h2.1 k hk).trans (h1.1 k hk), fun k hk => (h2.2.1 k hk).trans (h1.2.1 k hk), h2.2.2.trans h1.2.2⟩
theorem sx_kg.mono (h1 : sx_kg a S q q1) (hs : ∀ k, k ∈ S → k ∈ S2) : sx_kg a S2 q q1 := ⟨fun k hk => h1.1 k (fun z => hk (hs k z)), fun k hk => h1.2.1 k (fun z => hk (hs k z)), h1.2.2⟩
theorem sx_kg.pI (hk : k ∈ S) : sx_kg a S q (sg_pI q a k v) := ⟨fun j hj => if_neg (fun (z : a = a ∧ j = k) => hj (z.2 ▸ hk)), fun _ _ => rfl, rfl⟩
theorem sx_kg.pJ (hk : k ∈ S) : sx_kg a S q (sg_pJ q a k w) := ⟨fun _ _ => rfl, fun j hj => if_neg (fun (z : a = a ∧ j = k) => hj (z.2 ▸ hk)), rfl⟩
theorem sx_kg.fr {h : Sh} {L : List Nat} {ok : Nat → Prop} (h1 : sx_fr h L ok q q1) (ha : a ∈ L) (hn : ¬ ok a) : sx_kg a S q q1 := ⟨fun k _ => h1.I ha hn k, fun k _ => h1.J ha hn k, h1.2 a ha (fun z => hn z.1)⟩
theorem sx_kg.pIo {b : Nat} (hb : a ≠ b) : sx_kg a S q (sg_pI q b k v) := ⟨fun _ _ => sg_pI_a hb, fun _ _ => rfl, rfl⟩
end KG
/-- what a word is -/
noncomputable def pz_kn (x : Int64) : Nat := pz_if (x = 126965465245037) 6 (pz_if (x = 500086104428) 7 (pz_if (x = 444300619364) 8 2))
noncomputable def pz_kN (F : Nat → Int32) (n b : Nat) : Nat := pz_if (pz_al F b (pz_end F n b - b) ∧ pz_end F n b - b ≤ 8) (pz_kn (pz_n8 F b (pz_end F n b - b))) 1
noncomputable def pz_kU (F : Nat → Int32) (n b : Nat) : Nat := pz_if (pz_ad F b (pz_end F n b - b) ∧ pz_end F n b - b ≤ 2) 3 1
noncomputable def pz_kY (c : Int32) : Nat := pz_if (c.toInt = 58) 4 (pz_if (c.toInt = 59) 5 1)
def pz_B (F : Nat → Int32) (n a : Nat) : Nat := pz_skip F (min n 400) a
noncomputable def pz_K (F : Nat → Int32) (n a : Nat) : Nat := pz_if (min n 400 ≤ pz_B F n a) 0 (pz_if (pz_l (F (pz_B F n a))) (pz_kN F n (pz_B F n a)) (pz_if (pz_d (F (pz_B F n a))) (pz_kU F n (pz_B F n a)) (pz_kY (F (pz_B F n a)))))
noncomputable def pz_P (F : Nat → Int32) (n a : Nat) : Nat := pz_if (min n 400 ≤ pz_B F n a) (min n 400) (pz_B F n a)
noncomputable def pz_E (F : Nat → Int32) (n a : Nat) : Nat := pz_if (min n 400 ≤ pz_B F n a) (pz_B F n a) (pz_if (pz_l (F (pz_B F n a)) ∨ pz_d (F (pz_B F n a))) (pz_end F n (pz_B F n a)) (pz_B F n a + 1))
/-- the number of one or two digits at b that ends at e -/
noncomputable def pz_v (F : Nat → Int32) (b e : Nat) : Int := pz_if (e = b + 1) ((F b).toInt - 48) (10 * ((F b).toInt - 48) + ((F (b + 1)).toInt - 48))
section PT
variable {F : Nat → Int32} {n a b : Nat}
theorem pz_K0 (h : min n 400 ≤ pz_B F n a) : pz_K F n a = 0 ∧ pz_P F n a = min n 400 ∧ pz_E F n a = pz_B F n a := ⟨pz_if1 h, pz_if1 h, pz_if1 h⟩
theorem pz_KN (h : ¬ min n 400 ≤ pz_B F n a) (hl : pz_l (F (pz_B F n a))) : pz_K F n a = pz_kN F n (pz_B F n a) ∧ pz_P F n a = pz_B F n a ∧ pz_E F n a = pz_end F n (pz_B F n a) := ⟨(pz_if0 h).trans (pz_if1 hl), pz_if0 h, (pz_if0 h).trans (pz_if1 (Or.inl hl))⟩
theorem pz_KU (h : ¬ min n 400 ≤ pz_B F n a) (hd : pz_d (F (pz_B F n a))) : pz_K F n a = pz_kU F n (pz_B F n a) ∧ pz_P F n a = pz_B F n a ∧ pz_E F n a = pz_end F n (pz_B F n a) := ⟨(pz_if0 h).trans ((pz_if0 (fun z => by omega)).trans (pz_if1 hd)), pz_if0 h, (pz_if0 h).trans (pz_if1 (Or.inr hd))⟩
theorem pz_KG (h : ¬ min n 400 ≤ pz_B F n a) (hl : ¬ pz_l (F (pz_B F n a))) (hd : ¬ pz_d (F (pz_B F n a))) : pz_K F n a = pz_kY (F (pz_B F n a)) ∧ pz_P F n a = pz_B F n a ∧ pz_E F n a = pz_B F n a + 1 := ⟨(pz_if0 h).trans ((pz_if0 hl).trans (pz_if0 hd)), pz_if0 h, (pz_if0 h).trans (pz_if0 (fun z => z.elim hl hd))⟩
theorem pz_end_n (h : b ≤ n) : b ≤ pz_end F n b ∧ pz_end F n b ≤ n := by
  have z := pz_wk_b F n (n - b) b
  unfold pz_end
  omega
theorem pz_end_1 (h : b < n) (hc : pz_l (F b) ∨ pz_d (F b)) : b + 1 ≤ pz_end F n b ∧ pz_end F n b ≤ n := by
  rw [pz_end_s h hc]
  exact pz_end_n (by omega)
/-- places between are letters or digits -/
theorem pz_B_b : a ≤ pz_B F n a ∧ (pz_B F n a ≤ min n 400 ∨ pz_B F n a = a) := pz_skip_b F (min n 400) _ a
end PT
/-- what the class's Tokens show of the TOKEN from a on -/
def pz_T (F : Nat → Int32) (n a : Nat) (k p e : Int32) (x : Int64) (t o : Int32) : Prop := k.toInt = ((pz_K F n a : Nat) : Int) ∧ p.toInt = ((pz_P F n a : Nat) : Int) ∧ e.toInt = ((pz_E F n a : Nat) : Int) ∧ (pz_K F n a = 2 → x = pz_n8 F (pz_P F n a) (pz_E F n a - pz_P F n a)) ∧ (pz_K F n a = 3 → t.toInt = -1 ∧ o.toInt = pz_v F (pz_P F n a) (pz_E F n a) ∨ 0 ≤ t.toInt ∧ t.toInt ≤ 9 ∧ 0 ≤ o.toInt ∧ o.toInt ≤ 9 ∧ 10 * t.toInt + o.toInt = pz_v F (pz_P F n a) (pz_E F n a))
/-! The loop of takeName. -/
def tn_I (F : Nat → Int32) (n p : Nat) (t c g : Int32) (x : Int64) : Prop := (p : Int) ≤ t.toInt ∧ t.toInt ≤ (n : Int) ∧ (t.toInt < (n : Int) → c = F t.toInt.toNat) ∧ (g.toInt = 1 ∧ pz_al F p (t.toInt.toNat - p) ∨ g.toInt = 0 ∧ ¬ pz_al F p (t.toInt.toNat - p)) ∧ x = pz_n8 F p (t.toInt.toNat - p) ∧ pz_end F n p = pz_end F n t.toInt.toNat
section TN
variable {F : Nat → Int32} {n p : Nat} {t t' c c' g g' : Int32} {x x' : Int64}
theorem tn_0 (ht : t.toInt = (p : Int)) (hn : t.toInt ≤ (n : Int)) (hc : t.toInt < (n : Int) → c = F t.toInt.toNat) (hx : x = 0) (hg : g = 1) : tn_I F n p t c g x := by
  have e : t.toInt.toNat = p := by omega
  have e2 : t.toInt.toNat - p = 0 := by omega
  exact ⟨by omega, hn, hc, Or.inl ⟨by rw [hg]; rfl, by rw [e2]; exact True.intro⟩, by rw [e2]; exact hx, by rw [e]⟩
theorem tn_s (I : tn_I F n p t c g x) (ht : t.toInt < (n : Int)) (hc : pz_l c ∨ pz_d c) (ht' : t'.toInt = t.toInt + 1) (hc' : t'.toInt < (n : Int) → c' = F t'.toInt.toNat) (hg : g'.toInt = 1 ∧ g.toInt = 1 ∧ (97 ≤ c.toInt ∧ c.toInt ≤ 122) ∨ g'.toInt = 0 ∧ ¬ (g.toInt = 1 ∧ 97 ≤ c.toInt ∧ c.toInt ≤ 122)) (hx : x' = (x <<< ((8 : Int32).toInt64 &&& 63)) ||| c.toInt64) : tn_I F n p t' c' g' x' := by
  obtain ⟨i1, i2, i3, i4, i5, i6⟩ := I
  have ec := i3 ht
  have e : t'.toInt.toNat - p = (t.toInt.toNat - p) + 1 := by omega
  have e2 : p + (t.toInt.toNat - p) = t.toInt.toNat := by omega
  have ea : pz_al F p (t'.toInt.toNat - p) ↔ pz_al F p (t.toInt.toNat - p) ∧ pz_l c := by
    rw [e]
    show pz_al F p (t.toInt.toNat - p) ∧ pz_l (F (p + (t.toInt.toNat - p))) ↔ _
    rw [e2, ← ec]
  refine ⟨by omega, by omega, hc', ?_, ?_, ?_⟩
  · rcases hg with ⟨z1, z2, z3⟩ | ⟨z1, z2⟩
    · refine Or.inl ⟨z1, ea.mpr ⟨?_, z3⟩⟩
      rcases i4 with y | y
      · exact y.2
      · omega
    · refine Or.inr ⟨z1, fun y => z2 ?_⟩
      obtain ⟨y1, y2⟩ := ea.mp y
      rcases i4 with w | w
      · exact ⟨w.1, y2⟩
      · exact absurd y1 w.2
  · rw [e, hx, i5]
    show _ = (pz_n8 F p (t.toInt.toNat - p) <<< ((8 : Int32).toInt64 &&& 63)) ||| (F (p + (t.toInt.toNat - p))).toInt64
    rw [e2, ← ec]
  · rw [i6, show t'.toInt.toNat = t.toInt.toNat + 1 by omega]
    exact pz_end_s (by omega) (by rw [← ec]; exact hc)
theorem tn_e (I : tn_I F n p t c g x) (h : ¬ (t.toInt < (n : Int) ∧ (pz_l c ∨ pz_d c))) : pz_end F n p = t.toInt.toNat := by
  obtain ⟨i1, i2, i3, i4, i5, i6⟩ := I
  rw [i6]
  refine pz_end_e (fun z => h ⟨by omega, ?_⟩)
  rw [i3 (by omega)]
  exact z.2
theorem tn_bad (I : tn_I F n p t c g x) (h : ¬ (t.toInt < (n : Int) ∧ (pz_l c ∨ pz_d c))) (hb : g.toInt = 0 ∨ t.toInt - (p : Int) > 8) : pz_kN F n p = 1 := by
  have e := tn_e I h
  obtain ⟨i1, i2, i3, i4, i5, i6⟩ := I
  refine pz_if0 (fun z => ?_)
  rw [e] at z
  rcases i4 with y | y
  · omega
  · exact y.2 z.1
theorem tn_good (I : tn_I F n p t c g x) (h : ¬ (t.toInt < (n : Int) ∧ (pz_l c ∨ pz_d c))) (hg : ¬ g.toInt = 0) (h8 : t.toInt - (p : Int) ≤ 8) : pz_kN F n p = pz_kn x := by
  have e := tn_e I h
  obtain ⟨i1, i2, i3, i4, i5, i6⟩ := I
  unfold pz_kN
  rw [e, ← i5]
  refine pz_if1 ⟨?_, by omega⟩
  rcases i4 with y | y
  · exact y.2
  · exact absurd y.1 hg
theorem tn_x (I : tn_I F n p t c g x) (h : ¬ (t.toInt < (n : Int) ∧ (pz_l c ∨ pz_d c))) : x = pz_n8 F p (pz_end F n p - p) := by
  rw [tn_e I h]
  exact I.2.2.2.2.1
end TN
/-! The loop of takeNumber. -/
def tu_I (F : Nat → Int32) (n p : Nat) (t c g ts os : Int32) : Prop := (p : Int) ≤ t.toInt ∧ t.toInt ≤ (n : Int) ∧ (t.toInt < (n : Int) → c = F t.toInt.toNat) ∧ (g.toInt = 1 ∧ pz_ad F p (t.toInt.toNat - p) ∨ g.toInt = 0 ∧ ¬ pz_ad F p (t.toInt.toNat - p)) ∧ (t.toInt = (p : Int) ∧ os.toInt = -1 ∨ t.toInt = (p : Int) + 1 ∧ ts.toInt = -1 ∧ os.toInt = (F p).toInt - 48 ∨ t.toInt = (p : Int) + 2 ∧ ts.toInt = (F p).toInt - 48 ∧ os.toInt = (F (p + 1)).toInt - 48 ∨ (p : Int) + 2 < t.toInt) ∧ pz_end F n p = pz_end F n t.toInt.toNat
section TU
variable {F : Nat → Int32} {n p : Nat} {t t' c c' g g' ts os os' : Int32}
theorem tu_0 (ht : t.toInt = (p : Int)) (hn : t.toInt ≤ (n : Int)) (hc : t.toInt < (n : Int) → c = F t.toInt.toNat) (hx : os = -1) (hg : g = 1) : tu_I F n p t c g ts os := by
  have e : t.toInt.toNat = p := by omega
  have e2 : t.toInt.toNat - p = 0 := by omega
  exact ⟨by omega, hn, hc, Or.inl ⟨by rw [hg]; rfl, by rw [e2]; exact True.intro⟩, Or.inl ⟨ht, by rw [hx]; rfl⟩, by rw [e]⟩
theorem tu_s (I : tu_I F n p t c g ts os) (ht : t.toInt < (n : Int)) (hc : pz_l c ∨ pz_d c) (ht' : t'.toInt = t.toInt + 1) (hc' : t'.toInt < (n : Int) → c' = F t'.toInt.toNat) (hg : g'.toInt = 1 ∧ g.toInt = 1 ∧ (48 ≤ c.toInt ∧ c.toInt ≤ 57) ∨ g'.toInt = 0 ∧ ¬ (g.toInt = 1 ∧ 48 ≤ c.toInt ∧ c.toInt ≤ 57)) (hx : os'.toInt = c.toInt - 48) : tu_I F n p t' c' g' os os' := by
  obtain ⟨i1, i2, i3, i4, i5, i6⟩ := I
  have ec := i3 ht
  have e : t'.toInt.toNat - p = (t.toInt.toNat - p) + 1 := by omega
  have e2 : p + (t.toInt.toNat - p) = t.toInt.toNat := by omega
  have ea : pz_ad F p (t'.toInt.toNat - p) ↔ pz_ad F p (t.toInt.toNat - p) ∧ pz_d c := by
    rw [e]
    show pz_ad F p (t.toInt.toNat - p) ∧ pz_d (F (p + (t.toInt.toNat - p))) ↔ _
    rw [e2, ← ec]
  refine ⟨by omega, by omega, hc', ?_, ?_, ?_⟩
  · rcases hg with ⟨z1, z2, z3⟩ | ⟨z1, z2⟩
    · refine Or.inl ⟨z1, ea.mpr ⟨?_, z3⟩⟩
      rcases i4 with y | y
      · exact y.2
      · omega
    · refine Or.inr ⟨z1, fun y => z2 ?_⟩
      obtain ⟨y1, y2⟩ := ea.mp y
      rcases i4 with w | w
      · exact ⟨w.1, y2⟩
      · exact absurd y1 w.2
  · rcases i5 with z | z | z | z
    · have e3 : t.toInt.toNat = p := by omega
      rw [e3] at ec
      exact Or.inr (Or.inl ⟨by omega, z.2, by rw [← ec]; exact hx⟩)
    · have e3 : t.toInt.toNat = p + 1 := by omega
      rw [e3] at ec
      exact Or.inr (Or.inr (Or.inl ⟨by omega, z.2.2, by rw [← ec]; exact hx⟩))
    · exact Or.inr (Or.inr (Or.inr (by omega)))
    · exact Or.inr (Or.inr (Or.inr (by omega)))
  · rw [i6, show t'.toInt.toNat = t.toInt.toNat + 1 by omega]
    exact pz_end_s (by omega) (by rw [← ec]; exact hc)
theorem tu_e (I : tu_I F n p t c g ts os) (h : ¬ (t.toInt < (n : Int) ∧ (pz_l c ∨ pz_d c))) : pz_end F n p = t.toInt.toNat := by
  obtain ⟨i1, i2, i3, i4, i5, i6⟩ := I
  rw [i6]
  refine pz_end_e (fun z => h ⟨by omega, ?_⟩)
  rw [i3 (by omega)]
  exact z.2
theorem tu_bad (I : tu_I F n p t c g ts os) (h : ¬ (t.toInt < (n : Int) ∧ (pz_l c ∨ pz_d c))) (hb : g.toInt = 0 ∨ t.toInt - (p : Int) > 2) : pz_kU F n p = 1 := by
  have e := tu_e I h
  obtain ⟨i1, i2, i3, i4, i5, i6⟩ := I
  refine pz_if0 (fun z => ?_)
  rw [e] at z
  rcases i4 with y | y
  · omega
  · exact y.2 z.1
theorem tu_good (I : tu_I F n p t c g ts os) (h : ¬ (t.toInt < (n : Int) ∧ (pz_l c ∨ pz_d c))) (hg : ¬ g.toInt = 0) (h8 : t.toInt - (p : Int) ≤ 2) : pz_kU F n p = 3 := by
  have e := tu_e I h
  obtain ⟨i1, i2, i3, i4, i5, i6⟩ := I
  unfold pz_kU
  rw [e]
  refine pz_if1 ⟨?_, by omega⟩
  rcases i4 with y | y
  · exact y.2
  · exact absurd y.1 hg
/-- the number that was read -/
theorem tu_v (I : tu_I F n p t c g ts os) (h : ¬ (t.toInt < (n : Int) ∧ (pz_l c ∨ pz_d c))) (hp : p < n) (hd : pz_d (F p)) (h3 : pz_kU F n p = 3) : ts.toInt = -1 ∧ os.toInt = pz_v F p (pz_end F n p) ∨ 0 ≤ ts.toInt ∧ ts.toInt ≤ 9 ∧ 0 ≤ os.toInt ∧ os.toInt ≤ 9 ∧ 10 * ts.toInt + os.toInt = pz_v F p (pz_end F n p) := by
  have e := tu_e I h
  have hh : pz_ad F p (pz_end F n p - p) ∧ pz_end F n p - p ≤ 2 := Classical.byContradiction (fun z => by
    have y : pz_kU F n p = 1 := pz_if0 z
    rw [y] at h3
    exact absurd h3 (by decide))
  have h1 := pz_end_1 hp (Or.inr hd)
  rw [e] at hh h1 ⊢
  obtain ⟨i1, i2, i3, i4, i5, i6⟩ := I
  rcases i5 with z | z | z | z
  · omega
  · refine Or.inl ⟨z.2.1, z.2.2.trans ?_⟩
    exact (pz_if1 (by omega)).symm
  · have e3 : t.toInt.toNat - p = 2 := by omega
    rw [e3] at hh
    have d0 : pz_d (F (p + 0)) := hh.1.1.2
    have d1 : pz_d (F (p + 1)) := hh.1.2
    rw [Nat.add_zero] at d0
    have ev : pz_v F p t.toInt.toNat = 10 * ((F p).toInt - 48) + ((F (p + 1)).toInt - 48) := pz_if0 (by omega)
    rw [ev]
    omega
  · omega
end TU
/-! The TOKEN as advance leaves it. -/
theorem pz_kn_ne {x : Int64} : pz_kn x = 2 ∨ pz_kn x = 6 ∨ pz_kn x = 7 ∨ pz_kn x = 8 := by
  unfold pz_kn
  by_cases h1 : x = 126965465245037
  · rw [pz_if1 h1]; omega
  · rw [pz_if0 h1]
    by_cases h2 : x = 500086104428
    · rw [pz_if1 h2]; omega
    · rw [pz_if0 h2]
      by_cases h3 : x = 444300619364
      · rw [pz_if1 h3]; omega
      · rw [pz_if0 h3]; omega
theorem pz_kN_ne {F : Nat → Int32} {n b : Nat} : pz_kN F n b = 1 ∨ pz_kN F n b = 2 ∨ pz_kN F n b = 6 ∨ pz_kN F n b = 7 ∨ pz_kN F n b = 8 := by
  unfold pz_kN
  by_cases h1 : pz_al F b (pz_end F n b - b) ∧ pz_end F n b - b ≤ 8
  · rw [pz_if1 h1]; exact Or.inr pz_kn_ne
  · rw [pz_if0 h1]; exact Or.inl rfl
theorem pz_kU_ne {F : Nat → Int32} {n b : Nat} : pz_kU F n b = 1 ∨ pz_kU F n b = 3 := by
  unfold pz_kU
  by_cases h1 : pz_ad F b (pz_end F n b - b) ∧ pz_end F n b - b ≤ 2
  · rw [pz_if1 h1]; omega
  · rw [pz_if0 h1]; omega
theorem pz_kY_ne {c : Int32} : pz_kY c = 1 ∨ pz_kY c = 4 ∧ c.toInt = 58 ∨ pz_kY c = 5 ∧ c.toInt = 59 := by
  unfold pz_kY
  by_cases h1 : c.toInt = 58
  · rw [pz_if1 h1]; omega
  · rw [pz_if0 h1]
    by_cases h2 : c.toInt = 59
    · rw [pz_if1 h2]; omega
    · rw [pz_if0 h2]; omega
section PTT
variable {F : Nat → Int32} {n a b : Nat} {k p e t o : Int32} {x : Int64}
theorem pz_T_0 (hB : pz_B F n a = b) (hm : min n 400 ≤ b) (hk : k.toInt = 0) (hp : p.toInt = ((min n 400 : Nat) : Int)) (he : e.toInt = (b : Int)) : pz_T F n a k p e x t o := by
  subst hB
  obtain ⟨k1, k2, k3⟩ := pz_K0 hm
  exact ⟨by rw [k1]; exact hk, by rw [k2]; exact hp, by rw [k3]; exact he, fun z => absurd (k1.symm.trans z) (by decide), fun z => absurd (k1.symm.trans z) (by decide)⟩
theorem pz_T_N (hB : pz_B F n a = b) (hm : ¬ min n 400 ≤ b) (hl : pz_l (F b)) (hk : k.toInt = ((pz_kN F n b : Nat) : Int)) (hp : p.toInt = (b : Int)) (he : e.toInt = ((pz_end F n b : Nat) : Int)) (hx : x = pz_n8 F b (pz_end F n b - b)) : pz_T F n a k p e x t o := by
  subst hB
  obtain ⟨k1, k2, k3⟩ := pz_KN hm hl
  refine ⟨by rw [k1]; exact hk, by rw [k2]; exact hp, by rw [k3]; exact he, fun _ => by rw [k2, k3]; exact hx, fun z => ?_⟩
  have y := pz_kN_ne (F := F) (n := n) (b := pz_B F n a)
  omega
theorem pz_T_U (hB : pz_B F n a = b) (hm : ¬ min n 400 ≤ b) (hl : pz_d (F b)) (hk : k.toInt = ((pz_kU F n b : Nat) : Int)) (hp : p.toInt = (b : Int)) (he : e.toInt = ((pz_end F n b : Nat) : Int)) (hx : pz_kU F n b = 3 → t.toInt = -1 ∧ o.toInt = pz_v F b (pz_end F n b) ∨ 0 ≤ t.toInt ∧ t.toInt ≤ 9 ∧ 0 ≤ o.toInt ∧ o.toInt ≤ 9 ∧ 10 * t.toInt + o.toInt = pz_v F b (pz_end F n b)) : pz_T F n a k p e x t o := by
  subst hB
  obtain ⟨k1, k2, k3⟩ := pz_KU hm hl
  refine ⟨by rw [k1]; exact hk, by rw [k2]; exact hp, by rw [k3]; exact he, fun z => ?_, fun z => by rw [k2, k3]; exact hx (k1.symm.trans z)⟩
  have y := pz_kU_ne (F := F) (n := n) (b := pz_B F n a)
  omega
theorem pz_T_G (hB : pz_B F n a = b) (hm : ¬ min n 400 ≤ b) (hl : ¬ pz_l (F b)) (hd : ¬ pz_d (F b)) (hk : k.toInt = ((pz_kY (F b) : Nat) : Int)) (hp : p.toInt = (b : Int)) (he : e.toInt = (b : Int) + 1) : pz_T F n a k p e x t o := by
  subst hB
  obtain ⟨k1, k2, k3⟩ := pz_KG hm hl hd
  have y := pz_kY_ne (c := F (pz_B F n a))
  refine ⟨by rw [k1]; exact hk, by rw [k2]; exact hp, by rw [k3]; omega, fun z => ?_, fun z => ?_⟩
  · omega
  · omega
end PTT
