/-! The reference's TOKENS and its reading of SYSTEMS, by the same machine. -/
theorem pz_skip_min {F : Nat → Int32} {m n : Nat} (hm : m ≤ n) : ∀ (d a : Nat), n - a = d → (pz_skip F n a < m → pz_skip F m a = pz_skip F n a) ∧ (m ≤ pz_skip F n a → m ≤ pz_skip F m a)
  | 0, a, hd => by
    rw [pz_skip_e (F := F) (m := n) (a := a) (fun z => by omega), pz_skip_e (F := F) (m := m) (a := a) (fun z => by omega)]
    exact ⟨fun _ => rfl, fun z => z⟩
  | d + 1, a, hd => by
    by_cases hb : pz_b (F a)
    · rw [pz_skip_s (F := F) (m := n) (a := a) (by omega) hb]
      by_cases h : a < m
      · rw [pz_skip_s h hb]
        exact pz_skip_min hm d (a + 1) (by omega)
      · rw [pz_skip_e (F := F) (m := m) (a := a) (fun z => h z.1)]
        have y := (pz_skip_b F n (n - (a + 1)) (a + 1)).1
        have y2 : a + 1 ≤ pz_skip F n (a + 1) := y
        exact ⟨fun z => by omega, fun _ => by omega⟩
    · rw [pz_skip_e (F := F) (m := n) (a := a) (fun z => hb z.2), pz_skip_e (F := F) (m := m) (a := a) (fun z => hb z.2)]
      exact ⟨fun _ => rfl, fun z => z⟩
theorem pz_B_lt {F : Nat → Int32} {n a b : Nat} (hb : pz_skip F n a = b) (h : b < min n 400) : pz_B F n a = b := by
  subst hb
  exact (pz_skip_min (Nat.min_le_left n 400) (n - a) a rfl).1 h
theorem pz_B_ge {F : Nat → Int32} {n a b : Nat} (hb : pz_skip F n a = b) (h : min n 400 ≤ b) : min n 400 ≤ pz_B F n a := by
  subst hb
  exact (pz_skip_min (Nat.min_le_left n 400) (n - a) a rfl).2 h
/-- what the reference shows of the TOKEN from a on -/
def pz_R (F : Nat → Int32) (n a : Nat) (k sg fr to f1 f2 : Int32) (x : Int64) : Prop := fr.toInt = ((pz_P F n a : Nat) : Int) ∧ (¬ pz_K F n a = 0 → to.toInt = ((pz_E F n a : Nat) : Int)) ∧ (k.toInt = 0 ∧ pz_K F n a = 0 ∧ n ≤ 400 ∨ k.toInt = 1 ∧ (pz_K F n a = 0 ∧ 400 < n ∨ pz_K F n a = 1) ∨ k.toInt = 2 ∧ (pz_K F n a = 2 ∨ 6 ≤ pz_K F n a) ∧ x = pu_v F (pz_W F n a) ∨ k.toInt = 3 ∧ pz_K F n a = 3 ∧ (f2.toInt = -1 ∧ f1.toInt = pz_V F n a ∨ ¬ f2.toInt = -1 ∧ 10 * f1.toInt + f2.toInt = pz_V F n a) ∨ k.toInt = 4 ∧ (pz_K F n a = 4 ∧ sg.toInt = 58 ∨ pz_K F n a = 5 ∧ sg.toInt = 59))
/-- the first k from p on are all letters (L) or all digits -/
def pz_sm (F : Nat → Int32) (p : Nat) (L : Int32) (k : Nat) : Prop := L.toInt = 1 ∧ pz_al F p k ∨ L.toInt = 0 ∧ pz_ad F p k
def tg_I (F : Nat → Int32) (n p : Nat) (t g : Int32) (x : Int64) (L : Int32) : Prop := (p : Int) ≤ t.toInt ∧ t.toInt ≤ (n : Int) ∧ (g.toInt = 1 ∧ pz_sm F p L (t.toInt.toNat - p) ∨ g.toInt = 0 ∧ ¬ pz_sm F p L (t.toInt.toNat - p)) ∧ x = pz_n27 F p (t.toInt.toNat - p) ∧ pz_end F n p = pz_end F n t.toInt.toNat
def pg_G (g' g L d : Int32) : Prop := g'.toInt = 1 ∧ g.toInt = 1 ∧ (L.toInt = 1 ∧ (97 ≤ d.toInt ∧ d.toInt ≤ 122) ∨ L.toInt = 0 ∧ ¬ (97 ≤ d.toInt ∧ d.toInt ≤ 122)) ∨ g'.toInt = 0 ∧ ¬ (g.toInt = 1 ∧ (L.toInt = 1 ∧ (97 ≤ d.toInt ∧ d.toInt ≤ 122) ∨ L.toInt = 0 ∧ ¬ (97 ≤ d.toInt ∧ d.toInt ≤ 122)))
def pz_hd (P : Prop) : Prop := P
theorem pz_hd.i {P : Prop} (h : P) : pz_hd P := h
section TG
variable {F : Nat → Int32} {n a p : Nat} {t t' g g' L d k sg fr f1 f2 : Int32} {x x' : Int64}
theorem tg_0 (ht : t.toInt = (p : Int)) (hn : t.toInt ≤ (n : Int)) (hx : x = 0) (hg : g = 1) (hL : L.toInt = 0 ∨ L.toInt = 1) : tg_I F n p t g x L := by
  have e : t.toInt.toNat = p := by omega
  have e2 : t.toInt.toNat - p = 0 := by omega
  refine ⟨by omega, hn, Or.inl ⟨by rw [hg]; rfl, ?_⟩, by rw [e2]; exact hx, by rw [e]⟩
  rw [e2]
  rcases hL with z | z
  · exact Or.inr ⟨z, True.intro⟩
  · exact Or.inl ⟨z, True.intro⟩
theorem tg_s (I : tg_I F n p t g x L) (ht : t.toInt < (n : Int)) (hd : d = F t.toInt.toNat) (hc : pz_l d ∨ pz_d d) (ht' : t'.toInt = t.toInt + 1) (hg : pg_G g' g L d) (hx : t.toInt - (p : Int) < 8 ∧ x' = 27 * x + d.toInt64 - 96 ∨ 8 ≤ t.toInt - (p : Int) ∧ x' = x) : tg_I F n p t' g' x' L := by
  obtain ⟨i1, i2, i4, i5, i6⟩ := I
  have e : t'.toInt.toNat - p = (t.toInt.toNat - p) + 1 := by omega
  have e2 : p + (t.toInt.toNat - p) = t.toInt.toNat := by omega
  have ea : pz_sm F p L (t'.toInt.toNat - p) ↔ pz_sm F p L (t.toInt.toNat - p) ∧ (L.toInt = 1 ∧ (97 ≤ d.toInt ∧ d.toInt ≤ 122) ∨ L.toInt = 0 ∧ ¬ (97 ≤ d.toInt ∧ d.toInt ≤ 122)) := by
    rw [e]
    show (L.toInt = 1 ∧ (pz_al F p (t.toInt.toNat - p) ∧ pz_l (F (p + (t.toInt.toNat - p)))) ∨ L.toInt = 0 ∧ (pz_ad F p (t.toInt.toNat - p) ∧ pz_d (F (p + (t.toInt.toNat - p))))) ↔ _
    rw [e2, ← hd]
    constructor
    · rintro (⟨z1, z2, z3⟩ | ⟨z1, z2, z3⟩)
      · exact ⟨Or.inl ⟨z1, z2⟩, Or.inl ⟨z1, z3⟩⟩
      · exact ⟨Or.inr ⟨z1, z2⟩, Or.inr ⟨z1, by omega⟩⟩
    · rintro ⟨z1 | z1, z2⟩
      · exact Or.inl ⟨z1.1, z1.2, by omega⟩
      · exact Or.inr ⟨z1.1, z1.2, by omega⟩
  refine ⟨by omega, by omega, ?_, ?_, ?_⟩
  · rcases hg with ⟨z1, z2, z3⟩ | ⟨z1, z2⟩
    · refine Or.inl ⟨z1, ea.mpr ⟨?_, z3⟩⟩
      rcases i4 with y | y
      · exact y.2
      · omega
    · refine Or.inr ⟨z1, fun y => z2 ?_⟩
      obtain ⟨y1, y2⟩ := ea.mp y
      rcases i4 with w | w
      · exact ⟨w.1, y2⟩
      · exact absurd y1 w.2
  · rw [e]
    show _ = if t.toInt.toNat - p < 8 then 27 * pz_n27 F p (t.toInt.toNat - p) + (F (p + (t.toInt.toNat - p))).toInt64 - 96 else pz_n27 F p (t.toInt.toNat - p)
    rw [e2, ← hd, ← i5]
    rcases hx with z | z
    · rw [if_pos (by omega)]; exact z.2
    · rw [if_neg (by omega)]; exact z.2
  · rw [i6, show t'.toInt.toNat = t.toInt.toNat + 1 by omega]
    exact pz_end_s (by omega) (by rw [← hd]; exact hc)
theorem tg_e (I : tg_I F n p t g x L) (h : ¬ (t.toInt < (n : Int) ∧ (pz_l (F t.toInt.toNat) ∨ pz_d (F t.toInt.toNat)))) : pz_end F n p = t.toInt.toNat := by
  obtain ⟨i1, i2, i4, i5, i6⟩ := I
  rw [i6]
  exact pz_end_e (fun z => h ⟨by omega, z.2⟩)
/-! What go leaves. -/
theorem pg_ex {r1 r2 l1 l2 : Int32} (u1 : t.toInt < (n : Int) ∧ (F t.toInt.toNat).toInt = r1.toInt ∨ (n : Int) ≤ t.toInt ∧ r1.toInt = 0) (u2 : t.toInt < (n : Int) ∧ (F t.toInt.toNat).toInt = r2.toInt ∨ (n : Int) ≤ t.toInt ∧ r2.toInt = 0) (h1 : l1.toInt = 1 ∧ (97 ≤ r1.toInt ∧ r1.toInt ≤ 122) ∨ l1.toInt = 0 ∧ ¬ (97 ≤ r1.toInt ∧ r1.toInt ≤ 122)) (z1 : l1.toInt = 0) (h2 : l2.toInt = 1 ∧ (48 ≤ r2.toInt ∧ r2.toInt ≤ 57) ∨ l2.toInt = 0 ∧ ¬ (48 ≤ r2.toInt ∧ r2.toInt ≤ 57)) (z2 : l2.toInt = 0) : ¬ (t.toInt < (n : Int) ∧ (pz_l (F t.toInt.toNat) ∨ pz_d (F t.toInt.toNat))) := by
  intro z
  omega
theorem pg_gA (h : g.toInt = 0) (h' : g'.toInt = 0) : pg_G g' g L d := by
  unfold pg_G
  omega
theorem pg_gB {r : Int32} (hw : r.toInt = 1 ∧ (97 ≤ d.toInt ∧ d.toInt ≤ 122) ∨ r.toInt = 0 ∧ ¬ (97 ≤ d.toInt ∧ d.toInt ≤ 122)) (hn : ¬ r.toInt = L.toInt) (h' : g'.toInt = 0) : pg_G g' g L d := by
  unfold pg_G
  omega
theorem pg_gC {r : Int32} (hw : r.toInt = 1 ∧ (97 ≤ d.toInt ∧ d.toInt ≤ 122) ∨ r.toInt = 0 ∧ ¬ (97 ≤ d.toInt ∧ d.toInt ≤ 122)) (hn : r.toInt = L.toInt) (hg : ¬ g.toInt = 0) (hg2 : g.toInt = 0 ∨ g.toInt = 1) (h' : g'.toInt = 1) : pg_G g' g L d := by
  unfold pg_G
  omega
theorem pg_01 (h : pg_G g' g L d) : g'.toInt = 0 ∨ g'.toInt = 1 := by
  unfold pg_G at h
  omega
theorem pg_lt1 {r l : Int32} (u : t.toInt < (n : Int) ∧ (F t.toInt.toNat).toInt = r.toInt ∨ (n : Int) ≤ t.toInt ∧ r.toInt = 0) (h : l.toInt = 1 ∧ (97 ≤ r.toInt ∧ r.toInt ≤ 122) ∨ l.toInt = 0 ∧ ¬ (97 ≤ r.toInt ∧ r.toInt ≤ 122)) (z : ¬ l.toInt = 0) : t.toInt < (n : Int) ∧ pz_hd (pz_l (F t.toInt.toNat) ∨ pz_d (F t.toInt.toNat)) := by
  unfold pz_hd
  omega
theorem pg_lt2 {r l : Int32} (u : t.toInt < (n : Int) ∧ (F t.toInt.toNat).toInt = r.toInt ∨ (n : Int) ≤ t.toInt ∧ r.toInt = 0) (h : l.toInt = 1 ∧ (48 ≤ r.toInt ∧ r.toInt ≤ 57) ∨ l.toInt = 0 ∧ ¬ (48 ≤ r.toInt ∧ r.toInt ≤ 57)) (z : ¬ l.toInt = 0) : t.toInt < (n : Int) ∧ pz_hd (pz_l (F t.toInt.toNat) ∨ pz_d (F t.toInt.toNat)) := by
  unfold pz_hd
  omega
theorem pg_d20 {m v : Int32} (hm : m.toInt ≤ 1) (hv : v = -1) : pz_hd (m.toInt ≤ 1 ∧ v.toInt = -1 ∨ 1 < m.toInt ∧ ((F (p + 1)).toInt = 63 ∧ v.toInt = 10 ∨ ¬ (F (p + 1)).toInt = 63 ∧ v.toInt = (F (p + 1)).toInt - 48)) := Or.inl ⟨hm, by rw [hv]; rfl⟩
theorem pg_d21 {m v c : Int32} (hm : ¬ m.toInt ≤ 1) (e : c = F (p + 1)) (h : (-48) ≤ v.toInt ∧ v.toInt ≤ 207 ∧ (c.toInt = 63 ∧ v.toInt = 10 ∨ ¬ c.toInt = 63 ∧ v.toInt = c.toInt - 48)) : pz_hd (m.toInt ≤ 1 ∧ v.toInt = -1 ∨ 1 < m.toInt ∧ ((F (p + 1)).toInt = 63 ∧ v.toInt = 10 ∨ ¬ (F (p + 1)).toInt = 63 ∧ v.toInt = (F (p + 1)).toInt - 48)) := by
  subst e
  exact Or.inr ⟨by omega, h.2.2⟩
def pg_K (g m L k : Int32) : Prop := (L.toInt = 1 → (¬ g.toInt = 0 ∧ m.toInt ≤ 8) ∧ k.toInt = 2 ∨ ¬ (¬ g.toInt = 0 ∧ m.toInt ≤ 8) ∧ k.toInt = 1) ∧ (L.toInt = 0 → (¬ g.toInt = 0 ∧ m.toInt ≤ 2) ∧ k.toInt = 3 ∨ ¬ (¬ g.toInt = 0 ∧ m.toInt ≤ 2) ∧ k.toInt = 1)
theorem pg_k1 {m : Int32} (h : g.toInt = 0 ∨ ¬ L.toInt = 0 ∧ 8 < m.toInt ∨ L.toInt = 0 ∧ 2 < m.toInt) (hk : k.toInt = 1) : pg_K g m L k := by
  unfold pg_K
  omega
theorem pg_k2 {m : Int32} (h : ¬ g.toInt = 0) (hL : ¬ L.toInt = 0) (hm : m.toInt ≤ 8) (hk : k.toInt = 2) : pg_K g m L k := by
  unfold pg_K
  omega
theorem pg_k3 {m : Int32} (h : ¬ g.toInt = 0) (hL : L.toInt = 0) (hm : m.toInt ≤ 2) (hk : k.toInt = 3) : pg_K g m L k := by
  unfold pg_K
  omega
theorem pg_kN {m : Int32} (h : pg_K g m L k) (hL : pz_hd (L.toInt = 0 ∨ L.toInt = 1)) (hk : k.toInt = 2) : ¬ g.toInt = 0 ∧ L.toInt = 1 := by
  unfold pg_K at h
  unfold pz_hd at hL
  omega
theorem pg_N {m : Int32} (I : tg_I F n p t g x L) (hm : m.toInt = t.toInt - (p : Int)) (hK : pg_K g m L k) (hL : pz_hd (L.toInt = 0 ∨ L.toInt = 1)) (hk : k.toInt = 2) : 0 ≤ x.toInt ∧ x.toInt < 282429536481 := by
  have h1 := pg_kN hK hL hk
  have h2 := hK.1 h1.2
  obtain ⟨i1, i2, i4, i5, i6⟩ := I
  have ha : pz_al F p (t.toInt.toNat - p) := by
    rcases i4 with y | y
    · rcases y.2 with w | w
      · exact w.2
      · omega
    · omega
  have h8 : t.toInt.toNat - p ≤ 8 := by omega
  have al : ∀ {j : Nat}, pz_al F p j → ∀ i, i < j → pz_l (F (p + i)) := fun h => pz_al_i h
  have e := pz_n27_N h8 (al ha)
  have hb : pz_N 27 (fun i => ((F (p + i)).toInt - 96).toNat) (t.toInt.toNat - p) < 27 ^ (t.toInt.toNat - p) := pz_N_lt (B := 27) (fun i hi => by have z := al ha i hi; show ((F (p + i)).toInt - 96).toNat < 27; omega)
  have hc : 27 ^ (t.toInt.toNat - p) ≤ 27 ^ 8 := Nat.pow_le_pow_right (by decide) h8
  have hd : (27 : Nat) ^ 8 = 282429536481 := by decide
  rw [i5, e]
  omega
theorem pg_L {c : Int32} (h : L.toInt = 1 ∧ (97 ≤ c.toInt ∧ c.toInt ≤ 122) ∨ L.toInt = 0 ∧ ¬ (97 ≤ c.toInt ∧ c.toInt ≤ 122)) (hx : 97 ≤ c.toInt ∧ c.toInt ≤ 122 ∨ 48 ≤ c.toInt ∧ c.toInt ≤ 57) (e : c = F p) : pz_hd (L.toInt = 1 ∧ pz_l (F p) ∨ L.toInt = 0 ∧ pz_d (F p)) ∧ pz_hd (L.toInt = 0 ∨ L.toInt = 1) := by
  subst e
  constructor
  · unfold pz_hd
    omega
  · unfold pz_hd
    omega
theorem pg_d {r : Int32} (hL : pz_hd (L.toInt = 1 ∧ pz_l (F p) ∨ L.toInt = 0 ∧ pz_d (F p))) {c : Int32} (e : c = F p) (h : (-48) ≤ r.toInt ∧ r.toInt ≤ 207 ∧ (c.toInt = 63 ∧ r.toInt = 10 ∨ ¬ c.toInt = 63 ∧ r.toInt = c.toInt - 48)) : (-48) ≤ r.toInt ∧ r.toInt ≤ 207 ∧ r.toInt = (F p).toInt - 48 := by
  subst e
  unfold pz_hd at hL
  omega
theorem pr_w (hb : pz_skip F n a = p) (h4 : 400 < n) (hp : 400 ≤ p) (hk : k.toInt = 1) (hf : fr.toInt = 400) : pz_R F n a k sg fr t f1 f2 x := by
  obtain ⟨k1, k2, k3⟩ := pz_K0 (pz_B_ge hb (by omega))
  exact ⟨by rw [k2]; omega, fun z => absurd k1 z, Or.inr (Or.inl ⟨hk, Or.inl ⟨k1, h4⟩⟩)⟩
theorem pr_s (hb : pz_skip F n a = p) (h4 : n ≤ 400) (hp : p = n) (hk : k.toInt = 0) (hf : fr.toInt = (n : Int)) : pz_R F n a k sg fr t f1 f2 x := by
  obtain ⟨k1, k2, k3⟩ := pz_K0 (pz_B_ge hb (by omega))
  exact ⟨by rw [k2]; omega, fun z => absurd k1 z, Or.inl ⟨hk, k1, h4⟩⟩
theorem pr_g (hb : pz_skip F n a = p) (hp : p < min n 400) (hl : ¬ pz_l (F p)) (hd : ¬ pz_d (F p)) (hk : ((F p).toInt = 58 ∨ (F p).toInt = 59) ∧ k.toInt = 4 ∨ ¬ ((F p).toInt = 58 ∨ (F p).toInt = 59) ∧ k.toInt = 1) (hs : sg = F p) (hf : fr.toInt = (p : Int)) (ht : t.toInt = (p : Int) + 1) : pz_R F n a k sg fr t f1 f2 x := by
  have hB := pz_B_lt hb hp
  subst hB
  obtain ⟨k1, k2, k3⟩ := pz_KG (F := F) (n := n) (a := a) (by omega) hl hd
  have y := pz_kY_ne (c := F (pz_B F n a))
  rw [← k1] at y
  have y2 : pz_kY (F (pz_B F n a)) = 1 → ¬ ((F (pz_B F n a)).toInt = 58 ∨ (F (pz_B F n a)).toInt = 59) := fun z w => by
    rcases w with w | w
    · rw [show pz_kY (F (pz_B F n a)) = 4 from pz_if1 w] at z; omega
    · rw [show pz_kY (F (pz_B F n a)) = 5 from (pz_if0 (by omega)).trans (pz_if1 w)] at z; omega
  rw [← k1] at y2
  subst hs
  refine ⟨by rw [k2]; exact hf, fun _ => by rw [k3]; omega, ?_⟩
  rcases y with y | y | y
  · exact Or.inr (Or.inl ⟨by have := y2 y; omega, Or.inr y⟩)
  · exact Or.inr (Or.inr (Or.inr (Or.inr ⟨by omega, Or.inl y⟩)))
  · exact Or.inr (Or.inr (Or.inr (Or.inr ⟨by omega, Or.inr y⟩)))
theorem pr_n (hb : pz_skip F n a = p) (hp : p < min n 400) (hl : pz_l (F p)) (I : tg_I F n p t g x L) (h : ¬ (t.toInt < (n : Int) ∧ (pz_l (F t.toInt.toNat) ∨ pz_d (F t.toInt.toNat)))) (hL : L.toInt = 1) {mm : Int32} (hmm : mm.toInt = t.toInt - (p : Int)) (hK : pg_K g mm L k) (hf : fr.toInt = (p : Int)) : pz_R F n a k sg fr t f1 f2 x := by
  have hk : (¬ g.toInt = 0 ∧ t.toInt - (p : Int) ≤ 8) ∧ k.toInt = 2 ∨ ¬ (¬ g.toInt = 0 ∧ t.toInt - (p : Int) ≤ 8) ∧ k.toInt = 1 := by
    have z := hK.1 hL
    omega
  have hB := pz_B_lt hb hp
  subst hB
  have e := tg_e I h
  obtain ⟨i1, i2, i4, i5, i6⟩ := I
  obtain ⟨k1, k2, k3⟩ := pz_KN (F := F) (n := n) (a := a) (by omega) hl
  refine ⟨by rw [k2]; exact hf, fun _ => by rw [k3, e]; omega, ?_⟩
  rcases hk with ⟨z1, z2⟩ | ⟨z1, z2⟩
  · have ha : pz_al F (pz_B F n a) (pz_end F n (pz_B F n a) - pz_B F n a) ∧ pz_end F n (pz_B F n a) - pz_B F n a ≤ 8 := by
      rw [e]
      refine ⟨?_, by omega⟩
      rcases i4 with y | y
      · rcases y.2 with w | w
        · exact w.2
        · omega
      · exact absurd y.1 z1.1
    have y : pz_K F n a = pz_kn (pz_n8 F (pz_B F n a) (pz_end F n (pz_B F n a) - pz_B F n a)) := k1.trans (pz_if1 ha)
    have y2 := pz_kn_ne (x := pz_n8 F (pz_B F n a) (pz_end F n (pz_B F n a) - pz_B F n a))
    refine Or.inr (Or.inr (Or.inl ⟨z2, by omega, ?_⟩))
    unfold pz_W pu_v
    rw [k2, k3, e]
    exact i5
  · have ha : ¬ (pz_al F (pz_B F n a) (pz_end F n (pz_B F n a) - pz_B F n a) ∧ pz_end F n (pz_B F n a) - pz_B F n a ≤ 8) := by
      rw [e]
      intro w
      rcases i4 with y | y
      · omega
      · exact y.2 (Or.inl ⟨hL, w.1⟩)
    exact Or.inr (Or.inl ⟨z2, Or.inr (k1.trans (pz_if0 ha))⟩)
theorem pr_u (hb : pz_skip F n a = p) (hp : p < min n 400) (hl : pz_d (F p)) (I : tg_I F n p t g x L) (h : ¬ (t.toInt < (n : Int) ∧ (pz_l (F t.toInt.toNat) ∨ pz_d (F t.toInt.toNat)))) (hL : L.toInt = 0) {mm : Int32} (hmm : mm.toInt = t.toInt - (p : Int)) (hK : pg_K g mm L k) (hf : fr.toInt = (p : Int)) (h1 : f1.toInt = (F p).toInt - 48) (h2 : mm.toInt ≤ 1 ∧ f2.toInt = -1 ∨ 1 < mm.toInt ∧ ((F (p + 1)).toInt = 63 ∧ f2.toInt = 10 ∨ ¬ (F (p + 1)).toInt = 63 ∧ f2.toInt = (F (p + 1)).toInt - 48)) : pz_R F n a k sg fr t f1 f2 x := by
  have hk : (¬ g.toInt = 0 ∧ t.toInt - (p : Int) ≤ 2) ∧ k.toInt = 3 ∨ ¬ (¬ g.toInt = 0 ∧ t.toInt - (p : Int) ≤ 2) ∧ k.toInt = 1 := by
    have z := hK.2 hL
    omega
  have hB := pz_B_lt hb hp
  subst hB
  have e := tg_e I h
  have e1 := pz_end_1 (F := F) (n := n) (b := pz_B F n a) (by omega) (Or.inr hl)
  obtain ⟨i1, i2, i4, i5, i6⟩ := I
  obtain ⟨k1, k2, k3⟩ := pz_KU (F := F) (n := n) (a := a) (by omega) hl
  refine ⟨by rw [k2]; exact hf, fun _ => by rw [k3, e]; omega, ?_⟩
  rcases hk with ⟨z1, z2⟩ | ⟨z1, z2⟩
  · have ha : pz_ad F (pz_B F n a) (t.toInt.toNat - pz_B F n a) := by
      rcases i4 with y | y
      · rcases y.2 with w | w
        · omega
        · exact w.2
      · exact absurd y.1 z1.1
    have y : pz_K F n a = 3 := k1.trans (pz_if1 (by rw [e]; exact ⟨ha, by omega⟩))
    refine Or.inr (Or.inr (Or.inr (Or.inl ⟨z2, y, ?_⟩)))
    unfold pz_V
    rw [k2, k3, e]
    rw [e] at e1
    rcases h2 with w | w
    · refine Or.inl ⟨w.2, ?_⟩
      rw [h1]
      exact (pz_if1 (by omega)).symm
    · have e3 : t.toInt.toNat - pz_B F n a = 2 := by omega
      rw [e3] at ha
      have d1 : pz_d (F (pz_B F n a + 1)) := ha.2
      have ev : pz_v F (pz_B F n a) t.toInt.toNat = 10 * ((F (pz_B F n a)).toInt - 48) + ((F (pz_B F n a + 1)).toInt - 48) := pz_if0 (by omega)
      rw [ev]
      exact Or.inr (by omega)
  · have ha : ¬ (pz_ad F (pz_B F n a) (pz_end F n (pz_B F n a) - pz_B F n a) ∧ pz_end F n (pz_B F n a) - pz_B F n a ≤ 2) := by
      rw [e]
      intro w
      rcases i4 with y | y
      · omega
      · exact y.2 (Or.inr ⟨hL, w.1⟩)
    exact Or.inr (Or.inl ⟨z2, Or.inr (k1.trans (pz_if0 ha))⟩)
end TG
