/-! What holds of the cells of class and reference at every step, whatever calls were made: references lead to cells of their kind, counts are in their ranges. Kinds beside the classes' own (0 to 12): 100 and 200 int[] and long[] whose contents are nobody's business; 101 to 104, 201, 202 the rows of Units; 110 + k, 210 + k the reference's array of field k; 300 byte[]; 400 Tablet[], 401 Line[], 402 Hole[], 403 Fragment[], 404 long[][]. The 'length' of a Text is its part: 1 the tape, 2 OUT, 3 what is said, 4 a FRAGMENT's. -/
def sx_tk (ci k : Nat) : Nat := match ci, k with
  | 0, 0 => 7
  | 3, 0 => 100
  | 3, 3 => 100
  | 3, 4 => 100
  | 4, 1 => 404
  | 4, 2 => 404
  | 4, 3 => 404
  | 4, 4 => 404
  | 4, 5 => 100
  | 5, 0 => 401
  | 5, 1 => 402
  | 6, 0 => 8
  | 7, 0 => 300
  | 8, 7 => 7
  | 9, 0 => 201
  | 9, 1 => 101
  | 9, 2 => 202
  | 9, 3 => 102
  | 9, 4 => 103
  | 9, 5 => 104
  | 10, 0 => 8
  | 11, 0 => 7
  | 11, 1 => 7
  | 11, 2 => 7
  | 11, 3 => 10
  | 11, 4 => 6
  | 11, 5 => 4
  | 11, 6 => 3
  | 11, 7 => 400
  | 11, 8 => 5
  | 11, 9 => 403
  | 11, 10 => 100
  | 11, 11 => 9
  | 11, 12 => 9
  | 12, 1 => 111
  | 12, 3 => 113
  | 12, 16 => 226
  | 12, 17 => 227
  | 12, 18 => 128
  | 12, 19 => 129
  | 12, 21 => 131
  | 12, 23 => 133
  | 12, 24 => 134
  | 12, 25 => 135
  | 12, 26 => 136
  | 12, 27 => 137
  | 12, 28 => 138
  | 12, 29 => 139
  | 12, 30 => 140
  | 12, 34 => 144
  | 12, 35 => 245
  | 12, 40 => 150
  | 12, 41 => 151
  | 12, 42 => 152
  | 12, 43 => 153
  | 12, 44 => 154
  | 12, 46 => 156
  | 12, 47 => 157
  | 12, 48 => 158
  | _, _ => 0
def sx_cap (t : Nat) : Nat := match t with
  | 1 => 440 | 2 => 59 | 3 => 402 | 4 => 200 | _ => 0
def sx_ln (ci t k : Nat) : Nat := match ci, k with
  | 0, 0 => 4
  | 3, 0 => 12
  | 3, 3 => 144
  | 3, 4 => 4096
  | 4, 1 => 5
  | 4, 2 => 4
  | 4, 3 => 5
  | 4, 4 => 5
  | 4, 5 => 4
  | 5, 0 => 12
  | 5, 1 => 4
  | 9, 0 => 3
  | 9, 1 => 3
  | 9, 2 => 15
  | 9, 3 => 15
  | 9, 4 => 15
  | 9, 5 => 15
  | 11, 0 => 1
  | 11, 1 => 2
  | 11, 2 => 3
  | 11, 7 => 8
  | 11, 9 => 12
  | 11, 10 => 144
  | 12, 1 => 440
  | 12, 3 => 500
  | 12, 16 => 6
  | 12, 17 => 30
  | 12, 18 => 6
  | 12, 19 => 30
  | 12, 21 => 80
  | 12, 23 => 9
  | 12, 24 => 108
  | 12, 25 => 108
  | 12, 26 => 108
  | 12, 27 => 9
  | 12, 28 => 540
  | 12, 29 => 540
  | 12, 30 => 540
  | 12, 34 => 4
  | 12, 35 => 12
  | 12, 40 => 2400
  | 12, 41 => 12
  | 12, 42 => 12
  | 12, 43 => 12
  | 12, 44 => 12
  | 12, 46 => 144
  | 12, 47 => 4096
  | 12, 48 => 12
  | 7, 0 => sx_cap t
  | _, _ => 0
def sx_ek (k : Nat) : Nat := match k with
  | 400 => 5 | 401 => 2 | 402 => 1 | 403 => 0 | _ => 200
def sx_T (h : Sh) (L : List Nat) (q : Sg) : Prop := ∀ a, a ∈ L → ∀ k, sx_tk (h.1 a) k ≠ 0 → q.2.2.1 a k ∈ L ∧ h.1 (q.2.2.1 a k) = sx_tk (h.1 a) k ∧ (sx_ln (h.1 a) (h.2.1 a) k ≠ 0 → h.2.1 (q.2.2.1 a k) = sx_ln (h.1 a) (h.2.1 a) k)
def sx_S (h : Sh) (L : List Nat) : Prop := (∀ a, a ∈ L → h.2.1 a ≤ 5000) ∧ ∀ a, a ∈ L → 400 ≤ h.1 a → ∀ j, j < h.2.1 a → h.2.2.2 a j ∈ L ∧ h.1 (h.2.2.2 a j) = sx_ek (h.1 a) ∧ (h.1 a = 404 → h.2.1 (h.2.2.2 a j) = 12)
def sx_in (v : Int32) (lo hi : Int) : Prop := lo ≤ v.toInt ∧ v.toInt ≤ hi
def sx_R (K cap k : Nat) (v : Int32) : Prop := match K, k with
  | 1, 0 => sx_in v (0) 11
  | 4, 0 => sx_in v (0) 12
  | 5, 2 => sx_in v (0) 12
  | 5, 3 => sx_in v (0) 4
  | 9, 6 => sx_in v (0) 3
  | 11, 13 => sx_in v (0) 8
  | 11, 14 => sx_in v (0) 12
  | 12, 2 => sx_in v (0) 440
  | 12, 4 => sx_in v (0) 500
  | 12, 5 => sx_in v (0) 500
  | 12, 6 => sx_in v (0) 500
  | 12, 7 => sx_in v (0) 500
  | 12, 12 => sx_in v (-48) 207
  | 12, 13 => sx_in v (-48) 207
  | 12, 20 => sx_in v (0) 3
  | 12, 22 => sx_in v (0) 80
  | 12, 31 => sx_in v (0) 8
  | 12, 32 => sx_in v (0) 2
  | 12, 33 => sx_in v (0) 4
  | 12, 45 => sx_in v (0) 12
  | 7, 1 => sx_in v 0 (cap : Int)
  | _, _ => True
def sx_E (K : Nat) (v : Int32) : Prop := match K with
  | 101 => sx_in v (0) 5
  | 111 => sx_in v (0) 255
  | 113 => sx_in v (0) 255
  | 128 => sx_in v (0) 5
  | 133 => sx_in v (0) 12
  | 135 => sx_in v (0) 2
  | 136 => sx_in v (0) 5
  | 137 => sx_in v (0) 4
  | 140 => sx_in v (0) 4
  | 150 => sx_in v (0) 255
  | 151 => sx_in v (0) 200
  | 154 => sx_in v (0) 201
  | _ => True
def sx_I (h : Sh) (L : List Nat) (q : Sg) : Prop := ∀ a, a ∈ L → ∀ k, sx_R (h.1 a) (h.2.1 (q.2.2.1 a 0)) k (q.1 a k)
def sx_G (h : Sh) (L : List Nat) (q : Sg) : Prop := ∀ a, a ∈ L → ∀ j, sx_E (h.1 a) (q.2.2.2.1 a j)
def sx_V (h : Sh) (L : List Nat) (q : Sg) : Prop := sx_T h L q ∧ sx_S h L ∧ sx_I h L q ∧ sx_G h L q
/-- outside 'ok' nothing has changed (but the contents of arrays of kinds 100 and 200); references change in Tokens and in the class itself alone -/
def sx_fr (h : Sh) (L : List Nat) (ok : Nat → Prop) (q q' : Sg) : Prop := (∀ a, a ∈ L → ¬ ok a → q'.1 a = q.1 a ∧ q'.2.1 a = q.2.1 a ∧ (h.1 a ≠ 100 → q'.2.2.2.1 a = q.2.2.2.1 a) ∧ (h.1 a ≠ 200 → q'.2.2.2.2 a = q.2.2.2.2 a)) ∧ ∀ a, a ∈ L → ¬ (ok a ∧ (h.1 a = 8 ∨ h.1 a = 11)) → q'.2.2.1 a = q.2.2.1 a
section FR
variable {h : Sh} {L : List Nat} {ok ok' : Nat → Prop} {q q1 q2 : Sg} {b k : Nat}
theorem sx_fr.rf : sx_fr h L ok q q := ⟨fun _ _ _ => ⟨rfl, rfl, fun _ => rfl, fun _ => rfl⟩, fun _ _ _ => rfl⟩
theorem sx_fr.tr (h1 : sx_fr h L ok q q1) (h2 : sx_fr h L ok q1 q2) : sx_fr h L ok q q2 := ⟨fun a ha hn => ⟨(h2.1 a ha hn).1.trans (h1.1 a ha hn).1, (h2.1 a ha hn).2.1.trans (h1.1 a ha hn).2.1, fun z => ((h2.1 a ha hn).2.2.1 z).trans ((h1.1 a ha hn).2.2.1 z), fun z => ((h2.1 a ha hn).2.2.2 z).trans ((h1.1 a ha hn).2.2.2 z)⟩, fun a ha hn => (h2.2 a ha hn).trans (h1.2 a ha hn)⟩
theorem sx_fr.mono (h1 : sx_fr h L ok q q1) (hm : ∀ a, ok a → ok' a) : sx_fr h L ok' q q1 := ⟨fun a ha hn => h1.1 a ha (fun z => hn (hm a z)), fun a ha hn => h1.2 a ha (fun z => hn ⟨hm a z.1, z.2⟩)⟩
theorem sx_fr.pI {v : Int32} (hb : ok b) : sx_fr h L ok q (sg_pI q b k v) := ⟨fun a _ hn => ⟨by funext j; exact if_neg (fun (z : a = b ∧ j = k) => hn (z.1 ▸ hb)), rfl, fun _ => rfl, fun _ => rfl⟩, fun _ _ _ => rfl⟩
theorem sx_fr.pJ {v : Int64} (hb : ok b) : sx_fr h L ok q (sg_pJ q b k v) := ⟨fun a _ hn => ⟨rfl, by funext j; exact if_neg (fun (z : a = b ∧ j = k) => hn (z.1 ▸ hb)), fun _ => rfl, fun _ => rfl⟩, fun _ _ _ => rfl⟩
theorem sx_fr.pR {r : Nat} (hb : ok b ∧ (h.1 b = 8 ∨ h.1 b = 11)) : sx_fr h L ok q (sg_pR q b k r) := ⟨fun a _ hn => ⟨rfl, rfl, fun _ => rfl, fun _ => rfl⟩, fun a _ hn => by funext j; exact if_neg (fun (z : a = b ∧ j = k) => hn (z.1 ▸ hb))⟩
theorem sx_fr.pG {g : Nat → Int32} (hb : h.1 b = 100 ∨ ok b) : sx_fr h L ok q (sg_pG q b g) := ⟨fun a _ hn => ⟨rfl, rfl, fun z => if_neg (fun (e : a = b) => hb.elim (fun y => z (e ▸ y)) (fun y => hn (e ▸ y))), fun _ => rfl⟩, fun _ _ _ => rfl⟩
theorem sx_fr.pL {g : Nat → Int64} (hb : h.1 b = 200 ∨ ok b) : sx_fr h L ok q (sg_pL q b g) := ⟨fun a _ hn => ⟨rfl, rfl, fun _ => rfl, fun z => if_neg (fun (e : a = b) => hb.elim (fun y => z (e ▸ y)) (fun y => hn (e ▸ y)))⟩, fun _ _ _ => rfl⟩
theorem sx_fr.I (h1 : sx_fr h L ok q q1) (hb : b ∈ L) (hn : ¬ ok b) (k : Nat) : q1.1 b k = q.1 b k := congrFun (h1.1 b hb hn).1 k
theorem sx_fr.J (h1 : sx_fr h L ok q q1) (hb : b ∈ L) (hn : ¬ ok b) (k : Nat) : q1.2.1 b k = q.2.1 b k := congrFun (h1.1 b hb hn).2.1 k
theorem sx_fr.R (h1 : sx_fr h L ok q q1) (hb : b ∈ L) (hn : ¬ (ok b ∧ (h.1 b = 8 ∨ h.1 b = 11))) (k : Nat) : q1.2.2.1 b k = q.2.2.1 b k := congrFun (h1.2 b hb hn) k
theorem sx_fr.G (h1 : sx_fr h L ok q q1) (hb : b ∈ L) (hn : ¬ ok b) (hk : h.1 b ≠ 100) : q1.2.2.2.1 b = q.2.2.2.1 b := (h1.1 b hb hn).2.2.1 hk
theorem sx_fr.Lg (h1 : sx_fr h L ok q q1) (hb : b ∈ L) (hn : ¬ ok b) (hk : h.1 b ≠ 200) : q1.2.2.2.2 b = q.2.2.2.2 b := (h1.1 b hb hn).2.2.2 hk
theorem sg_pI_e {v : Int32} : (sg_pI q b k v).1 b k = v := if_pos ⟨rfl, rfl⟩
theorem sg_pI_k {v : Int32} {a j : Nat} (hj : j ≠ k) : (sg_pI q b k v).1 a j = q.1 a j := if_neg (fun z => hj z.2)
theorem sg_pI_a {v : Int32} {a j : Nat} (hj : a ≠ b) : (sg_pI q b k v).1 a j = q.1 a j := if_neg (fun z => hj z.1)
theorem sg_pJ_e {v : Int64} : (sg_pJ q b k v).2.1 b k = v := if_pos ⟨rfl, rfl⟩
theorem sg_pJ_k {v : Int64} {a j : Nat} (hj : j ≠ k) : (sg_pJ q b k v).2.1 a j = q.2.1 a j := if_neg (fun z => hj z.2)
theorem sg_pJ_a {v : Int64} {a j : Nat} (hj : a ≠ b) : (sg_pJ q b k v).2.1 a j = q.2.1 a j := if_neg (fun z => hj z.1)
theorem sg_pR_e {v : Nat} : (sg_pR q b k v).2.2.1 b k = v := if_pos ⟨rfl, rfl⟩
theorem sg_pR_k {v : Nat} {a j : Nat} (hj : j ≠ k) : (sg_pR q b k v).2.2.1 a j = q.2.2.1 a j := if_neg (fun z => hj z.2)
theorem sg_pR_a {v : Nat} {a j : Nat} (hj : a ≠ b) : (sg_pR q b k v).2.2.1 a j = q.2.2.1 a j := if_neg (fun z => hj z.1)
theorem sg_pG_e {g : Nat → Int32} : (sg_pG q b g).2.2.2.1 b = g := if_pos rfl
theorem sg_pG_a {g : Nat → Int32} {a : Nat} (hj : a ≠ b) : (sg_pG q b g).2.2.2.1 a = q.2.2.2.1 a := if_neg hj
theorem sg_pL_e {g : Nat → Int64} : (sg_pL q b g).2.2.2.2 b = g := if_pos rfl
theorem sg_pL_a {g : Nat → Int64} {a : Nat} (hj : a ≠ b) : (sg_pL q b g).2.2.2.2 a = q.2.2.2.2 a := if_neg hj
theorem sx_ka {a b : Nat} (h : Sh) {x y : Nat} (ha : h.1 a = x) (hb : h.1 b = y) (hxy : x ≠ y) : a ≠ b := fun e => hxy (by rw [← ha, ← hb, e])
end FR
section INV
variable {h : Sh} {L : List Nat} {q : Sg} {a k : Nat}
theorem sx_V.ref (hv : sx_V h L q) (ha : a ∈ L) {K t : Nat} (hK : h.1 a = K) (k : Nat) (ht : sx_tk K k = t) (h0 : t ≠ 0) : ∃ r, q.2.2.1 a k = r ∧ r ∈ L ∧ h.1 r = t := by
  have z := hv.1 a ha k (by rw [hK, ht]; exact h0)
  exact ⟨_, rfl, z.1, by rw [z.2.1, hK, ht]⟩
theorem sx_V.refn (hv : sx_V h L q) (ha : a ∈ L) {K t n : Nat} (hK : h.1 a = K) (k : Nat) (ht : sx_tk K k = t) (h0 : t ≠ 0) (hn : sx_ln K (h.2.1 a) k = n) (h1 : n ≠ 0) : ∃ r, q.2.2.1 a k = r ∧ r ∈ L ∧ h.1 r = t ∧ h.2.1 r = n := by
  have z := hv.1 a ha k (by rw [hK, ht]; exact h0)
  exact ⟨_, rfl, z.1, by rw [z.2.1, hK, ht], by rw [z.2.2 (by rw [hK, hn]; exact h1), hK, hn]⟩
theorem sx_V.elem (hv : sx_V h L q) (ha : a ∈ L) {K t : Nat} (hK : h.1 a = K) (h4 : 400 ≤ K) (ht : sx_ek K = t) {j : Nat} (hj : j < h.2.1 a) : ∃ r, h.2.2.2 a j = r ∧ r ∈ L ∧ h.1 r = t := by
  have z := hv.2.1.2 a ha (by rw [hK]; exact h4) j hj
  exact ⟨_, rfl, z.1, by rw [z.2.1, hK, ht]⟩
theorem sx_V.row (hv : sx_V h L q) (ha : a ∈ L) (hK : h.1 a = 404) {j : Nat} (hj : j < h.2.1 a) : ∃ r, h.2.2.2 a j = r ∧ r ∈ L ∧ h.1 r = 200 ∧ h.2.1 r = 12 := by
  have z := hv.2.1.2 a ha (by rw [hK]; decide) j hj
  exact ⟨_, rfl, z.1, by rw [z.2.1, hK]; rfl, z.2.2 hK⟩
theorem sx_V.len (hv : sx_V h L q) (ha : a ∈ L) : h.2.1 a ≤ 5000 := hv.2.1.1 a ha
theorem sx_V.int (hv : sx_V h L q) (ha : a ∈ L) {K : Nat} (hK : h.1 a = K) (k : Nat) : sx_R K (h.2.1 (q.2.2.1 a 0)) k (q.1 a k) := hK ▸ hv.2.2.1 a ha k
theorem sx_V.cnt (hv : sx_V h L q) (ha : a ∈ L) {K : Nat} (hK : h.1 a = K) (j : Nat) : sx_E K (q.2.2.2.1 a j) := hK ▸ hv.2.2.2 a ha j
theorem sx_R_cap {K c1 c2 k : Nat} {v : Int32} (hK : K ≠ 7) (hr : sx_R K c1 k v) : sx_R K c2 k v := by
  unfold sx_R at hr ⊢
  split at hr
  all_goals first | exact hr | exact absurd rfl hK | (split <;> first | trivial | simp_all)
theorem sx_V.pI (hv : sx_V h L q) {v : Int32} {K : Nat} (hK : h.1 a = K) (hr : sx_R K (h.2.1 (q.2.2.1 a 0)) k v) : sx_V h L (sg_pI q a k v) := by
  refine ⟨hv.1, hv.2.1, fun b hb j => ?_, hv.2.2.2⟩
  show sx_R (h.1 b) (h.2.1 (q.2.2.1 b 0)) j (if b = a ∧ j = k then v else q.1 b j)
  by_cases e : b = a ∧ j = k
  · rw [if_pos e, e.1, e.2, hK]
    exact hr
  · rw [if_neg e]
    exact hv.2.2.1 b hb j
theorem sx_V.pJ (hv : sx_V h L q) {v : Int64} : sx_V h L (sg_pJ q a k v) := ⟨hv.1, hv.2.1, fun b hb j => hv.2.2.1 b hb j, hv.2.2.2⟩
theorem sx_V.pL (hv : sx_V h L q) {g : Nat → Int64} : sx_V h L (sg_pL q a g) := ⟨hv.1, hv.2.1, fun b hb j => hv.2.2.1 b hb j, hv.2.2.2⟩
theorem sx_V.pG (hv : sx_V h L q) {g : Nat → Int32} {K : Nat} (hK : h.1 a = K) (hg : ∀ j, sx_E K (g j)) : sx_V h L (sg_pG q a g) := by
  refine ⟨hv.1, hv.2.1, fun b hb j => hv.2.2.1 b hb j, fun b hb j => ?_⟩
  show sx_E (h.1 b) ((if b = a then g else q.2.2.2.1 b) j)
  by_cases e : b = a
  · rw [if_pos e, e, hK]
    exact hg j
  · rw [if_neg e]
    exact hv.2.2.2 b hb j
theorem sx_V.up1 (hv : sx_V h L q) (ha : a ∈ L) {K i : Nat} (hK : h.1 a = K) {v : Int32} (hg : sx_E K v) : sx_V h L (sg_pG q a (upd (q.2.2.2.1 a) i v)) := hv.pG hK (fun j => by
  unfold upd
  split
  · exact hg
  · exact hv.cnt ha hK j)
/-- a reference is written: to a cell of its kind, and not the bytes of a Text -/
theorem sx_V.pR (hv : sx_V h L q) {r : Nat} (h7 : ¬ (h.1 a = 7 ∧ k = 0)) (hr : sx_tk (h.1 a) k ≠ 0 → r ∈ L ∧ h.1 r = sx_tk (h.1 a) k ∧ (sx_ln (h.1 a) (h.2.1 a) k ≠ 0 → h.2.1 r = sx_ln (h.1 a) (h.2.1 a) k)) : sx_V h L (sg_pR q a k r) := by
  refine ⟨fun b hb j hj => ?_, hv.2.1, fun b hb j => ?_, hv.2.2.2⟩
  · show (if b = a ∧ j = k then r else q.2.2.1 b j) ∈ L ∧ h.1 (if b = a ∧ j = k then r else q.2.2.1 b j) = _ ∧ (_ → h.2.1 (if b = a ∧ j = k then r else q.2.2.1 b j) = _)
    by_cases e : b = a ∧ j = k
    · rw [if_pos e, e.1, e.2]
      exact hr (by rw [← e.1, ← e.2]; exact hj)
    · rw [if_neg e]
      exact hv.1 b hb j hj
  · have hb7 := hv.2.2.1 b hb j
    show sx_R (h.1 b) (h.2.1 (if b = a ∧ 0 = k then r else q.2.2.1 b 0)) j (q.1 b j)
    by_cases e : b = a ∧ 0 = k
    · exact sx_R_cap (fun e7 => h7 ⟨e.1 ▸ e7, e.2.symm⟩) hb7
    · rw [if_neg e]
      exact hb7
end INV
