/-! What holds of the class's cells at every step, whatever calls were made: references lead to cells of their kind, counts are in their ranges. Kinds beside the classes' own: 100 int[], 101 the int[] of Units.unitCounts, 200 long[], 300 byte[], 400 Tablet[], 401 Line[], 402 Hole[], 403 Fragment[], 404 long[][]. -/
/-- a field that holds a reference: the kind of what it leads to (0: none such) -/
def sx_tk (ci k : Nat) : Nat := match ci, k with
  | 0, 0 => 7
  | 3, 0 => 100 | 3, 3 => 100 | 3, 4 => 100
  | 4, 1 => 404 | 4, 2 => 404 | 4, 3 => 404 | 4, 4 => 404 | 4, 5 => 100
  | 5, 0 => 401 | 5, 1 => 402
  | 6, 0 => 8
  | 7, 0 => 300
  | 8, 7 => 7
  | 9, 0 => 200 | 9, 1 => 101 | 9, 2 => 200 | 9, 3 => 100 | 9, 4 => 100 | 9, 5 => 100
  | 10, 0 => 8
  | 11, 0 => 7 | 11, 1 => 7 | 11, 2 => 7 | 11, 3 => 10 | 11, 4 => 6 | 11, 5 => 4 | 11, 6 => 3 | 11, 7 => 400 | 11, 8 => 5 | 11, 9 => 403 | 11, 10 => 100 | 11, 11 => 9 | 11, 12 => 9
  | _, _ => 0
/-- the length of the array that a field leads to; of a Text its part: 1 the tape, 2 OUT, 3 what is said, 4 a FRAGMENT's (0: not said) -/
def sx_ln (ci k : Nat) : Nat := match ci, k with
  | 0, 0 => 4
  | 3, 0 => 12 | 3, 3 => 144 | 3, 4 => 4096
  | 4, 1 => 5 | 4, 2 => 4 | 4, 3 => 5 | 4, 4 => 5 | 4, 5 => 4
  | 5, 0 => 12 | 5, 1 => 4
  | 9, 0 => 3 | 9, 1 => 3 | 9, 2 => 15 | 9, 3 => 15 | 9, 4 => 15 | 9, 5 => 15
  | 11, 0 => 1 | 11, 1 => 2 | 11, 2 => 3 | 11, 7 => 8 | 11, 9 => 12 | 11, 10 => 144
  | _, _ => 0
/-- what an array of references holds -/
def sx_ek (k : Nat) : Nat := match k with
  | 400 => 5 | 401 => 2 | 402 => 1 | 403 => 0 | _ => 200
def sx_T (h : Sh) (L : List Nat) (q : Sg) : Prop := ∀ a, a ∈ L → ∀ k, sx_tk (h.1 a) k ≠ 0 → q.2.2.1 a k ∈ L ∧ h.1 (q.2.2.1 a k) = sx_tk (h.1 a) k ∧ (sx_ln (h.1 a) k ≠ 0 → h.2.1 (q.2.2.1 a k) = sx_ln (h.1 a) k)
def sx_S (h : Sh) (L : List Nat) : Prop := (∀ a, a ∈ L → h.2.1 a ≤ 5000) ∧ ∀ a, a ∈ L → 400 ≤ h.1 a → ∀ j, j < h.2.1 a → h.2.2.2 a j ∈ L ∧ h.1 (h.2.2.2 a j) = sx_ek (h.1 a) ∧ (h.1 a = 404 → h.2.1 (h.2.2.2 a j) = 12)
def sx_in (v : Int32) (lo hi : Int) : Prop := lo ≤ v.toInt ∧ v.toInt ≤ hi
def sx_R (K cap k : Nat) (v : Int32) : Prop := match K, k with
  | 0, 3 => sx_in v 0 201
  | 1, 0 => sx_in v 0 11 | 1, 3 => sx_in v 0 1
  | 4, 0 => sx_in v 0 12
  | 5, 2 => sx_in v 0 12 | 5, 3 => sx_in v 0 4
  | 7, 1 => sx_in v 0 (cap : Int)
  | 8, 10 => sx_in v 0 500
  | 9, 6 => sx_in v 0 3
  | 11, 13 => sx_in v 0 8 | 11, 14 => sx_in v 0 12
  | _, _ => True
def sx_I (h : Sh) (L : List Nat) (q : Sg) : Prop := ∀ a, a ∈ L → ∀ k, sx_R (h.1 a) (h.2.1 (q.2.2.1 a 0)) k (q.1 a k)
def sx_G (h : Sh) (L : List Nat) (q : Sg) : Prop := ∀ a, a ∈ L → h.1 a = 101 → ∀ j, sx_in (q.2.2.2.1 a j) 0 5
def sx_V (h : Sh) (L : List Nat) (q : Sg) : Prop := sx_T h L q ∧ sx_S h L ∧ sx_I h L q ∧ sx_G h L q
/-- outside 'ok' no int field and no reference has changed -/
def sx_fr (L : List Nat) (ok : Nat → Prop) (q q' : Sg) : Prop := ∀ a, a ∈ L → ¬ ok a → q'.1 a = q.1 a ∧ q'.2.2.1 a = q.2.2.1 a
theorem sx_fr.rf {L : List Nat} {ok : Nat → Prop} {q : Sg} : sx_fr L ok q q := fun _ _ _ => ⟨rfl, rfl⟩
theorem sx_fr.tr {L : List Nat} {ok : Nat → Prop} {q q1 q2 : Sg} (h1 : sx_fr L ok q q1) (h2 : sx_fr L ok q1 q2) : sx_fr L ok q q2 := fun a ha hn => ⟨(h2 a ha hn).1.trans (h1 a ha hn).1, (h2 a ha hn).2.trans (h1 a ha hn).2⟩
theorem sx_fr.mono {L : List Nat} {ok ok' : Nat → Prop} {q q1 : Sg} (h1 : sx_fr L ok q q1) (hm : ∀ a, ok a → ok' a) : sx_fr L ok' q q1 := fun a ha hn => h1 a ha (fun z => hn (hm a z))
theorem sx_fr.pI {L : List Nat} {ok : Nat → Prop} {q : Sg} {b k : Nat} {v : Int32} (hb : ok b) : sx_fr L ok q (sg_pI q b k v) := fun a _ hn => ⟨by funext j; exact if_neg (fun (z : a = b ∧ j = k) => hn (z.1 ▸ hb)), rfl⟩
theorem sx_fr.pJ {L : List Nat} {ok : Nat → Prop} {q : Sg} {b k : Nat} {v : Int64} : sx_fr L ok q (sg_pJ q b k v) := fun _ _ _ => ⟨rfl, rfl⟩
theorem sx_fr.pG {L : List Nat} {ok : Nat → Prop} {q : Sg} {b : Nat} {g : Nat → Int32} : sx_fr L ok q (sg_pG q b g) := fun _ _ _ => ⟨rfl, rfl⟩
theorem sx_fr.pL {L : List Nat} {ok : Nat → Prop} {q : Sg} {b : Nat} {g : Nat → Int64} : sx_fr L ok q (sg_pL q b g) := fun _ _ _ => ⟨rfl, rfl⟩
theorem sx_fr.pR {L : List Nat} {ok : Nat → Prop} {q : Sg} {b k r : Nat} (hb : ok b) : sx_fr L ok q (sg_pR q b k r) := fun a _ hn => ⟨rfl, by funext j; exact if_neg (fun (z : a = b ∧ j = k) => hn (z.1 ▸ hb))⟩
section INV
variable {h : Sh} {L : List Nat} {q : Sg} {a k : Nat}
theorem sx_V.ref (hv : sx_V h L q) (ha : a ∈ L) (hk : sx_tk (h.1 a) k ≠ 0) : q.2.2.1 a k ∈ L ∧ h.1 (q.2.2.1 a k) = sx_tk (h.1 a) k ∧ (sx_ln (h.1 a) k ≠ 0 → h.2.1 (q.2.2.1 a k) = sx_ln (h.1 a) k) := hv.1 a ha k hk
theorem sx_V.elem (hv : sx_V h L q) (ha : a ∈ L) (hk : 400 ≤ h.1 a) {j : Nat} (hj : j < h.2.1 a) : h.2.2.2 a j ∈ L ∧ h.1 (h.2.2.2 a j) = sx_ek (h.1 a) ∧ (h.1 a = 404 → h.2.1 (h.2.2.2 a j) = 12) := hv.2.1.2 a ha hk j hj
theorem sx_V.len (hv : sx_V h L q) (ha : a ∈ L) : h.2.1 a ≤ 5000 := hv.2.1.1 a ha
theorem sx_V.int (hv : sx_V h L q) (ha : a ∈ L) (k : Nat) : sx_R (h.1 a) (h.2.1 (q.2.2.1 a 0)) k (q.1 a k) := hv.2.2.1 a ha k
theorem sx_V.cnt (hv : sx_V h L q) (ha : a ∈ L) (hk : h.1 a = 101) (j : Nat) : sx_in (q.2.2.2.1 a j) 0 5 := hv.2.2.2 a ha hk j
theorem sx_R_cap {K c1 c2 k : Nat} {v : Int32} (hK : K ≠ 7) (hr : sx_R K c1 k v) : sx_R K c2 k v := by
  unfold sx_R at hr ⊢
  split at hr
  all_goals first | exact hr | exact absurd rfl hK | (split <;> first | trivial | simp_all)
theorem sx_V.pI (hv : sx_V h L q) {v : Int32} (hr : sx_R (h.1 a) (h.2.1 (q.2.2.1 a 0)) k v) : sx_V h L (sg_pI q a k v) := by
  refine ⟨hv.1, hv.2.1, fun b hb j => ?_, hv.2.2.2⟩
  show sx_R (h.1 b) (h.2.1 (q.2.2.1 b 0)) j (if b = a ∧ j = k then v else q.1 b j)
  by_cases e : b = a ∧ j = k
  · rw [if_pos e, e.1, e.2]
    exact hr
  · rw [if_neg e]
    exact hv.2.2.1 b hb j
theorem sx_V.pJ (hv : sx_V h L q) {v : Int64} : sx_V h L (sg_pJ q a k v) := ⟨hv.1, hv.2.1, fun b hb j => hv.2.2.1 b hb j, hv.2.2.2⟩
theorem sx_V.pL (hv : sx_V h L q) {g : Nat → Int64} : sx_V h L (sg_pL q a g) := ⟨hv.1, hv.2.1, fun b hb j => hv.2.2.1 b hb j, hv.2.2.2⟩
theorem sx_V.pG (hv : sx_V h L q) {g : Nat → Int32} (hg : h.1 a = 101 → ∀ j, sx_in (g j) 0 5) : sx_V h L (sg_pG q a g) := by
  refine ⟨hv.1, hv.2.1, fun b hb j => hv.2.2.1 b hb j, fun b hb hk j => ?_⟩
  show sx_in ((if b = a then g else q.2.2.2.1 b) j) 0 5
  by_cases e : b = a
  · rw [if_pos e]
    exact hg (e ▸ hk) j
  · rw [if_neg e]
    exact hv.2.2.2 b hb hk j
/-- a reference is written: to a cell of its kind, and not the bytes of a Text -/
theorem sx_V.pR (hv : sx_V h L q) {r : Nat} (h7 : ¬ (h.1 a = 7 ∧ k = 0)) (hr : sx_tk (h.1 a) k ≠ 0 → r ∈ L ∧ h.1 r = sx_tk (h.1 a) k ∧ (sx_ln (h.1 a) k ≠ 0 → h.2.1 r = sx_ln (h.1 a) k)) : sx_V h L (sg_pR q a k r) := by
  refine ⟨fun b hb j hj => ?_, hv.2.1, fun b hb j => ?_, hv.2.2.2⟩
  · show (if b = a ∧ j = k then r else q.2.2.1 b j) ∈ L ∧ h.1 (if b = a ∧ j = k then r else q.2.2.1 b j) = _ ∧ (_ → h.2.1 (if b = a ∧ j = k then r else q.2.2.1 b j) = _)
    by_cases e : b = a ∧ j = k
    · rw [if_pos e, e.1, e.2]
      exact hr (by rw [← e.1, ← e.2]; exact hj)
    · rw [if_neg e]
      exact hv.1 b hb j hj
  · have hb7 := hv.2.2.1 b hb j
    show sx_R (h.1 b) (h.2.1 (if b = a ∧ 0 = k then r else q.2.2.1 b 0)) j (q.1 b j)
    by_cases e : b = a ∧ 0 = k
    · exact sx_R_cap (fun e7 => h7 ⟨e.1 ▸ e7, e.2.symm⟩) hb7
    · rw [if_neg e]
      exact hb7
end INV
