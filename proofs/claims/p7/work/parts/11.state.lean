/-! The state as functions. Sg: what calls change (int fields, long fields, references in fields, int and byte arrays, long arrays); Sh: what stays (the kind of each cell, the length of each array, the array classes by kind, what arrays of references hold). Kinds: 0 to 12 an object of that class of vwCl; 13 to 199 an int[], 200 to 299 a long[], 300 to 399 a byte[], 400 and on an array of references (arrays of one type that different fields hold have kinds of their own: so they are apart). -/
abbrev Sg : Type := (Nat → Nat → Int32) × (Nat → Nat → Int64) × (Nat → Nat → Nat) × (Nat → Nat → Int32) × (Nat → Nat → Int64)
abbrev Sh : Type := (Nat → Nat) × (Nat → Nat) × (Nat → ClassId) × (Nat → Nat → Nat)
def sg_nf (ci : Nat) : Nat := match ci with
  | 0 => 4 | 1 => 7 | 2 => 6 | 3 => 5 | 4 => 7 | 5 => 7 | 6 => 8 | 7 => 2 | 8 => 11 | 9 => 7 | 10 => 3 | 11 => 16 | _ => 51
def sg_ty (ci : Nat) : Nat → FieldType := match ci with
  | 0 => tyX0 | 1 => tyX1 | 2 => tyX2 | 3 => tyX3 | 4 => tyX4 | 5 => tyX5 | 6 => tyX6 | 7 => tyX7 | 8 => tyX8 | 9 => tyX9 | 10 => tyX10 | 11 => tyX11 | _ => tyX12
def sg_v (t : FieldType) (i : Int32) (j : Int64) (r : Nat) : Value := match t with
  | .int => .int i
  | .boolean => .int i
  | .long => .long j
  | _ => .ref r
def sg_fs (q : Sg) (ci a : Nat) : List Value := (List.range (sg_nf ci)).map (fun k => sg_v (sg_ty ci k) (q.1 a k) (q.2.1 a k) (q.2.2.1 a k))
def sg_F (h : Sh) (q : Sg) (a : Nat) : va_E :=
  if h.1 a < 13 then .inr (h.1 a, sg_fs q (h.1 a) a)
  else if h.1 a < 200 then .inl (h.2.2.1 13, h.2.1 a, .inl (q.2.2.2.1 a))
  else if h.1 a < 300 then .inl (h.2.2.1 200, h.2.1 a, .inr (.inl (q.2.2.2.2 a)))
  else if h.1 a < 400 then .inl (h.2.2.1 300, h.2.1 a, .inl (q.2.2.2.1 a))
  else .inl (h.2.2.1 (h.1 a), h.2.1 a, .inr (.inr (.inr (.inr (fun j => some (h.2.2.2 a j))))))
theorem sg_F_o {h : Sh} {q : Sg} {a ci : Nat} (hk : h.1 a = ci) (hc : ci < 13) : sg_F h q a = .inr (ci, sg_fs q ci a) := by
  unfold sg_F
  rw [hk, if_pos hc]
theorem sg_F_i {h : Sh} {q : Sg} {a k : Nat} (hk : h.1 a = k) (h1 : 13 ≤ k) (h2 : k < 200) : sg_F h q a = .inl (h.2.2.1 13, h.2.1 a, .inl (q.2.2.2.1 a)) := by
  unfold sg_F
  rw [hk, if_neg (by omega), if_pos h2]
theorem sg_F_l {h : Sh} {q : Sg} {a k : Nat} (hk : h.1 a = k) (h1 : 200 ≤ k) (h2 : k < 300) : sg_F h q a = .inl (h.2.2.1 200, h.2.1 a, .inr (.inl (q.2.2.2.2 a))) := by
  unfold sg_F
  rw [hk, if_neg (by omega), if_neg (by omega), if_pos h2]
theorem sg_F_b {h : Sh} {q : Sg} {a k : Nat} (hk : h.1 a = k) (h1 : 300 ≤ k) (h2 : k < 400) : sg_F h q a = .inl (h.2.2.1 300, h.2.1 a, .inl (q.2.2.2.1 a)) := by
  unfold sg_F
  rw [hk, if_neg (by omega), if_neg (by omega), if_neg (by omega), if_pos h2]
theorem sg_F_q {h : Sh} {q : Sg} {a k : Nat} (hk : h.1 a = k) (h1 : 400 ≤ k) : sg_F h q a = .inl (h.2.2.1 k, h.2.1 a, .inr (.inr (.inr (.inr (fun j => some (h.2.2.2 a j)))))) := by
  unfold sg_F
  rw [hk, if_neg (by omega), if_neg (by omega), if_neg (by omega), if_neg (by omega)]
theorem sg_fs_len (q : Sg) (ci a : Nat) : (sg_fs q ci a).length = sg_nf ci := by simp [sg_fs]
theorem sg_fs_at {q : Sg} {ci a k : Nat} (hk : k < sg_nf ci) : (sg_fs q ci a)[k]? = some (sg_v (sg_ty ci k) (q.1 a k) (q.2.1 a k) (q.2.2.1 a k)) := by simp [sg_fs, hk]
/-- an int (or boolean) field, a long field, a reference in a field, a place of an int or byte array, a place of a long array: written -/
def sg_pI (q : Sg) (a k : Nat) (v : Int32) : Sg := (fun b j => if b = a ∧ j = k then v else q.1 b j, q.2)
def sg_pJ (q : Sg) (a k : Nat) (v : Int64) : Sg := (q.1, fun b j => if b = a ∧ j = k then v else q.2.1 b j, q.2.2)
def sg_pR (q : Sg) (a k : Nat) (v : Nat) : Sg := (q.1, q.2.1, fun b j => if b = a ∧ j = k then v else q.2.2.1 b j, q.2.2.2)
def sg_pG (q : Sg) (a : Nat) (g : Nat → Int32) : Sg := (q.1, q.2.1, q.2.2.1, fun b => if b = a then g else q.2.2.2.1 b, q.2.2.2.2)
def sg_pL (q : Sg) (a : Nat) (g : Nat → Int64) : Sg := (q.1, q.2.1, q.2.2.1, q.2.2.2.1, fun b => if b = a then g else q.2.2.2.2 b)
theorem sg_up {h : Sh} {q q' : Sg} {a : Nat} {x : va_E} (ho : ∀ b, b ≠ a → sg_F h q' b = sg_F h q b) (ha : sg_F h q' a = x) : va_up (sg_F h q) a x = sg_F h q' := by
  funext b
  show (if b = a then x else sg_F h q b) = sg_F h q' b
  by_cases hb : b = a
  · rw [if_pos hb, hb, ha]
  · rw [if_neg hb, ho b hb]
theorem sg_F_eq {h : Sh} {q q' : Sg} {b : Nat} (h1 : q'.1 b = q.1 b) (h2 : q'.2.1 b = q.2.1 b) (h3 : q'.2.2.1 b = q.2.2.1 b) (h4 : q'.2.2.2.1 b = q.2.2.2.1 b) (h5 : q'.2.2.2.2 b = q.2.2.2.2 b) : sg_F h q' b = sg_F h q b := by
  unfold sg_F sg_fs
  rw [h1, h2, h3, h4, h5]
theorem sg_set {q q' : Sg} {ci a k : Nat} {v : Value} (hk : k < sg_nf ci) (hv : sg_v (sg_ty ci k) (q'.1 a k) (q'.2.1 a k) (q'.2.2.1 a k) = v) (ho : ∀ j, j ≠ k → q'.1 a j = q.1 a j ∧ q'.2.1 a j = q.2.1 a j ∧ q'.2.2.1 a j = q.2.2.1 a j) : sg_fs q' ci a = (sg_fs q ci a).set k v := by
  apply List.ext_getElem?
  intro j
  by_cases hj : j < sg_nf ci
  · rw [sg_fs_at hj]
    by_cases hjk : j = k
    · subst hjk
      rw [List.getElem?_set_self (by rw [sg_fs_len]; exact hj), hv]
    · rw [List.getElem?_set_ne (fun e => hjk e.symm), sg_fs_at hj, (ho j hjk).1, (ho j hjk).2.1, (ho j hjk).2.2]
  · rw [List.getElem?_eq_none (by rw [sg_fs_len]; omega), List.getElem?_eq_none (by rw [List.length_set, sg_fs_len]; omega)]
theorem sg_upI {h : Sh} {q : Sg} {a ci k : Nat} {v : Int32} (hk : h.1 a = ci) (hc : ci < 13) (hn : k < sg_nf ci) (ht : sg_ty ci k = .int ∨ sg_ty ci k = .boolean) : va_up (sg_F h q) a (.inr (ci, (sg_fs q ci a).set k (.int v))) = sg_F h (sg_pI q a k v) := by
  refine sg_up (fun b hb => sg_F_eq (by funext j; simp [sg_pI, hb]) rfl rfl rfl rfl) ?_
  rw [sg_F_o hk hc, sg_set (q := q) (q' := sg_pI q a k v) (k := k) (v := .int v) hn (by rcases ht with ht | ht <;> rw [ht] <;> simp [sg_v, sg_pI]) (fun j hj => ⟨by simp [sg_pI, hj], rfl, rfl⟩)]
theorem sg_upJ {h : Sh} {q : Sg} {a ci k : Nat} {v : Int64} (hk : h.1 a = ci) (hc : ci < 13) (hn : k < sg_nf ci) (ht : sg_ty ci k = .long) : va_up (sg_F h q) a (.inr (ci, (sg_fs q ci a).set k (.long v))) = sg_F h (sg_pJ q a k v) := by
  refine sg_up (fun b hb => sg_F_eq rfl (by funext j; simp [sg_pJ, hb]) rfl rfl rfl) ?_
  rw [sg_F_o hk hc, sg_set (q := q) (q' := sg_pJ q a k v) (k := k) (v := .long v) hn (by rw [ht]; simp [sg_v, sg_pJ]) (fun j hj => ⟨rfl, by simp [sg_pJ, hj], rfl⟩)]
theorem sg_upR {h : Sh} {q : Sg} {a ci k : Nat} {v : Nat} (hk : h.1 a = ci) (hc : ci < 13) (hn : k < sg_nf ci) (ht : ∀ i j, sg_v (sg_ty ci k) i j v = .ref v) : va_up (sg_F h q) a (.inr (ci, (sg_fs q ci a).set k (.ref v))) = sg_F h (sg_pR q a k v) := by
  refine sg_up (fun b hb => sg_F_eq rfl rfl (by funext j; simp [sg_pR, hb]) rfl rfl) ?_
  rw [sg_F_o hk hc, sg_set (q := q) (q' := sg_pR q a k v) (k := k) (v := .ref v) hn (by simp [sg_pR, ht]) (fun j hj => ⟨rfl, rfl, by simp [sg_pR, hj]⟩)]
theorem sg_upG {h : Sh} {q : Sg} {a k : Nat} {g : Nat → Int32} (hk : h.1 a = k) (h1 : 13 ≤ k) (h2 : k < 200) : va_up (sg_F h q) a (.inl (h.2.2.1 13, h.2.1 a, .inl g)) = sg_F h (sg_pG q a g) := by
  refine sg_up (fun b hb => sg_F_eq rfl rfl rfl (by simp [sg_pG, hb]) rfl) ?_
  rw [sg_F_i hk h1 h2]
  simp [sg_pG]
theorem sg_upB {h : Sh} {q : Sg} {a k : Nat} {g : Nat → Int32} (hk : h.1 a = k) (h1 : 300 ≤ k) (h2 : k < 400) : va_up (sg_F h q) a (.inl (h.2.2.1 300, h.2.1 a, .inl g)) = sg_F h (sg_pG q a g) := by
  refine sg_up (fun b hb => sg_F_eq rfl rfl rfl (by simp [sg_pG, hb]) rfl) ?_
  rw [sg_F_b hk h1 h2]
  simp [sg_pG]
theorem sg_upL {h : Sh} {q : Sg} {a k : Nat} {g : Nat → Int64} (hk : h.1 a = k) (h1 : 200 ≤ k) (h2 : k < 300) : va_up (sg_F h q) a (.inl (h.2.2.1 200, h.2.1 a, .inr (.inl g))) = sg_F h (sg_pL q a g) := by
  refine sg_up (fun b hb => sg_F_eq rfl rfl rfl rfl (by simp [sg_pL, hb])) ?_
  rw [sg_F_l hk h1 h2]
  simp [sg_pL]
