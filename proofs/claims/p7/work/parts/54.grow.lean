/-! The pool grows: a cell is laid into it; two pools become one. -/
def gp_h (h : Sh) (a K n : Nat) (R : Nat → Nat) : Sh := (fun b => if b = a then K else h.1 b, fun b => if b = a then n else h.2.1 b, h.2.2.1, fun b => if b = a then R else h.2.2.2 b)
def gp_q (q : Sg) (a : Nat) (I : Nat → Int32) (J : Nat → Int64) (Rf : Nat → Nat) (G : Nat → Int32) (M : Nat → Int64) : Sg := (fun b => if b = a then I else q.1 b, fun b => if b = a then J else q.2.1 b, fun b => if b = a then Rf else q.2.2.1 b, fun b => if b = a then G else q.2.2.2.1 b, fun b => if b = a then M else q.2.2.2.2 b)
section GP
variable {h : Sh} {q : Sg} {L : List Nat} {a b K n : Nat} {R Rf : Nat → Nat} {I G : Nat → Int32} {J M : Nat → Int64}
theorem gp_h1 (hb : b ≠ a) : (gp_h h a K n R).1 b = h.1 b := if_neg hb
theorem gp_h2 (hb : b ≠ a) : (gp_h h a K n R).2.1 b = h.2.1 b := if_neg hb
theorem gp_h4 (hb : b ≠ a) : (gp_h h a K n R).2.2.2 b = h.2.2.2 b := if_neg hb
theorem gp_h1e : (gp_h h a K n R).1 a = K := if_pos rfl
theorem gp_h2e : (gp_h h a K n R).2.1 a = n := if_pos rfl
theorem gp_h4e : (gp_h h a K n R).2.2.2 a = R := if_pos rfl
theorem gp_q1 (hb : b ≠ a) : (gp_q q a I J Rf G M).1 b = q.1 b := if_neg hb
theorem gp_q2 (hb : b ≠ a) : (gp_q q a I J Rf G M).2.1 b = q.2.1 b := if_neg hb
theorem gp_q3 (hb : b ≠ a) : (gp_q q a I J Rf G M).2.2.1 b = q.2.2.1 b := if_neg hb
theorem gp_q4 (hb : b ≠ a) : (gp_q q a I J Rf G M).2.2.2.1 b = q.2.2.2.1 b := if_neg hb
theorem gp_q5 (hb : b ≠ a) : (gp_q q a I J Rf G M).2.2.2.2 b = q.2.2.2.2 b := if_neg hb
theorem gp_q1e : (gp_q q a I J Rf G M).1 a = I := if_pos rfl
theorem gp_q2e : (gp_q q a I J Rf G M).2.1 a = J := if_pos rfl
theorem gp_q3e : (gp_q q a I J Rf G M).2.2.1 a = Rf := if_pos rfl
theorem gp_q4e : (gp_q q a I J Rf G M).2.2.2.1 a = G := if_pos rfl
theorem gp_q5e : (gp_q q a I J Rf G M).2.2.2.2 a = M := if_pos rfl
theorem gp_F (hb : b ≠ a) : sg_F (gp_h h a K n R) (gp_q q a I J Rf G M) b = sg_F h q b := by
  unfold sg_F sg_fs
  rw [gp_h1 hb, gp_h2 hb, gp_h4 hb, gp_q1 hb, gp_q2 hb, gp_q3 hb, gp_q4 hb, gp_q5 hb]
  rfl
theorem gp_pl (ha : a ∉ L) {e : va_E} (he : sg_F (gp_h h a K n R) (gp_q q a I J Rf G M) a = e) : va_pl L (sg_F h q) ++ [(a, e)] = va_pl (L ++ [a]) (sg_F (gp_h h a K n R) (gp_q q a I J Rf G M)) := by
  rw [va_pl_push ha]
  congr 1
  funext b
  show (if b = a then e else sg_F h q b) = _
  by_cases hb : b = a
  · rw [if_pos hb, hb, he]
  · rw [if_neg hb, gp_F hb]
theorem gp_nd (hN : sx_nd L) (ha : a ∉ L) : sx_nd (L ++ [a]) := by
  intro i j x hi hj
  by_cases h1 : i < L.length
  · rw [List.getElem?_append_left h1] at hi
    by_cases h2 : j < L.length
    · rw [List.getElem?_append_left h2] at hj
      exact hN i j x hi hj
    · rw [List.getElem?_append_right (by omega)] at hj
      have hz : j - L.length < 1 := (List.getElem?_eq_some_iff.mp hj).1
      rw [show j - L.length = 0 by omega] at hj
      cases hj
      exact absurd (List.mem_of_getElem? hi) ha
  · rw [List.getElem?_append_right (by omega)] at hi
    have hz : i - L.length < 1 := (List.getElem?_eq_some_iff.mp hi).1
    rw [show i - L.length = 0 by omega] at hi
    cases hi
    by_cases h2 : j < L.length
    · rw [List.getElem?_append_left h2] at hj
      exact absurd (List.mem_of_getElem? hj) ha
    · rw [List.getElem?_append_right (by omega)] at hj
      have hz : j - L.length < 1 := (List.getElem?_eq_some_iff.mp hj).1
      omega
theorem gp_V (hV : sx_V h L q) (ha : a ∉ L) (hT : ∀ k, sx_tk K k ≠ 0 → Rf k ∈ L ∧ h.1 (Rf k) = sx_tk K k ∧ (sx_ln K n k ≠ 0 → h.2.1 (Rf k) = sx_ln K n k)) (hn : n ≤ 5000) (hS : 400 ≤ K → ∀ j, j < n → R j ∈ L ∧ h.1 (R j) = sx_ek K ∧ (K = 404 → h.2.1 (R j) = 12)) (hI : ∀ k, sx_R K (h.2.1 (Rf 0)) k (I k)) (hG : ∀ j, sx_E K (G j)) : sx_V (gp_h h a K n R) (L ++ [a]) (gp_q q a I J Rf G M) := by
  have hne : ∀ x, x ∈ L → x ≠ a := fun x hx e => ha (e ▸ hx)
  have hap : ∀ x, x ∈ L → x ∈ L ++ [a] := fun x hx => List.mem_append_left _ hx
  have hcs : ∀ x, x ∈ L ++ [a] → x ∈ L ∨ x = a := fun x hx => (List.mem_append.mp hx).imp id (fun z => List.mem_singleton.mp z)
  refine ⟨fun x hx k hk => ?_, ⟨fun x hx => ?_, fun x hx h4 j hj => ?_⟩, fun x hx k => ?_, fun x hx j => ?_⟩
  · rcases hcs x hx with hx | hx
    · rw [gp_h1 (hne x hx)] at hk ⊢
      rw [gp_h2 (hne x hx), gp_q3 (hne x hx)]
      have z := hV.1 x hx k hk
      rw [gp_h1 (hne _ z.1), gp_h2 (hne _ z.1)]
      exact ⟨hap _ z.1, z.2⟩
    · subst hx
      rw [gp_h1e] at hk ⊢
      rw [gp_h2e, gp_q3e]
      have z := hT k hk
      rw [gp_h1 (hne _ z.1), gp_h2 (hne _ z.1)]
      exact ⟨hap _ z.1, z.2⟩
  · rcases hcs x hx with hx | hx
    · rw [gp_h2 (hne x hx)]
      exact hV.2.1.1 x hx
    · subst hx
      rw [gp_h2e]
      exact hn
  · rcases hcs x hx with hx | hx
    · rw [gp_h1 (hne x hx)] at h4 ⊢
      rw [gp_h2 (hne x hx)] at hj
      rw [gp_h4 (hne x hx)]
      have z := hV.2.1.2 x hx h4 j hj
      rw [gp_h1 (hne _ z.1), gp_h2 (hne _ z.1)]
      exact ⟨hap _ z.1, z.2⟩
    · subst hx
      rw [gp_h1e] at h4 ⊢
      rw [gp_h2e] at hj
      rw [gp_h4e]
      have z := hS h4 j hj
      rw [gp_h1 (hne _ z.1), gp_h2 (hne _ z.1)]
      exact ⟨hap _ z.1, z.2⟩
  · rcases hcs x hx with hx | hx
    · rw [gp_h1 (hne x hx), gp_q1 (hne x hx), gp_q3 (hne x hx)]
      have z := hV.2.2.1 x hx k
      by_cases e7 : h.1 x = 7
      · have z7 := hV.1 x hx 0 (by rw [e7]; decide)
        rw [gp_h2 (hne _ z7.1)]
        exact z
      · exact sx_R_cap e7 z
    · subst hx
      rw [gp_h1e, gp_q1e, gp_q3e]
      by_cases e7 : K = 7
      · have z7 := hT 0 (by rw [e7]; decide)
        rw [gp_h2 (hne _ z7.1)]
        exact hI k
      · exact sx_R_cap e7 (hI k)
  · rcases hcs x hx with hx | hx
    · rw [gp_h1 (hne x hx), gp_q4 (hne x hx)]
      exact hV.2.2.2 x hx j
    · subst hx
      rw [gp_h1e, gp_q4e]
      exact hG j
end GP
theorem gp_V0 (h : Sh) (q : Sg) : sx_V h [] q := ⟨fun _ z => absurd z List.not_mem_nil, ⟨fun _ z => absurd z List.not_mem_nil, fun _ z => absurd z List.not_mem_nil⟩, fun _ z => absurd z List.not_mem_nil, fun _ z => absurd z List.not_mem_nil⟩
theorem gp_N0 : sx_nd [] := fun _ _ _ h => by simp at h
/-- two pools, apart -/
def gl_h (L : List Nat) (h g : Sh) : Sh := (fun b => if b ∈ L then h.1 b else g.1 b, fun b => if b ∈ L then h.2.1 b else g.2.1 b, h.2.2.1, fun b => if b ∈ L then h.2.2.2 b else g.2.2.2 b)
def gl_q (L : List Nat) (q r : Sg) : Sg := (fun b => if b ∈ L then q.1 b else r.1 b, fun b => if b ∈ L then q.2.1 b else r.2.1 b, fun b => if b ∈ L then q.2.2.1 b else r.2.2.1 b, fun b => if b ∈ L then q.2.2.2.1 b else r.2.2.2.1 b, fun b => if b ∈ L then q.2.2.2.2 b else r.2.2.2.2 b)
section GL
variable {h g : Sh} {q r : Sg} {L M : List Nat} {b : Nat}
theorem gl_Fl (hb : b ∈ L) : sg_F (gl_h L h g) (gl_q L q r) b = sg_F h q b := by
  unfold sg_F sg_fs gl_h gl_q
  simp only [hb, if_true]
theorem gl_Fr (hc : h.2.2.1 = g.2.2.1) (hb : b ∉ L) : sg_F (gl_h L h g) (gl_q L q r) b = sg_F g r b := by
  unfold sg_F sg_fs gl_h gl_q
  simp only [hb, if_false, hc]
theorem gl_pl (hc : h.2.2.1 = g.2.2.1) (hd : ∀ x, x ∈ M → x ∉ L) : va_pl L (sg_F h q) ++ va_pl M (sg_F g r) = va_pl (L ++ M) (sg_F (gl_h L h g) (gl_q L q r)) := by
  unfold va_pl
  rw [List.map_append]
  congr 1
  · exact List.map_congr_left (fun x hx => by rw [gl_Fl hx])
  · exact List.map_congr_left (fun x hx => by rw [gl_Fr hc (hd x hx)])
theorem gl_1l (hb : b ∈ L) : (gl_h L h g).1 b = h.1 b ∧ (gl_h L h g).2.1 b = h.2.1 b ∧ (gl_h L h g).2.2.2 b = h.2.2.2 b ∧ (gl_q L q r).1 b = q.1 b ∧ (gl_q L q r).2.1 b = q.2.1 b ∧ (gl_q L q r).2.2.1 b = q.2.2.1 b ∧ (gl_q L q r).2.2.2.1 b = q.2.2.2.1 b ∧ (gl_q L q r).2.2.2.2 b = q.2.2.2.2 b := ⟨if_pos hb, if_pos hb, if_pos hb, if_pos hb, if_pos hb, if_pos hb, if_pos hb, if_pos hb⟩
theorem gl_1r (hb : b ∉ L) : (gl_h L h g).1 b = g.1 b ∧ (gl_h L h g).2.1 b = g.2.1 b ∧ (gl_h L h g).2.2.2 b = g.2.2.2 b ∧ (gl_q L q r).1 b = r.1 b ∧ (gl_q L q r).2.1 b = r.2.1 b ∧ (gl_q L q r).2.2.1 b = r.2.2.1 b ∧ (gl_q L q r).2.2.2.1 b = r.2.2.2.1 b ∧ (gl_q L q r).2.2.2.2 b = r.2.2.2.2 b := ⟨if_neg hb, if_neg hb, if_neg hb, if_neg hb, if_neg hb, if_neg hb, if_neg hb, if_neg hb⟩
theorem gl_nd (hN : sx_nd L) (hM : sx_nd M) (hd : ∀ x, x ∈ M → x ∉ L) : sx_nd (L ++ M) := by
  intro i j x hi hj
  by_cases h1 : i < L.length
  · rw [List.getElem?_append_left h1] at hi
    by_cases h2 : j < L.length
    · rw [List.getElem?_append_left h2] at hj
      exact hN i j x hi hj
    · rw [List.getElem?_append_right (by omega)] at hj
      exact absurd (List.mem_of_getElem? hi) (hd x (List.mem_of_getElem? hj))
  · rw [List.getElem?_append_right (by omega)] at hi
    by_cases h2 : j < L.length
    · rw [List.getElem?_append_left h2] at hj
      exact absurd (List.mem_of_getElem? hj) (hd x (List.mem_of_getElem? hi))
    · rw [List.getElem?_append_right (by omega)] at hj
      have := hM _ _ x hi hj
      omega
theorem gl_V (hV : sx_V h L q) (hW : sx_V g M r) (hd : ∀ x, x ∈ M → x ∉ L) : sx_V (gl_h L h g) (L ++ M) (gl_q L q r) := by
  have hl : ∀ x, x ∈ L → x ∈ L ++ M := fun x hx => List.mem_append_left _ hx
  have hr : ∀ x, x ∈ M → x ∈ L ++ M := fun x hx => List.mem_append_right _ hx
  have kl := fun x (hx : x ∈ L) => gl_1l (h := h) (g := g) (q := q) (r := r) hx
  have kr := fun x (hx : x ∈ M) => gl_1r (h := h) (g := g) (q := q) (r := r) (hd x hx)
  refine ⟨fun x hx k hk => ?_, ⟨fun x hx => ?_, fun x hx h4 j hj => ?_⟩, fun x hx k => ?_, fun x hx j => ?_⟩
  · rcases List.mem_append.mp hx with hx | hx
    · have e := kl x hx
      rw [e.1] at hk ⊢
      rw [e.2.1, e.2.2.2.2.2.1]
      have z := hV.1 x hx k hk
      rw [(kl _ z.1).1, (kl _ z.1).2.1]
      exact ⟨hl _ z.1, z.2⟩
    · have e := kr x hx
      rw [e.1] at hk ⊢
      rw [e.2.1, e.2.2.2.2.2.1]
      have z := hW.1 x hx k hk
      rw [(kr _ z.1).1, (kr _ z.1).2.1]
      exact ⟨hr _ z.1, z.2⟩
  · rcases List.mem_append.mp hx with hx | hx
    · rw [(kl x hx).2.1]
      exact hV.2.1.1 x hx
    · rw [(kr x hx).2.1]
      exact hW.2.1.1 x hx
  · rcases List.mem_append.mp hx with hx | hx
    · have e := kl x hx
      rw [e.1] at h4 ⊢
      rw [e.2.1] at hj
      rw [e.2.2.1]
      have z := hV.2.1.2 x hx h4 j hj
      rw [(kl _ z.1).1, (kl _ z.1).2.1]
      exact ⟨hl _ z.1, z.2⟩
    · have e := kr x hx
      rw [e.1] at h4 ⊢
      rw [e.2.1] at hj
      rw [e.2.2.1]
      have z := hW.2.1.2 x hx h4 j hj
      rw [(kr _ z.1).1, (kr _ z.1).2.1]
      exact ⟨hr _ z.1, z.2⟩
  · rcases List.mem_append.mp hx with hx | hx
    · have e := kl x hx
      rw [e.1, e.2.2.2.1, e.2.2.2.2.2.1]
      have z := hV.2.2.1 x hx k
      by_cases e7 : h.1 x = 7
      · have z7 := hV.1 x hx 0 (by rw [e7]; decide)
        rw [(kl _ z7.1).2.1]
        exact z
      · exact sx_R_cap e7 z
    · have e := kr x hx
      rw [e.1, e.2.2.2.1, e.2.2.2.2.2.1]
      have z := hW.2.2.1 x hx k
      by_cases e7 : g.1 x = 7
      · have z7 := hW.1 x hx 0 (by rw [e7]; decide)
        rw [(kr _ z7.1).2.1]
        exact z
      · exact sx_R_cap e7 z
  · rcases List.mem_append.mp hx with hx | hx
    · have e := kl x hx
      rw [e.1, e.2.2.2.2.2.2.1]
      exact hV.2.2.2 x hx j
    · have e := kr x hx
      rw [e.1, e.2.2.2.2.2.2.1]
      exact hW.2.2.2 x hx j
end GL
