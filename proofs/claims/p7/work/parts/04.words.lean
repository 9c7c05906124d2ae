theorem goodIn_cat : ∀ (cs : List (List Cond)) (l : List Cond) (c : List Cond), c ∈ cs ++ [l] → ∀ w ∈ c, w ∈ cs.foldr (fun a b => a ++ b) l
  | [], l, c, hc, w, hw => by rw [List.mem_singleton.mp hc] at hw; exact hw
  | d :: cs, l, c, hc, w, hw => by
    rcases List.mem_cons.mp hc with e | h
    · rw [e] at hw; exact List.mem_append_left _ hw
    · exact List.mem_append_right _ (goodIn_cat cs l c h w hw)
theorem goodIn_k {big : List Cond} (ws : List Cond) (cs : List (List Cond)) (hc : ∀ c ∈ cs, ∀ w ∈ c, w ∈ big) (ps : List (Nat × Nat)) (hp : ws = ps.filterMap (fun p => (cs[p.1]?).bind (fun c => c[p.2]?))) (h : ws.all goodWord = true) : GoodIn big ws := by
  intro w hw
  have h1 := List.all_eq_true.mp h w hw
  rw [hp] at hw
  obtain ⟨p, -, hi⟩ := List.mem_filterMap.mp hw
  obtain ⟨c, h2, h3⟩ := Option.bind_eq_some_iff.mp hi
  exact ⟨hc c (List.mem_of_getElem? h2) w (List.mem_of_getElem? h3), good_of_word h1⟩
theorem goodIn_cc {big R : List Cond} {c : Cond} (h0 : GoodIn big [c]) (hR : GoodIn big R) : GoodIn big (c :: R) := fun w h => (List.mem_cons.mp h).elim (fun e => h0 w (List.mem_cons.mpr (Or.inl e))) (hR w)
theorem zgw_X0 : wsX00.all goodWord = true := by decide +kernel
theorem zgw_X1 : wsX10.all goodWord = true := by decide +kernel
theorem zgw_X2 : wsX20.all goodWord = true := by decide +kernel
theorem zgw_X3 : wsX30.all goodWord = true := by decide +kernel
theorem zgw_X4 : wsX40.all goodWord = true := by decide +kernel
theorem zgw_X5 : wsX50.all goodWord = true := by decide +kernel
theorem zgw_X6 : wsX60.all goodWord = true := by decide +kernel
theorem zgw_X7 : wsX70.all goodWord = true := by decide +kernel
theorem zgw_X8 : wsX80.all goodWord = true := by decide +kernel
theorem zgw_X9 : wsX90.all goodWord = true := by decide +kernel
theorem zgw_X10 : wsX100.all goodWord = true := by decide +kernel
theorem zgw_X11 : wsX110.all goodWord = true := by decide +kernel
theorem zgw_X12 : wsX120.all goodWord = true := by decide +kernel
