theorem goodIn_cc {big R : List Cond} {c : Cond} (h0 : GoodIn big [c]) (hR : GoodIn big R) : GoodIn big (c :: R) := fun w h => (List.mem_cons.mp h).elim (fun e => h0 w (List.mem_cons.mpr (Or.inl e))) (hR w)
theorem zgw_X0 : wsX00.all goodWord = true := by decide +kernel
theorem zgw_X1 : wsX10.all goodWord = true := by decide +kernel
theorem zgw_X2 : wsX20.all goodWord = true := by decide +kernel
theorem zgw_X3 : wsX30.all goodWord = true := by decide +kernel
theorem zgw_X4 : wsX40.all goodWord = true := by decide +kernel
theorem zgw_X5 : wsX50.all goodWord = true := by decide +kernel
theorem zgw_X6 : wsX60.all goodWord = true := by decide +kernel
theorem zgw_X7 : wsX70.all goodWord = true := by decide +kernel
theorem zgw_X8 : wsX80.all goodWord = true := by decide +kernel
theorem zgw_X9 : wsX90.all goodWord = true := by decide +kernel
theorem zgw_X10 : wsX100.all goodWord = true := by decide +kernel
theorem zgw_X11 : wsX110.all goodWord = true := by decide +kernel
theorem zgw_X12 : wsX120.all goodWord = true := by decide +kernel
