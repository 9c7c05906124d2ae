set_option maxRecDepth 100000 in
theorem cc_X1 (l : Launch) (dC : Nat → ClassId) (dI : Nat → Nat → Nat) (cT : Nat → ClassId) (a0 : Nat) : CCI l dC dI cT yX1_init wsX1_init ({ frames := 1, cells := 0, slots := 0, locals := 12 } : Room) 1 [.int 0, .int 0, .int 0, .int 0, .int 0, .int 0, .int 0] [] a0 (fun _ => True) 0 0 := by
  refine cc_v (cc := cX1_init) (own := RX1) (mL := 1) (by decide) rfl rfl rfl (Nat.le_of_ble_eq_true rfl) ?_
  intro sz Z hlt hsz B ret
  refine wc_aload_n B dX1_init_0 rfl 0 rfl ?_
  refine wc_objInit B (by decide +kernel) (by decide +kernel) (by decide +kernel) (Nat.le_of_ble_eq_true rfl) (Nat.le_of_ble_eq_true rfl) dX1_init_1 ?_
  refine wc_lay 0 rfl rfl 1 0 (fun _ => 0) (fun _ => 0) (fun _ => 0) (fun _ => 0) (fun _ => 0) (fun _ => 0) (by rw [sg_F_o gp_h1e (by omega)]; unfold sg_fs; rw [gp_q1e, gp_q2e, gp_q3e]; rfl) (fun ha => ?_)
  refine ret _ _ _ _ _ dX1_init_4 ⟨?_, gp_V cc_V0 ha (fun k hk => absurd (by rfl) hk) (Nat.zero_le _) (fun z => absurd z (by omega)) (fun k => by unfold sx_R; split <;> first | exact trivial | (exfalso; simp_all; done) | (unfold sx_in; decide) | (simp_all; done)) (fun j => by simp [sx_E]), rfl, fun a z => Or.inl (List.mem_singleton.mp z), List.mem_singleton.mpr rfl, gp_h1e⟩ trivial
  intro i j x hi hj
  have h1 : i < 1 := (List.getElem?_eq_some_iff.mp hi).1
  have h2 : j < 1 := (List.getElem?_eq_some_iff.mp hj).1
  omega
