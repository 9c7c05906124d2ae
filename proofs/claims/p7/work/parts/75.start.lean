set_option maxHeartbeats 4000000 in
set_option maxRecDepth 100000 in
theorem st_D {p : Program} {s : State} {m : MethodId} {meth : Method} {c : Code} {b N : Nat} {xs : Nat → Int32} (C0 : lw_At p s m meth c b N xs) : ∃ (dC : Nat → ClassId) (dI : Nat → Nat → Nat), ∀ (k : Nat) (q : vw_C), vwCl[k]? = some q → u_Kn s q.1 q.2.1 q.2.2 (dC k) (dI k) := by
  obtain ⟨hx, hb, hr, hml, hown, hts0, hX, hbl, hlocks, hgv⟩ := id C0
  obtain ⟨c0, iS0, hKn0⟩ := u_known (C := RX0) (T := TX0) (N := 4) (n := 4) hts0 inX0 (hts0 (.instantiable RX0 4) (by decide +kernel))
  obtain ⟨c1, iS1, hKn1⟩ := u_known (C := RX1) (T := TX1) (N := 7) (n := 7) hts0 inX1 (hts0 (.instantiable RX1 7) (by decide +kernel))
  obtain ⟨c2, iS2, hKn2⟩ := u_known (C := RX2) (T := TX2) (N := 6) (n := 6) hts0 inX2 (hts0 (.instantiable RX2 6) (by decide +kernel))
  obtain ⟨c3, iS3, hKn3⟩ := u_known (C := RX3) (T := TX3) (N := 5) (n := 5) hts0 inX3 (hts0 (.instantiable RX3 5) (by decide +kernel))
  obtain ⟨c4, iS4, hKn4⟩ := u_known (C := RX4) (T := TX4) (N := 7) (n := 7) hts0 inX4 (hts0 (.instantiable RX4 7) (by decide +kernel))
  obtain ⟨c5, iS5, hKn5⟩ := u_known (C := RX5) (T := TX5) (N := 7) (n := 7) hts0 inX5 (hts0 (.instantiable RX5 7) (by decide +kernel))
  obtain ⟨c6, iS6, hKn6⟩ := u_known (C := RX6) (T := TX6) (N := 8) (n := 8) hts0 inX6 (hts0 (.instantiable RX6 8) (by decide +kernel))
  obtain ⟨c7, iS7, hKn7⟩ := u_known (C := RX7) (T := TX7) (N := 2) (n := 2) hts0 inX7 (hts0 (.instantiable RX7 2) (by decide +kernel))
  obtain ⟨c8, iS8, hKn8⟩ := u_known (C := RX8) (T := TX8) (N := 11) (n := 11) hts0 inX8 (hts0 (.instantiable RX8 11) (by decide +kernel))
  obtain ⟨c9, iS9, hKn9⟩ := u_known (C := RX9) (T := TX9) (N := 7) (n := 7) hts0 inX9 (hts0 (.instantiable RX9 7) (by decide +kernel))
  obtain ⟨c10, iS10, hKn10⟩ := u_known (C := RX10) (T := TX10) (N := 3) (n := 3) hts0 inX10 (hts0 (.instantiable RX10 3) (by decide +kernel))
  obtain ⟨c11, iS11, hKn11⟩ := u_known (C := RX11) (T := TX11) (N := 16) (n := 16) hts0 inX11 (hts0 (.instantiable RX11 16) (by decide +kernel))
  obtain ⟨c12, iS12, hKn12⟩ := u_known (C := RX12) (T := TX12) (N := 51) (n := 51) hts0 inX12 (hts0 (.instantiable RX12 51) (by decide +kernel))
  refine ⟨fun k => if k = 0 then c0 else if k = 1 then c1 else if k = 2 then c2 else if k = 3 then c3 else if k = 4 then c4 else if k = 5 then c5 else if k = 6 then c6 else if k = 7 then c7 else if k = 8 then c8 else if k = 9 then c9 else if k = 10 then c10 else if k = 11 then c11 else c12, fun k => if k = 0 then iS0 else if k = 1 then iS1 else if k = 2 then iS2 else if k = 3 then iS3 else if k = 4 then iS4 else if k = 5 then iS5 else if k = 6 then iS6 else if k = 7 then iS7 else if k = 8 then iS8 else if k = 9 then iS9 else if k = 10 then iS10 else if k = 11 then iS11 else iS12, ?_⟩
  intro k q hq
  match k, hq with
  | 0, hq => cases hq; exact hKn0
  | 1, hq => cases hq; exact hKn1
  | 2, hq => cases hq; exact hKn2
  | 3, hq => cases hq; exact hKn3
  | 4, hq => cases hq; exact hKn4
  | 5, hq => cases hq; exact hKn5
  | 6, hq => cases hq; exact hKn6
  | 7, hq => cases hq; exact hKn7
  | 8, hq => cases hq; exact hKn8
  | 9, hq => cases hq; exact hKn9
  | 10, hq => cases hq; exact hKn10
  | 11, hq => cases hq; exact hKn11
  | 12, hq => cases hq; exact hKn12
  | k + 13, hq => simp [vwCl] at hq
set_option maxHeartbeats 4000000 in
set_option maxRecDepth 100000 in
theorem st_X {p : Program} {s : State} {m : MethodId} {meth : Method} {c : Code} {b N : Nat} {xs : Nat → Int32} (C0 : lw_At p s m meth c b N xs) : zz_X s := by
  obtain ⟨hx, hb, hr, hml, hown, hts0, hX, hbl, hlocks, hgv⟩ := id C0
  exact ⟨va_AO.of (hts0 (.arrayOver (.object RX2)) (by decide +kernel)), va_AO.of (hts0 (.arrayOver (.object RX1)) (by decide +kernel)), va_AO.of (hts0 (.arrayOver (.object RX5)) (by decide +kernel)), va_AO.of (hts0 (.arrayOver (.object RX0)) (by decide +kernel)), va_AOA.of (hts0 (.arrayOver (.array .long)) (by decide +kernel)), va_Nw.of rfl (hts0 (.methodLinkNest RX10 11 yX8_init RX11) (by decide +kernel)), va_Nw.of rfl (hts0 (.methodLinkNest RX11 26 yX10_init RX11) (by decide +kernel)), va_Nw.of rfl (hts0 (.methodLinkNest RX11 33 yX6_init RX11) (by decide +kernel)), va_Nw.of rfl (hts0 (.methodLinkNest RX11 40 yX4_init RX11) (by decide +kernel)), va_Nw.of rfl (hts0 (.methodLinkNest RX11 75 yX9_init RX11) (by decide +kernel)), va_Nw.of rfl (hts0 (.methodLinkNest RX11 83 yX0_init RX11) (by decide +kernel)), va_Nw.of rfl (hts0 (.methodLinkNest RX5 23 yX2_init RX11) (by decide +kernel)), va_Nw.of rfl (hts0 (.methodLinkNest RX5 24 yX1_init RX11) (by decide +kernel)), va_Nw.of rfl (hts0 (.methodLinkNest RX6 11 yX8_init RX11) (by decide +kernel))⟩
set_option maxHeartbeats 4000000 in
set_option maxRecDepth 100000 in
theorem st_Z {p : Program} {s : State} {m : MethodId} {meth : Method} {c : Code} {b N : Nat} {xs : Nat → Int32} (C0 : lw_At p s m meth c b N xs) (A : Nat → Prop) (hnA : ∀ a : Nat, a < s.heap.size → ¬ A a) : ZZ A s := by
  obtain ⟨hx, hb, hr, hml, hown, hts0, hX, hbl, hlocks, hgv⟩ := id C0
  have hfl := flat_of_before _ hgv
  have hzU : vx_Zq Bundle.tN "UNASSIGNED_STACK" Bundle.steD A s s.heap := vx_Zqof (hts0 _ (by decide +kernel)) (hts0 _ (by decide +kernel)) (hfl (.isRef (.static Bundle.tN "UNASSIGNED_STACK" Bundle.steD)) (by decide +kernel)) hnA
  have hzN : vx_Zq Bundle.tN "SUPPRESSED_SENTINEL" Bundle.listD A s s.heap := vx_Zqof (hts0 _ (by decide +kernel)) (hts0 _ (by decide +kernel)) (hfl (.isRef (.static Bundle.tN "SUPPRESSED_SENTINEL" Bundle.listD)) (by decide +kernel)) hnA
  have hzC : zz_TH s := ⟨va_Nw.of rfl (hts0 _ (by decide +kernel)), va_Nw.of rfl (hts0 _ (by decide +kernel)), va_Nw.of rfl (hts0 _ (by decide +kernel)), va_Nw.of rfl (hts0 _ (by decide +kernel))⟩
  have hzS : va_Z "ClayAccountsModel" "SYSTEM_NAME" "J" (.long 286303963) A s s.heap := va_Zof (hts0 _ (by decide +kernel)) (hts0 _ (by decide +kernel)) (va_eql (hfl (.eq (.static "ClayAccountsModel" "SYSTEM_NAME" "J") (.long 286303963)) (by decide +kernel))) hnA
  have hzT : va_Z "ClayAccountsModel" "TOTAL_NAME" "J" (.long 10938684) A s s.heap := va_Zof (hts0 _ (by decide +kernel)) (hts0 _ (by decide +kernel)) (va_eql (hfl (.eq (.static "ClayAccountsModel" "TOTAL_NAME" "J") (.long 10938684)) (by decide +kernel))) hnA
  have hzG : va_Z "ClayAccountsModel" "GRAND_NAME" "J" (.long 4075492) A s s.heap := va_Zof (hts0 _ (by decide +kernel)) (hts0 _ (by decide +kernel)) (va_eql (hfl (.eq (.static "ClayAccountsModel" "GRAND_NAME" "J") (.long 4075492)) (by decide +kernel))) hnA
  obtain ⟨sr137, -, -, -, hst137, -⟩ := Cond.exactly_spec (hfl (.exactly (.string "ClayAccounts" 137) "java/lang/String") (by decide +kernel))
  have hzR137 : vk_R RX11 137 "no such SYSTEM, or no such question" sr137 s := vk_R.of (hts0 (.stringRef RX11 137 "no such SYSTEM, or no such question") (by decide +kernel)) hst137
  obtain ⟨sr160, -, -, -, hst160, -⟩ := Cond.exactly_spec (hfl (.exactly (.string "ClayAccounts" 160) "java/lang/String") (by decide +kernel))
  have hzR160 : vk_R RX11 160 "OUT has no such byte" sr160 s := vk_R.of (hts0 (.stringRef RX11 160 "OUT has no such byte") (by decide +kernel)) hst160
  obtain ⟨sr173, -, -, -, hst173, -⟩ := Cond.exactly_spec (hfl (.exactly (.string "ClayAccounts" 173) "java/lang/String") (by decide +kernel))
  have hzR173 : vk_R RX11 173 "no such LINE, or no such question" sr173 s := vk_R.of (hts0 (.stringRef RX11 173 "no such LINE, or no such question") (by decide +kernel)) hst173
  obtain ⟨sr206, -, -, -, hst206, -⟩ := Cond.exactly_spec (hfl (.exactly (.string "ClayAccounts" 206) "java/lang/String") (by decide +kernel))
  have hzR206 : vk_R RX11 206 "no such LINE" sr206 s := vk_R.of (hts0 (.stringRef RX11 206 "no such LINE") (by decide +kernel)) hst206
  obtain ⟨sr213, -, -, -, hst213, -⟩ := Cond.exactly_spec (hfl (.exactly (.string "ClayAccounts" 213) "java/lang/String") (by decide +kernel))
  have hzR213 : vk_R RX11 213 "no such ?" sr213 s := vk_R.of (hts0 (.stringRef RX11 213 "no such ?") (by decide +kernel)) hst213
  exact ⟨hzS, hzT, hzG, hzU, hzN, hzC, ⟨sr137, hzR137⟩, ⟨sr160, hzR160⟩, ⟨sr173, hzR173⟩, ⟨sr206, hzR206⟩, ⟨sr213, hzR213⟩⟩
set_option maxHeartbeats 4000000 in
set_option maxRecDepth 100000 in
theorem whole_start {p : Program} {e : Env} {s : State} {m : MethodId} {below : List Frame} {meth : Method} {c : Code} (l : Launch) (hlst : l.stackTraces = false) {b N : Nat} {xs : Nat → Int32} (hN2 : N ≤ 3072) (C0 : lw_At p s m meth c b N xs) : W p l e room_1 s m #[Value.ref b] below meth c s.heap [] 0 0 (lw_Z below #[Value.ref b] s) (entryFrame m ([Value.ref b] : List Value).toArray 7) := by
  obtain ⟨hx, hb, hr, hml, hown, hts0, hX, hbl, hlocks, hgv⟩ := id C0
  have hts : ∀ w ∈ wsL_law, w.before #[Value.ref b] s = true := fun w h => hts0 w (wsL_law_in w h)
  obtain ⟨dC, dI, hKc⟩ := st_D C0
  have hzX := st_X C0
  obtain ⟨cT, hK⟩ := cc_K (D := (dC, dI)) hKc (hts0 (.arrayClass .int) (by decide +kernel)) (hts0 (.arrayClass .long) (by decide +kernel)) (hts0 (.arrayClass .byte) (by decide +kernel)) hzX
  have B : BL dC dI cT 7 cL_law RL wsL_law (fun q : Nat => s.heap.size ≤ q) (p, e, s, m, #[Value.ref b], below, meth, c, lw_Z below #[Value.ref b] s, 0, 0) := ⟨⟨hx, hb, hml, hown, hts⟩, hK, fun a h => h, hzX, st_Z C0 _ (fun a h => Nat.not_le.mpr h), trivial⟩
  rw [lg_entry_eq]
  suffices hW : WC l dC dI room_1 7 (p, e, s, m, #[Value.ref b], below, meth, c, lw_Z below #[Value.ref b] s, 0, 0) (fun q : Nat => s.heap.size ≤ q) [] [] (cc_h0 cT) cc_q0 0 0 0 [(0, .ref b)] [] from hW _ _ _ (lv_entry ([.ref b]) (n := 7) (Nat.le_of_ble_eq_true rfl)) (fun k q h => by simp [va_pl] at h) ⟨fun i j p q h => by simp [va_pl] at h, fun k q h => by simp [va_pl] at h⟩ va_S.rf
  have hcT : (cc_h0 cT).2.2.1 = cT := rfl
  have hV : sx_V (cc_h0 cT) [] cc_q0 := cc_V0
  refine wl_nw B (C := RX11) (T := TX11) (N := 16) (ci := 11) (fs := [.null, .null, .null, .null, .null, .null, .null, .null, .null, .null, .null, .null, .null, .int 0, .int 0, .int 0]) inlX11 tyX11 tyX11_ok (by decide +kernel) (by decide +kernel) (by decide +kernel) rfl (fun j hj => zz_defX11 j hj) (Nat.le_of_ble_eq_true rfl) (Nat.le_of_ble_eq_true rfl) dL_law_0 (fun x0 => ?_)
  refine wl_dup B dL_law_3 rfl ?_
  refine wl_init B (As := []) (rest := [.ref x0]) (X2 := []) 0 rfl rfl (cc_X11 l dC dI cT x0) (cwI 0 B.1.2.2.2.2 gL_law_X11_init rfl rfl rfl (B.1.2.2.2.2 (.initialized RX11) (by decide +kernel)) (B.1.2.2.2.2 (.methodLink RL 30 yX11_init) (by decide +kernel)) (B.1.2.2.2.2 (.instanceMethod yX11_init) (by decide +kernel)) rfl (by decide +kernel) ⟨(Nat.le_of_ble_eq_true rfl), (Nat.le_of_ble_eq_true rfl)⟩) hcT hV rfl rfl (Nat.le_of_ble_eq_true rfl) (Nat.le_of_ble_eq_true rfl) (Nat.le_of_ble_eq_true rfl) dL_law_4 (fun M g r M0 g0 r0 hg hg0 hx9 hb9 hk9 hcT hV => ?_)
  have hx9 : cc_f M0 r0 x0 14 ∧ cc_f M0 r0 (r0.2.2.1 x0 0) 1 ∧ cc_d M0 g0 (r0.2.2.1 x0 9) ∧ cc_ua M0 r0 (r0.2.2.1 x0 11) (r0.2.2.1 x0 12) ∧ cc_f M0 r0 (r0.2.2.1 x0 11) 6 ∧ cc_f M0 r0 (r0.2.2.1 x0 1) 1 := hx9
  have f0 := hx9.1.gr hg0
  obtain ⟨t0, et0⟩ : ∃ z, z = r0.2.2.1 x0 0 := ⟨_, rfl⟩
  have f1 : cc_f M r t0 1 := by rw [et0]; exact hx9.2.1.gr hg0
  obtain ⟨fa, efa0⟩ : ∃ z, z = r0.2.2.1 x0 9 := ⟨_, rfl⟩
  have fd : cc_d M g fa := by rw [efa0]; exact hx9.2.2.1.gr hg0
  obtain ⟨uu, euu0⟩ : ∃ z, z = r0.2.2.1 x0 11 := ⟨_, rfl⟩
  obtain ⟨su, esu0⟩ : ∃ z, z = r0.2.2.1 x0 12 := ⟨_, rfl⟩
  have fu : cc_ua M r uu su := by rw [euu0, esu0]; exact hx9.2.2.2.1.gr hg0
  have f6 : cc_f M r uu 6 := by rw [euu0]; exact hx9.2.2.2.2.1.gr hg0
  obtain ⟨o0, eo00⟩ : ∃ z, z = r0.2.2.1 x0 1 := ⟨_, rfl⟩
  have fo : cc_f M r o0 1 := by rw [eo00]; exact hx9.2.2.2.2.2.gr hg0
  have ro0 : cc_r M r x0 1 o0 := cc_r.gr ⟨hx9.1.1, eo00.symm⟩ hg0
  have ruu : cc_r M r x0 11 uu := cc_r.gr ⟨hx9.1.1, euu0.symm⟩ hg0
  have rsu : cc_r M r x0 12 su := cc_r.gr ⟨hx9.1.1, esu0.symm⟩ hg0
  have rfa : cc_r M r x0 9 fa := cc_r.gr ⟨hx9.1.1, efa0.symm⟩ hg0
  have rx : cc_r M r x0 0 t0 := cc_r.gr ⟨hx9.1.1, et0.symm⟩ hg0
  have ox : cc_o M g x0 11 := ⟨hb9, hk9⟩
  clear hx9 hb9 hk9 hg hg0 et0 efa0 euu0 esu0 eo00
  refine wl_astore_n B [(1, .ref x0), (0, .ref b)] dL_law_7 rfl (by decide) rfl ?_
  refine wl_nw B (C := RX12) (T := TX12) (N := 51) (ci := 12) (fs := [.int 0, .null, .int 0, .null, .int 0, .int 0, .int 0, .int 0, .int 0, .int 0, .int 0, .long 0, .int 0, .int 0, .int 0, .int 0, .null, .null, .null, .null, .int 0, .null, .int 0, .null, .null, .null, .null, .null, .null, .null, .null, .int 0, .int 0, .int 0, .null, .null, .int 0, .int 0, .long 0, .long 0, .null, .null, .null, .null, .null, .int 0, .null, .null, .null, .int 0, .int 0]) inlX12 tyX12 tyX12_ok (by decide +kernel) (by decide +kernel) (by decide +kernel) rfl (fun j hj => zz_defX12 j hj) (Nat.le_of_ble_eq_true rfl) (Nat.le_of_ble_eq_true rfl) dL_law_8 (fun a0 => ?_)
  refine wl_dup B dL_law_11 rfl ?_
  refine wl_init B (As := []) (rest := [.ref a0]) (X2 := []) 0 rfl rfl (cc_X12 l dC dI cT a0) (cwI 0 B.1.2.2.2.2 gL_law_X12_init rfl rfl rfl (B.1.2.2.2.2 (.initialized RX12) (by decide +kernel)) (B.1.2.2.2.2 (.methodLink RL 33 yX12_init) (by decide +kernel)) (B.1.2.2.2.2 (.instanceMethod yX12_init) (by decide +kernel)) rfl (by decide +kernel) ⟨(Nat.le_of_ble_eq_true rfl), (Nat.le_of_ble_eq_true rfl)⟩) hcT hV rfl rfl (Nat.le_of_ble_eq_true rfl) (Nat.le_of_ble_eq_true rfl) (Nat.le_of_ble_eq_true rfl) dL_law_12 (fun M g r M0 g0 r0 hg hg0 hx9 hb9 hk9 hcT hV => ?_)
  have hx9 : a0 ∈ M0 ∧ (∀ k, r0.1 a0 k = 0) ∧ cc_z M0 r0 (r0.2.2.1 a0 17) ∧ cc_z M0 r0 (r0.2.2.1 a0 18) ∧ cc_z M0 r0 (r0.2.2.1 a0 23) := hx9
  replace f0 := f0.gr hg
  replace f1 := f1.gr hg
  replace rx := rx.gr hg
  replace rfa := rfa.gr hg
  replace fd := fd.gr hg
  replace fu := fu.gr hg
  replace f6 := f6.gr hg
  replace ruu := ruu.gr hg
  replace rsu := rsu.gr hg
  replace fo := fo.gr hg
  replace ro0 := ro0.gr hg
  replace ox := ox.gr hg
  have oa : cc_o M g a0 12 := ⟨hb9, hk9⟩
  have ia : cc_i M r a0 := cc_i.gr ⟨hx9.1, hx9.2.1⟩ hg0
  obtain ⟨-, -, -, -, -, -, e6, -⟩ := hg0 a0 hx9.1
  have z17 := hx9.2.2.1.gr hg0
  have z18 := hx9.2.2.2.1.gr hg0
  have z23 := hx9.2.2.2.2.gr hg0
  rw [← e6] at z17 z18 z23
  obtain ⟨m17, e17⟩ : ∃ z, z = r.2.2.1 a0 17 := ⟨_, rfl⟩
  obtain ⟨m18, e18⟩ : ∃ z, z = r.2.2.1 a0 18 := ⟨_, rfl⟩
  obtain ⟨m23, e23⟩ : ∃ z, z = r.2.2.1 a0 23 := ⟨_, rfl⟩
  have r17 : cc_r M r a0 17 m17 := ⟨oa.1, e17.symm⟩
  have r18 : cc_r M r a0 18 m18 := ⟨oa.1, e18.symm⟩
  have r23 : cc_r M r a0 23 m23 := ⟨oa.1, e23.symm⟩
  rw [← e17] at z17
  rw [← e18] at z18
  rw [← e23] at z23
  clear hx9 hb9 hk9 hg hg0 e6 e17 e18 e23
  refine wl_astore_n B [(2, .ref a0), (1, .ref x0), (0, .ref b)] dL_law_15 rfl (by decide) rfl ?_
  refine wl_iconst B 1 dL_law_16 (by decide) ?_
  refine wl_nL B 200 1 (by decide) (by decide) hcT hV (by decide +kernel) (by decide) (by decide) (by decide) (Nat.le_of_ble_eq_true rfl) (Nat.le_of_ble_eq_true rfl) dL_law_17 (fun ot M g r hg y_ot z_ot hcT hV => ?_)
  replace f0 := f0.gr hg
  replace f1 := f1.gr hg
  replace rx := rx.gr hg
  replace rfa := rfa.gr hg
  replace fd := fd.gr hg
  replace fu := fu.gr hg
  replace f6 := f6.gr hg
  replace ruu := ruu.gr hg
  replace rsu := rsu.gr hg
  replace fo := fo.gr hg
  replace ro0 := ro0.gr hg
  replace ox := ox.gr hg
  replace oa := oa.gr hg
  replace ia := ia.gr hg
  replace z17 := z17.gr hg
  replace z18 := z18.gr hg
  replace z23 := z23.gr hg
  replace r17 := r17.gr hg
  replace r18 := r18.gr hg
  replace r23 := r23.gr hg
  refine wl_astore_n B [(3, .ref ot), (2, .ref a0), (1, .ref x0), (0, .ref b)] dL_law_19 rfl (by decide) rfl ?_
  refine wl_iconst B 0 dL_law_20 (by decide) ?_
  refine wl_istore B [(4, .int 0), (3, .ref ot), (2, .ref a0), (1, .ref x0), (0, .ref b)] dL_law_21 (by decide) rfl ?_
  refine wc_widen 295 19186 (Nat.le_of_ble_eq_true rfl) (Nat.le_of_ble_eq_true rfl) ?_
  intro ls H locs hl hP hD hS
  have hLs : ∀ a, a ∈ M → s.heap.size ≤ a := fun a ha => cc_in (X := []) hD a ha
  have hKs : va_K (dC, dI) vwCl (sx_tys g) s := by
    have z := hK
    rw [← hcT] at z
    exact z
  have e0 : (0 : Int32).toInt = 0 := rfl
  have hI : lc_I g M x0 a0 t0 (fun k => r.2.2.1 a0 k) r := by
    refine ⟨hV, ?_, ?_, ?_, ?_, ?_, rx.2, fun k _ => rfl, ?_, ?_⟩
    · intro z
      rw [ia.2 8] at z
      exact absurd z (by decide)
    · intro i k hi hk1 hk2
      have hk3 : (k : Int) < (r.2.2.2.1 (r.2.2.1 a0 18) i).toInt := hk2
      rw [r18.2, z18.2.1 i] at hk3
      have hk4 : (k : Int) < 0 := hk3
      omega
    · intro j
      show 0 ≤ (r.2.2.2.2 (r.2.2.1 a0 17) j).toInt ∧ (r.2.2.2.2 (r.2.2.1 a0 17) j).toInt < 282429536481
      rw [r17.2, z17.2.2 j]
      decide
    · intro t ht
      show mv_s _ _ _ t (r.2.2.2.1 (r.2.2.1 a0 23) t).toInt.toNat ≤ 4
      rw [r23.2, z23.2.1 t]
      exact Nat.zero_le _
    · intro f hf
      rw [ia.2 45] at hf
      have hf2 : (f : Int) < 0 := hf
      omega
    · rw [f1.2, ia.2 2]
    · rw [f0.2, ia.2 45]
  have hI7 : lc_I7 g M x0 a0 t0 (r.2.2.1 t0 0) fa (fun k => r.2.2.1 a0 k) r := by
    refine ⟨hI, rfl, rfa.2, ?_, ?_⟩
    · rw [f1.2]
      exact fun j hj => absurd hj (Nat.not_lt_zero j)
    · intro f hf
      rw [f0.2] at hf
      have hf2 : (f : Int) < 0 := hf
      omega
  have hI6 : lc_I8 g M x0 a0 t0 (r.2.2.1 t0 0) fa (fun k => r.2.2.1 a0 k) r := by
    refine ⟨hI7, uu, su, o0, r.2.2.1 o0 0, ruu.2, rsu.2, ⟨fu.2.2.1, fu.2.2.2⟩, ⟨⟨?_, ?_⟩, ?_⟩, ⟨ro0.2, rfl⟩, ?_, ?_⟩
    · rw [f6.2, ia.2 20]
    · intro s hs
      rw [f6.2] at hs
      have hs2 : (s : Int) < 0 := hs
      omega
    · intro s hs
      rw [f6.2] at hs
      have hs2 : (s : Int) < 0 := hs
      omega
    · rw [fo.2, ia.2 22]
    · rw [fo.2]
      exact fun j hj => absurd hj (Nat.not_lt_zero j)
  exact law_loop l hlst dC dI g M (cc_nd (X := []) hD) C0 hKs (st_Z C0 _ (fun a h z => z.elim (fun y => absurd (hLs a y) (by omega)) (fun y => absurd y (by omega)))) hLs hN2 fd.2 (mm := fun k => r.2.2.1 a0 k) ox.1 ox.2 oa.1 oa.2 y_ot.1 y_ot.2.1 y_ot.2.2 (N + 1) 0 295 19186 r (by rw [e0]; omega) (by rw [e0]; omega) (by rw [e0]; omega) (by rw [e0]; omega) (by rw [e0]; omega) hI6 (Nat.le_of_ble_eq_true rfl) (Nat.le_of_ble_eq_true rfl) ls H locs hl hP ⟨hS.1, fun q h1 h2 => hS.2.1 q h1 (fun h3 => h2 (Or.inr h3)), fun z hz => Or.inr (hS.2.2 z hz)⟩
