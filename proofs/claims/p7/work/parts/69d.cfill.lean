theorem cc_pf {L : List Nat} {f : Nat → va_E} : (va_pl L f).map Prod.fst = L := by
  unfold va_pl
  rw [List.map_map]
  exact (List.map_congr_left (fun _ _ => rfl)).trans (List.map_id _)
theorem cc_dF {A : Nat → Prop} {X : va_W} {L : List Nat} {f g : Nat → va_E} (hD : va_D A (X ++ va_pl L f)) : va_D A (X ++ va_pl L g) := by
  refine ⟨wc_ndI.mpr ?_, fun k z hk => ?_⟩
  · have h1 := wc_ndI.mp hD.1
    rw [List.map_append, cc_pf] at h1 ⊢
    exact h1
  · by_cases hlt : k < X.length
    · rw [List.getElem?_append_left hlt] at hk
      exact hD.2 k z (by rw [List.getElem?_append_left hlt]; exact hk)
    · rw [List.getElem?_append_right (by omega)] at hk
      unfold va_pl at hk
      rw [List.getElem?_map] at hk
      obtain ⟨x, hx, e⟩ := Option.map_eq_some_iff.mp hk
      rw [← e]
      exact cc_in hD x (List.mem_of_getElem? hx)
section CR8
variable {l : Launch} {dC : Nat → ClassId} {dI : Nat → Nat → Nat} {cT : Nat → ClassId} {R : Room} {mL : Nat} {cc : ByteArray} {own : String} {Ts : List Cond} {A : Nat → Prop} {Z : Zt} {X X2 : va_W} {L : List Nat} {h : Sh} {q : Sg} {cells slots pc : Nat} {lvs : List (Nat × Value)} {rest st : List Value}
theorem wc_callSv (B : BC dC dI cT mL cc own Ts A Z) {n index maxL : Nat} {y : MethodName} {bytes : ByteArray} {ret : Option FieldType} {ws : List Cond} {rm : Room} {As : List Value} {post : Sg → Prop} (hM : sx_nd L → CMv l dC dI h L y ws rm q As post) (cw : CallB R Z.2.2.1 Z.2.2.2.2.1 own index y bytes maxL ret ws rm 0 0 n ∧ (Cond.static y).before Z.2.2.2.2.1 Z.2.2.1 = true) (hcT : h.2.2.1 = cT) (hn : As.length = n) (hst : st = As.reverse ++ rest) (hW : (rest.map fun v => v.category).sum ≤ 8) (hc0 : cells ≤ R.cells) (hs0 : slots ≤ R.slots) (hd : decode cc pc = .ok (.invokestatic index, 3)) (kk : ∀ q2 : Sg, post q2 → WC l dC dI R mL Z A X L h q2 cells slots (pc + 3) lvs rest) : WC l dC dI R mL Z A X L h q cells slots pc lvs st := by
  intro ls H locs hl hP hD hS
  subst hst
  have hPb : va_P (dC, dI) vwCl (va_pl L (sg_F h q)) H := fun k z hk => hP (X.length + k) z (by rw [List.getElem?_append_right (by omega), Nat.add_sub_cancel_left]; exact hk)
  have hfree : ∀ a, AL L H.size a → A a := fun a ha => ha.elim (cc_in hD a) (fun e => B.2.2.1 a (Nat.le_trans hS.1 e))
  have hKs : va_K (dC, dI) vwCl (sx_tys h) Z.2.2.1 := by
    have z := B.2.1
    rw [← hcT] at z
    exact z
  refine va_callv (va_runS (As := As) (rest := rest) B.1 (hM (cc_nd hD) H.size) cw ⟨fun a U g mk z => by obtain ⟨z0, z1, zP, zK, zZ⟩ := z; exact ⟨z0, z1, zP, va_K.moved (u := U) (U := U.calling g mk a) (Vm.Alike.refl U.vm) zK, zZ.calling⟩, fun U hU hW9 => ⟨rfl, by rw [hU], by rw [hU]; exact hPb, va_K.moved hW9.alike hKs, B.2.2.2.2.1.enter hU hW9 hS hfree⟩⟩ rfl hn hl.1 rfl (lv_room hW) hd ⟨hc0, hs0⟩) hS (fun a _ z => hfree a z) hfree (fun u t H1 locs1 ht hvm hw hB hz1 hk1 hS1 => ?_)
  unfold sx_at at hB
  rw [ht] at hB
  have hP3 : va_P (dC, dI) vwCl (X ++ va_pl L (sg_F h u)) H1 := fun k z hk => by
    by_cases hlt : k < X.length
    · rw [List.getElem?_append_left hlt] at hk
      have hk2 : (X ++ va_pl L (sg_F h q))[k]? = some z := by rw [List.getElem?_append_left hlt]; exact hk
      have zl := (hP k z hk2).lt
      refine (hP k z hk2).kept (hk1 z.1 zl (fun w => ?_))
      rcases w with w | w
      · obtain ⟨i, hi⟩ := List.mem_iff_getElem?.mp w
        have e1 : (X ++ va_pl L (sg_F h q))[X.length + i]? = some (z.1, sg_F h q z.1) := by
          rw [List.getElem?_append_right (by omega), Nat.add_sub_cancel_left]
          unfold va_pl
          rw [List.getElem?_map, hi]
          rfl
        have := hD.1 k (X.length + i) z _ hk2 e1 rfl
        omega
      · have zl2 : z.1 < H.size := zl
        have w2 : H.size ≤ z.1 := w
        omega
    · rw [List.getElem?_append_right (by omega)] at hk
      exact hB _ z hk
  exact kk u hw ls H1 locs1 hl hP3 (cc_dF hD) hS1
theorem wc_fill (B : BC dC dI cT mL cc own Ts A Z) {index maxL a n : Nat} {bytes : ByteArray} {ret : Option FieldType} (ha : cc_y L h a 100 n) (cw : CallB R Z.2.2.1 Z.2.2.2.2.1 own index yJ7_fill_53178 bytes maxL ret wsJ7_fill_53178 ({ frames := 0, cells := 0, slots := 0, locals := 0 } : Room) 0 0 2 ∧ (Cond.static yJ7_fill_53178).before Z.2.2.2.2.1 Z.2.2.1 = true) (hcT : h.2.2.1 = cT) (hV : sx_V h L q) (hW : (rest.map fun v => v.category).sum ≤ 8) (hc0 : cells ≤ R.cells) (hs0 : slots ≤ R.slots) (hd : decode cc pc = .ok (.invokestatic index, 3)) (kk : ∀ r : Sg, sx_V h L r → (∀ b, b ∈ L → r.1 b = q.1 b) → WC l dC dI R mL Z A X L h r cells slots (pc + 3) lvs rest) : WC l dC dI R mL Z A X L h q cells slots pc lvs (.int (-1) :: .ref a :: rest) :=
  wc_callSv B (As := [.ref a, .int (-1)]) (fun hN => k_J7_fill_53178 l dC dI h L hN q hV (a0 := a) ha.1 ha.2.1 (-1) (by decide) (by decide) (show sx_E 100 (-1) from trivial)) cw hcT rfl rfl hW hc0 hs0 hd (fun r z => kk r z.1 (fun b hb => (z.2.1 b hb (fun w => w.2.2 rfl)).1))
theorem cc_f.fill {M : List Nat} {r r2 : Sg} {a k : Nat} (z : cc_f M r a k) (h2 : ∀ b, b ∈ M → r2.1 b = r.1 b) : cc_f M r2 a k := ⟨z.1, by rw [h2 a z.1]; exact z.2⟩
end CR8
