set_option maxHeartbeats 4000000 in
set_option maxRecDepth 100000 in
theorem lc6_136 (l : Launch) (hlst : l.stackTraces = false) {Z : Zt} (dC : Nat → ClassId) (dI : Nat → Nat → Nat) (h : Sh) (L : List Nat) (hN : sx_nd L) (B : BX dC dI h L 7 cL_law RL wsL_law Z) {b N : Nat} {xs : Nat → Int32} (hX : va_X b N xs Z.2.2.1 Z.2.2.1.heap) (hbl : b < Z.2.2.1.heap.size) (hbA : ¬ AL L Z.2.2.1.heap.size b) {x0 a0 ot t0 tb fa : Nat} (hfd : lc_fd h fa) {mm : Nat → Nat} (hx0 : x0 ∈ L) (kx0 : h.1 x0 = 11) (ha0 : a0 ∈ L) (ka0 : h.1 a0 = 12) (hot : ot ∈ L) (kot : h.1 ot = 200) (lot : h.2.1 ot = 1) {i : Int32} (hi0 : 0 ≤ i.toInt) (hi1 : i.toInt + 6 ≤ (N : Int)) (hN2 : N ≤ 3072) (hroom : (zl_more Z).2.2.2.2.2.2.2.2.2.1 ≤ room_1.cells ∧ (zl_more Z).2.2.2.2.2.2.2.2.2.2 ≤ room_1.slots) {q : Sg} (hI : lc_I8 h L x0 a0 t0 tb fa mm q) (hcont : ∀ (Z2 : Zt) (q2 : Sg), (Z2 = Z ∨ Z2 = zl_more Z) → lc_I8 h L x0 a0 t0 tb fa mm q2 → WA l dC dI h L room_1 7 Z2 q2 775 [(4, .int i), (3, .ref ot), (2, .ref a0), (1, .ref x0), (0, .ref b)] []) : WA l dC dI h L room_1 7 Z q 136 [(4, .int i), (3, .ref ot), (2, .ref a0), (1, .ref x0), (0, .ref b)] [] := by
  obtain ⟨hI, uu, su, o0, ob, euu, esu, hdz, hu0, ⟨eo0, eob⟩, hout0⟩ := hI
  obtain ⟨hI, etb, efa, hT0, hR0⟩ := hI
  obtain ⟨hV, mN, mF0, mU0, mS0, mL0, et0, em, hte, hfe⟩ := hI
  obtain ⟨ht0, kt0, lt0⟩ : t0 ∈ L ∧ h.1 t0 = 7 ∧ h.2.1 t0 = 1 := by obtain ⟨r9, e9, z1, z2, z3⟩ := hV.refn (t := 7) (n := 1) hx0 kx0 0 rfl (by decide) rfl (by decide); rw [← et0, e9]; exact ⟨z1, z2, z3⟩
  obtain ⟨m1, xm1⟩ : ∃ z, z = mm 1 := ⟨_, rfl⟩
  have em1 : q.2.2.1 a0 1 = m1 := by rw [xm1]; exact em 1 (by decide)
  obtain ⟨hm1, km1, lm1⟩ : m1 ∈ L ∧ h.1 m1 = 111 ∧ h.2.1 m1 = 440 := by obtain ⟨r9, e9, z1, z2, z3⟩ := hV.refn (t := 111) (n := 440) ha0 ka0 1 rfl (by decide) rfl (by decide); rw [← em1, e9]; exact ⟨z1, z2, z3⟩
  obtain ⟨m3, xm3⟩ : ∃ z, z = mm 3 := ⟨_, rfl⟩
  have em3 : q.2.2.1 a0 3 = m3 := by rw [xm3]; exact em 3 (by decide)
  obtain ⟨hm3, km3, lm3⟩ : m3 ∈ L ∧ h.1 m3 = 113 ∧ h.2.1 m3 = 500 := by obtain ⟨r9, e9, z1, z2, z3⟩ := hV.refn (t := 113) (n := 500) ha0 ka0 3 rfl (by decide) rfl (by decide); rw [← em3, e9]; exact ⟨z1, z2, z3⟩
  obtain ⟨m16, xm16⟩ : ∃ z, z = mm 16 := ⟨_, rfl⟩
  have em16 : q.2.2.1 a0 16 = m16 := by rw [xm16]; exact em 16 (by decide)
  obtain ⟨hm16, km16, lm16⟩ : m16 ∈ L ∧ h.1 m16 = 226 ∧ h.2.1 m16 = 6 := by obtain ⟨r9, e9, z1, z2, z3⟩ := hV.refn (t := 226) (n := 6) ha0 ka0 16 rfl (by decide) rfl (by decide); rw [← em16, e9]; exact ⟨z1, z2, z3⟩
  obtain ⟨m17, xm17⟩ : ∃ z, z = mm 17 := ⟨_, rfl⟩
  have em17 : q.2.2.1 a0 17 = m17 := by rw [xm17]; exact em 17 (by decide)
  obtain ⟨hm17, km17, lm17⟩ : m17 ∈ L ∧ h.1 m17 = 227 ∧ h.2.1 m17 = 30 := by obtain ⟨r9, e9, z1, z2, z3⟩ := hV.refn (t := 227) (n := 30) ha0 ka0 17 rfl (by decide) rfl (by decide); rw [← em17, e9]; exact ⟨z1, z2, z3⟩
  obtain ⟨m18, xm18⟩ : ∃ z, z = mm 18 := ⟨_, rfl⟩
  have em18 : q.2.2.1 a0 18 = m18 := by rw [xm18]; exact em 18 (by decide)
  obtain ⟨hm18, km18, lm18⟩ : m18 ∈ L ∧ h.1 m18 = 128 ∧ h.2.1 m18 = 6 := by obtain ⟨r9, e9, z1, z2, z3⟩ := hV.refn (t := 128) (n := 6) ha0 ka0 18 rfl (by decide) rfl (by decide); rw [← em18, e9]; exact ⟨z1, z2, z3⟩
  obtain ⟨m19, xm19⟩ : ∃ z, z = mm 19 := ⟨_, rfl⟩
  have em19 : q.2.2.1 a0 19 = m19 := by rw [xm19]; exact em 19 (by decide)
  obtain ⟨hm19, km19, lm19⟩ : m19 ∈ L ∧ h.1 m19 = 129 ∧ h.2.1 m19 = 30 := by obtain ⟨r9, e9, z1, z2, z3⟩ := hV.refn (t := 129) (n := 30) ha0 ka0 19 rfl (by decide) rfl (by decide); rw [← em19, e9]; exact ⟨z1, z2, z3⟩
  obtain ⟨m21, xm21⟩ : ∃ z, z = mm 21 := ⟨_, rfl⟩
  have em21 : q.2.2.1 a0 21 = m21 := by rw [xm21]; exact em 21 (by decide)
  obtain ⟨hm21, km21, lm21⟩ : m21 ∈ L ∧ h.1 m21 = 131 ∧ h.2.1 m21 = 80 := by obtain ⟨r9, e9, z1, z2, z3⟩ := hV.refn (t := 131) (n := 80) ha0 ka0 21 rfl (by decide) rfl (by decide); rw [← em21, e9]; exact ⟨z1, z2, z3⟩
  obtain ⟨m23, xm23⟩ : ∃ z, z = mm 23 := ⟨_, rfl⟩
  have em23 : q.2.2.1 a0 23 = m23 := by rw [xm23]; exact em 23 (by decide)
  obtain ⟨hm23, km23, lm23⟩ : m23 ∈ L ∧ h.1 m23 = 133 ∧ h.2.1 m23 = 9 := by obtain ⟨r9, e9, z1, z2, z3⟩ := hV.refn (t := 133) (n := 9) ha0 ka0 23 rfl (by decide) rfl (by decide); rw [← em23, e9]; exact ⟨z1, z2, z3⟩
  obtain ⟨m24, xm24⟩ : ∃ z, z = mm 24 := ⟨_, rfl⟩
  have em24 : q.2.2.1 a0 24 = m24 := by rw [xm24]; exact em 24 (by decide)
  obtain ⟨hm24, km24, lm24⟩ : m24 ∈ L ∧ h.1 m24 = 134 ∧ h.2.1 m24 = 108 := by obtain ⟨r9, e9, z1, z2, z3⟩ := hV.refn (t := 134) (n := 108) ha0 ka0 24 rfl (by decide) rfl (by decide); rw [← em24, e9]; exact ⟨z1, z2, z3⟩
  obtain ⟨m25, xm25⟩ : ∃ z, z = mm 25 := ⟨_, rfl⟩
  have em25 : q.2.2.1 a0 25 = m25 := by rw [xm25]; exact em 25 (by decide)
  obtain ⟨hm25, km25, lm25⟩ : m25 ∈ L ∧ h.1 m25 = 135 ∧ h.2.1 m25 = 108 := by obtain ⟨r9, e9, z1, z2, z3⟩ := hV.refn (t := 135) (n := 108) ha0 ka0 25 rfl (by decide) rfl (by decide); rw [← em25, e9]; exact ⟨z1, z2, z3⟩
  obtain ⟨m26, xm26⟩ : ∃ z, z = mm 26 := ⟨_, rfl⟩
  have em26 : q.2.2.1 a0 26 = m26 := by rw [xm26]; exact em 26 (by decide)
  obtain ⟨hm26, km26, lm26⟩ : m26 ∈ L ∧ h.1 m26 = 136 ∧ h.2.1 m26 = 108 := by obtain ⟨r9, e9, z1, z2, z3⟩ := hV.refn (t := 136) (n := 108) ha0 ka0 26 rfl (by decide) rfl (by decide); rw [← em26, e9]; exact ⟨z1, z2, z3⟩
  obtain ⟨m27, xm27⟩ : ∃ z, z = mm 27 := ⟨_, rfl⟩
  have em27 : q.2.2.1 a0 27 = m27 := by rw [xm27]; exact em 27 (by decide)
  obtain ⟨hm27, km27, lm27⟩ : m27 ∈ L ∧ h.1 m27 = 137 ∧ h.2.1 m27 = 9 := by obtain ⟨r9, e9, z1, z2, z3⟩ := hV.refn (t := 137) (n := 9) ha0 ka0 27 rfl (by decide) rfl (by decide); rw [← em27, e9]; exact ⟨z1, z2, z3⟩
  obtain ⟨m28, xm28⟩ : ∃ z, z = mm 28 := ⟨_, rfl⟩
  have em28 : q.2.2.1 a0 28 = m28 := by rw [xm28]; exact em 28 (by decide)
  obtain ⟨hm28, km28, lm28⟩ : m28 ∈ L ∧ h.1 m28 = 138 ∧ h.2.1 m28 = 540 := by obtain ⟨r9, e9, z1, z2, z3⟩ := hV.refn (t := 138) (n := 540) ha0 ka0 28 rfl (by decide) rfl (by decide); rw [← em28, e9]; exact ⟨z1, z2, z3⟩
  obtain ⟨m29, xm29⟩ : ∃ z, z = mm 29 := ⟨_, rfl⟩
  have em29 : q.2.2.1 a0 29 = m29 := by rw [xm29]; exact em 29 (by decide)
  obtain ⟨hm29, km29, lm29⟩ : m29 ∈ L ∧ h.1 m29 = 139 ∧ h.2.1 m29 = 540 := by obtain ⟨r9, e9, z1, z2, z3⟩ := hV.refn (t := 139) (n := 540) ha0 ka0 29 rfl (by decide) rfl (by decide); rw [← em29, e9]; exact ⟨z1, z2, z3⟩
  obtain ⟨m30, xm30⟩ : ∃ z, z = mm 30 := ⟨_, rfl⟩
  have em30 : q.2.2.1 a0 30 = m30 := by rw [xm30]; exact em 30 (by decide)
  obtain ⟨hm30, km30, lm30⟩ : m30 ∈ L ∧ h.1 m30 = 140 ∧ h.2.1 m30 = 540 := by obtain ⟨r9, e9, z1, z2, z3⟩ := hV.refn (t := 140) (n := 540) ha0 ka0 30 rfl (by decide) rfl (by decide); rw [← em30, e9]; exact ⟨z1, z2, z3⟩
  obtain ⟨m34, xm34⟩ : ∃ z, z = mm 34 := ⟨_, rfl⟩
  have em34 : q.2.2.1 a0 34 = m34 := by rw [xm34]; exact em 34 (by decide)
  obtain ⟨hm34, km34, lm34⟩ : m34 ∈ L ∧ h.1 m34 = 144 ∧ h.2.1 m34 = 4 := by obtain ⟨r9, e9, z1, z2, z3⟩ := hV.refn (t := 144) (n := 4) ha0 ka0 34 rfl (by decide) rfl (by decide); rw [← em34, e9]; exact ⟨z1, z2, z3⟩
  obtain ⟨m35, xm35⟩ : ∃ z, z = mm 35 := ⟨_, rfl⟩
  have em35 : q.2.2.1 a0 35 = m35 := by rw [xm35]; exact em 35 (by decide)
  obtain ⟨hm35, km35, lm35⟩ : m35 ∈ L ∧ h.1 m35 = 245 ∧ h.2.1 m35 = 12 := by obtain ⟨r9, e9, z1, z2, z3⟩ := hV.refn (t := 245) (n := 12) ha0 ka0 35 rfl (by decide) rfl (by decide); rw [← em35, e9]; exact ⟨z1, z2, z3⟩
  obtain ⟨m40, xm40⟩ : ∃ z, z = mm 40 := ⟨_, rfl⟩
  have em40 : q.2.2.1 a0 40 = m40 := by rw [xm40]; exact em 40 (by decide)
  obtain ⟨hm40, km40, lm40⟩ : m40 ∈ L ∧ h.1 m40 = 150 ∧ h.2.1 m40 = 2400 := by obtain ⟨r9, e9, z1, z2, z3⟩ := hV.refn (t := 150) (n := 2400) ha0 ka0 40 rfl (by decide) rfl (by decide); rw [← em40, e9]; exact ⟨z1, z2, z3⟩
  obtain ⟨m41, xm41⟩ : ∃ z, z = mm 41 := ⟨_, rfl⟩
  have em41 : q.2.2.1 a0 41 = m41 := by rw [xm41]; exact em 41 (by decide)
  obtain ⟨hm41, km41, lm41⟩ : m41 ∈ L ∧ h.1 m41 = 151 ∧ h.2.1 m41 = 12 := by obtain ⟨r9, e9, z1, z2, z3⟩ := hV.refn (t := 151) (n := 12) ha0 ka0 41 rfl (by decide) rfl (by decide); rw [← em41, e9]; exact ⟨z1, z2, z3⟩
  obtain ⟨m42, xm42⟩ : ∃ z, z = mm 42 := ⟨_, rfl⟩
  have em42 : q.2.2.1 a0 42 = m42 := by rw [xm42]; exact em 42 (by decide)
  obtain ⟨hm42, km42, lm42⟩ : m42 ∈ L ∧ h.1 m42 = 152 ∧ h.2.1 m42 = 12 := by obtain ⟨r9, e9, z1, z2, z3⟩ := hV.refn (t := 152) (n := 12) ha0 ka0 42 rfl (by decide) rfl (by decide); rw [← em42, e9]; exact ⟨z1, z2, z3⟩
  obtain ⟨m43, xm43⟩ : ∃ z, z = mm 43 := ⟨_, rfl⟩
  have em43 : q.2.2.1 a0 43 = m43 := by rw [xm43]; exact em 43 (by decide)
  obtain ⟨hm43, km43, lm43⟩ : m43 ∈ L ∧ h.1 m43 = 153 ∧ h.2.1 m43 = 12 := by obtain ⟨r9, e9, z1, z2, z3⟩ := hV.refn (t := 153) (n := 12) ha0 ka0 43 rfl (by decide) rfl (by decide); rw [← em43, e9]; exact ⟨z1, z2, z3⟩
  obtain ⟨m44, xm44⟩ : ∃ z, z = mm 44 := ⟨_, rfl⟩
  have em44 : q.2.2.1 a0 44 = m44 := by rw [xm44]; exact em 44 (by decide)
  obtain ⟨hm44, km44, lm44⟩ : m44 ∈ L ∧ h.1 m44 = 154 ∧ h.2.1 m44 = 12 := by obtain ⟨r9, e9, z1, z2, z3⟩ := hV.refn (t := 154) (n := 12) ha0 ka0 44 rfl (by decide) rfl (by decide); rw [← em44, e9]; exact ⟨z1, z2, z3⟩
  obtain ⟨m46, xm46⟩ : ∃ z, z = mm 46 := ⟨_, rfl⟩
  have em46 : q.2.2.1 a0 46 = m46 := by rw [xm46]; exact em 46 (by decide)
  obtain ⟨hm46, km46, lm46⟩ : m46 ∈ L ∧ h.1 m46 = 156 ∧ h.2.1 m46 = 144 := by obtain ⟨r9, e9, z1, z2, z3⟩ := hV.refn (t := 156) (n := 144) ha0 ka0 46 rfl (by decide) rfl (by decide); rw [← em46, e9]; exact ⟨z1, z2, z3⟩
  obtain ⟨m47, xm47⟩ : ∃ z, z = mm 47 := ⟨_, rfl⟩
  have em47 : q.2.2.1 a0 47 = m47 := by rw [xm47]; exact em 47 (by decide)
  obtain ⟨hm47, km47, lm47⟩ : m47 ∈ L ∧ h.1 m47 = 157 ∧ h.2.1 m47 = 4096 := by obtain ⟨r9, e9, z1, z2, z3⟩ := hV.refn (t := 157) (n := 4096) ha0 ka0 47 rfl (by decide) rfl (by decide); rw [← em47, e9]; exact ⟨z1, z2, z3⟩
  obtain ⟨m48, xm48⟩ : ∃ z, z = mm 48 := ⟨_, rfl⟩
  have em48 : q.2.2.1 a0 48 = m48 := by rw [xm48]; exact em 48 (by decide)
  obtain ⟨hm48, km48, lm48⟩ : m48 ∈ L ∧ h.1 m48 = 158 ∧ h.2.1 m48 = 12 := by obtain ⟨r9, e9, z1, z2, z3⟩ := hV.refn (t := 158) (n := 12) ha0 ka0 48 rfl (by decide) rfl (by decide); rw [← em48, e9]; exact ⟨z1, z2, z3⟩
  have mF : mv_F m18 m19 q := by rw [xm18, xm19]; exact mF0
  have mU : mv_U m17 q := by rw [xm17]; exact mU0
  have mS : mv_S m23 m26 m28 m29 q := by rw [xm23, xm26, xm28, xm29]; exact mS0
  have mL : mv_L m40 m41 m44 a0 q := by rw [xm40, xm41, xm44]; exact mL0
  have hF : sx_fr h L (fun _ => True) q q := sx_fr.rf
  obtain ⟨htb, ktb, ltb⟩ : tb ∈ L ∧ h.1 tb = 300 ∧ h.2.1 tb = 440 := by obtain ⟨r9, e9, z1, z2, z3⟩ := hV.refn (t := 300) (n := 440) ht0 kt0 0 rfl (by decide) (by rw [lt0]; rfl) (by decide); rw [← etb, e9]; exact ⟨z1, z2, z3⟩
  obtain ⟨hfa, kfa, lfa⟩ : fa ∈ L ∧ h.1 fa = 403 ∧ h.2.1 fa = 12 := by obtain ⟨r9, e9, z1, z2, z3⟩ := hV.refn (t := 403) (n := 12) hx0 kx0 9 rfl (by decide) rfl (by decide); rw [← efa, e9]; exact ⟨z1, z2, z3⟩
  have hT : ty_T (q.2.2.2.1 tb) (q.2.2.2.1 m1) (q.1 t0 1).toInt.toNat := by rw [xm1]; exact hT0
  have hR : lc_R h fa m44 x0 q := by rw [xm44]; exact hR0
  have gx14 : (0 : Int) ≤ (q.1 x0 14).toInt ∧ (q.1 x0 14).toInt ≤ 12 := hV.int hx0 kx0 14
  have gt1 : (0 : Int) ≤ (q.1 t0 1).toInt ∧ (q.1 t0 1).toInt ≤ 440 := by have z9 := hV.int ht0 kt0 1; rw [etb, ltb] at z9; exact z9
  obtain ⟨huu, kuu⟩ : uu ∈ L ∧ h.1 uu = 9 := by obtain ⟨r9, e9, z1, z2⟩ := hV.ref (t := 9) hx0 kx0 11 rfl (by decide); rw [← euu, e9]; exact ⟨z1, z2⟩
  obtain ⟨hsu, ksu⟩ : su ∈ L ∧ h.1 su = 9 := by obtain ⟨r9, e9, z1, z2⟩ := hV.ref (t := 9) hx0 kx0 12 rfl (by decide); rw [← esu, e9]; exact ⟨z1, z2⟩
  have nuu_su : ¬ uu = su := hdz.1
  obtain ⟨uc, euc⟩ : ∃ z, q.2.2.1 uu 1 = z := ⟨_, rfl⟩
  obtain ⟨huc, kuc, luc⟩ : uc ∈ L ∧ h.1 uc = 101 ∧ h.2.1 uc = 3 := by obtain ⟨r9, e9, z1, z2, z3⟩ := hV.refn (t := 101) (n := 3) huu kuu 1 rfl (by decide) rfl (by decide); rw [← euc, e9]; exact ⟨z1, z2, z3⟩
  obtain ⟨un, eun⟩ : ∃ z, q.2.2.1 uu 2 = z := ⟨_, rfl⟩
  obtain ⟨hun, kun, lun⟩ : un ∈ L ∧ h.1 un = 202 ∧ h.2.1 un = 15 := by obtain ⟨r9, e9, z1, z2, z3⟩ := hV.refn (t := 202) (n := 15) huu kuu 2 rfl (by decide) rfl (by decide); rw [← eun, e9]; exact ⟨z1, z2, z3⟩
  obtain ⟨uf, euf⟩ : ∃ z, q.2.2.1 uu 3 = z := ⟨_, rfl⟩
  obtain ⟨huf, kuf, luf⟩ : uf ∈ L ∧ h.1 uf = 102 ∧ h.2.1 uf = 15 := by obtain ⟨r9, e9, z1, z2, z3⟩ := hV.refn (t := 102) (n := 15) huu kuu 3 rfl (by decide) rfl (by decide); rw [← euf, e9]; exact ⟨z1, z2, z3⟩
  obtain ⟨uw, euw⟩ : ∃ z, q.2.2.1 uu 4 = z := ⟨_, rfl⟩
  obtain ⟨huw, kuw, luw⟩ : uw ∈ L ∧ h.1 uw = 103 ∧ h.2.1 uw = 15 := by obtain ⟨r9, e9, z1, z2, z3⟩ := hV.refn (t := 103) (n := 15) huu kuu 4 rfl (by decide) rfl (by decide); rw [← euw, e9]; exact ⟨z1, z2, z3⟩
  have hu : lc_u8 (q.1 uu 6) (q.1 a0 20) (q.2.2.2.1 uc) (q.2.2.2.1 m18) (q.2.2.2.1 uf) (q.2.2.2.1 m19) (q.2.2.2.1 uw) (q.2.2.2.2 un) (q.2.2.2.2 m17) := by rw [← euc, ← euf, ← euw, ← eun, xm17, xm18, xm19]; exact hu0
  obtain ⟨ho0, ko0, lo0⟩ : o0 ∈ L ∧ h.1 o0 = 7 ∧ h.2.1 o0 = 2 := by obtain ⟨r9, e9, z1, z2, z3⟩ := hV.refn (t := 7) (n := 2) hx0 kx0 1 rfl (by decide) rfl (by decide); rw [← eo0, e9]; exact ⟨z1, z2, z3⟩
  obtain ⟨hob, kob, lob⟩ : ob ∈ L ∧ h.1 ob = 300 ∧ h.2.1 ob = 59 := by obtain ⟨r9, e9, z1, z2, z3⟩ := hV.refn (t := 300) (n := 59) ho0 ko0 0 rfl (by decide) (by rw [lo0]; rfl) (by decide); rw [← eob, e9]; exact ⟨z1, z2, z3⟩
  have nt0_o0 : ¬ t0 = o0 := fun z9 => absurd (z9 ▸ lt0 : h.2.1 o0 = 1) (by rw [lo0]; decide)
  have ntb_ob : ¬ tb = ob := fun z9 => absurd (z9 ▸ ltb : h.2.1 ob = 440) (by rw [lob]; decide)
  have hout : lc_o (q.1 o0 1) (q.1 a0 22) (q.2.2.2.1 ob) (q.2.2.2.1 m21) := by rw [xm21]; exact hout0
  refine wa_aload_n B dL_law_136 rfl 3 rfl ?_
  refine wa_aload_n B dL_law_137 rfl 4 rfl ?_
  refine wa_iload B dL_law_138 0 rfl ?_
  refine wa_iconst B 1 dL_law_140 (by decide) ?_
  refine wa_iadd B dL_law_141 (fun v_1 ev_1 => ?_)
  subst ev_1
  have t_2 : (i + 1).toInt = i.toInt + 1 := by have b0 := zx_bd i; exact zx_add (show (-2147483648 : Int) ≤ i.toInt + 1 by omega) (show i.toInt + 1 < (2147483648 : Int) by omega)
  refine wa_sld B hX hbl hbA (i := (i + 1)) (show 0 ≤ (i + 1).toInt by omega) (show (i + 1).toInt < (N : Int) by omega) dL_law_142 ?_
  refine wa_aload_n B dL_law_143 rfl 4 rfl ?_
  refine wa_iload B dL_law_144 0 rfl ?_
  refine wa_iconst B 2 dL_law_146 (by decide) ?_
  refine wa_iadd B dL_law_147 (fun v_3 ev_3 => ?_)
  subst ev_3
  have t_4 : (i + 2).toInt = i.toInt + 2 := by have b0 := zx_bd i; exact zx_add (show (-2147483648 : Int) ≤ i.toInt + 2 by omega) (show i.toInt + 2 < (2147483648 : Int) by omega)
  refine wa_sld B hX hbl hbA (i := (i + 2)) (show 0 ≤ (i + 2).toInt by omega) (show (i + 2).toInt < (N : Int) by omega) dL_law_148 ?_
  refine wa_aload_n B dL_law_149 rfl 4 rfl ?_
  refine wa_iload B dL_law_150 0 rfl ?_
  refine wa_iconst B 3 dL_law_152 (by decide) ?_
  refine wa_iadd B dL_law_153 (fun v_5 ev_5 => ?_)
  subst ev_5
  have t_6 : (i + 3).toInt = i.toInt + 3 := by have b0 := zx_bd i; exact zx_add (show (-2147483648 : Int) ≤ i.toInt + 3 by omega) (show i.toInt + 3 < (2147483648 : Int) by omega)
  refine wa_sld B hX hbl hbA (i := (i + 3)) (show 0 ≤ (i + 3).toInt by omega) (show (i + 3).toInt < (N : Int) by omega) dL_law_154 ?_
  refine wa_aload_n B dL_law_155 rfl 4 rfl ?_
  refine wa_iload B dL_law_156 0 rfl ?_
  refine wa_iconst B 4 dL_law_158 (by decide) ?_
  refine wa_iadd B dL_law_159 (fun v_7 ev_7 => ?_)
  subst ev_7
  have t_8 : (i + 4).toInt = i.toInt + 4 := by have b0 := zx_bd i; exact zx_add (show (-2147483648 : Int) ≤ i.toInt + 4 by omega) (show i.toInt + 4 < (2147483648 : Int) by omega)
  refine wa_sld B hX hbl hbA (i := (i + 4)) (show 0 ≤ (i + 4).toInt by omega) (show (i + 4).toInt < (N : Int) by omega) dL_law_160 ?_
  refine wa_aload_n B dL_law_161 rfl 4 rfl ?_
  refine wa_iload B dL_law_162 0 rfl ?_
  refine wa_iconst B 5 dL_law_164 (by decide) ?_
  refine wa_iadd B dL_law_165 (fun v_9 ev_9 => ?_)
  subst ev_9
  have t_10 : (i + 5).toInt = i.toInt + 5 := by have b0 := zx_bd i; exact zx_add (show (-2147483648 : Int) ≤ i.toInt + 5 by omega) (show i.toInt + 5 < (2147483648 : Int) by omega)
  refine wa_sld B hX hbl hbA (i := (i + 5)) (show 0 ≤ (i + 5).toInt by omega) (show (i + 5).toInt < (N : Int) by omega) dL_law_166 ?_
  refine wa_callVi B (x := (RX11, TX11, 16)) (As := [.int ((xs ((i + 1) : Int32).toNatClampNeg)), .int ((xs ((i + 2) : Int32).toNatClampNeg)), .int ((xs ((i + 3) : Int32).toNatClampNeg)), .int ((xs ((i + 4) : Int32).toNatClampNeg)), .int ((xs ((i + 5) : Int32).toNatClampNeg))]) (rest := []) (k_X11_feed_c l dC dI h L hN q hV (a0 := x0) hx0 kx0 ((xs ((i + 1) : Int32).toNatClampNeg)) ((xs ((i + 2) : Int32).toNatClampNeg)) ((xs ((i + 3) : Int32).toNatClampNeg)) ((xs ((i + 4) : Int32).toNatClampNeg)) ((xs ((i + 5) : Int32).toNatClampNeg)) (t0 := t0) et0 (tb := tb) etb (fa := fa) efa (uu := uu) euu (o0 := o0) eo0 (ob := ob) eob  ) (cwV 5 B.1.2.2.2.2 gL_law_X11_feed rfl rfl rfl (by decide +kernel) ⟨Nat.le_of_ble_eq_true rfl, Nat.le_of_ble_eq_true rfl⟩) hx0 kx0 (by decide) rfl rfl rfl (Nat.le_of_ble_eq_true rfl) dL_law_167 (fun r_12 q_11 w_13 => ?_)
  obtain ⟨hV_q_11, h2_q_11, hw_13⟩ := w_13
  obtain ⟨a9w_13, b9w_13, c9w_13, u9w_13, v9w_13, d9w_13, e9w_13, y9w_13⟩ := hw_13
  replace y9w_13 := lc_hd.i y9w_13
  have mN_q_11 : mv_N a0 q_11 := mv_N.eq (h2_q_11.I ha0 (show ¬ (a0 = t0 ∧ h.1 a0 = 7 ∨ a0 = tb ∧ h.1 a0 = 300) from (fun z => z.elim (fun z => absurd (z.2.symm.trans ka0) (by decide)) (fun z => absurd (z.2.symm.trans ka0) (by decide)))) 8) (h2_q_11.J ha0 (show ¬ (a0 = t0 ∧ h.1 a0 = 7 ∨ a0 = tb ∧ h.1 a0 = 300) from (fun z => z.elim (fun z => absurd (z.2.symm.trans ka0) (by decide)) (fun z => absurd (z.2.symm.trans ka0) (by decide)))) 11) mN
  have mF_q_11 : mv_F m18 m19 q_11 := mv_F.eq (h2_q_11.G hm18 (show ¬ (m18 = t0 ∧ h.1 m18 = 7 ∨ m18 = tb ∧ h.1 m18 = 300) from (fun z => z.elim (fun z => absurd (z.2.symm.trans km18) (by decide)) (fun z => absurd (z.2.symm.trans km18) (by decide)))) (by rw [km18]; decide)) (h2_q_11.G hm19 (show ¬ (m19 = t0 ∧ h.1 m19 = 7 ∨ m19 = tb ∧ h.1 m19 = 300) from (fun z => z.elim (fun z => absurd (z.2.symm.trans km19) (by decide)) (fun z => absurd (z.2.symm.trans km19) (by decide)))) (by rw [km19]; decide)) mF
  have mU_q_11 : mv_U m17 q_11 := mv_U.eq (h2_q_11.Lg hm17 (show ¬ (m17 = t0 ∧ h.1 m17 = 7 ∨ m17 = tb ∧ h.1 m17 = 300) from (fun z => z.elim (fun z => absurd (z.2.symm.trans km17) (by decide)) (fun z => absurd (z.2.symm.trans km17) (by decide)))) (by rw [km17]; decide)) mU
  have mS_q_11 : mv_S m23 m26 m28 m29 q_11 := mv_S.eq (h2_q_11.G hm23 (show ¬ (m23 = t0 ∧ h.1 m23 = 7 ∨ m23 = tb ∧ h.1 m23 = 300) from (fun z => z.elim (fun z => absurd (z.2.symm.trans km23) (by decide)) (fun z => absurd (z.2.symm.trans km23) (by decide)))) (by rw [km23]; decide)) (h2_q_11.G hm26 (show ¬ (m26 = t0 ∧ h.1 m26 = 7 ∨ m26 = tb ∧ h.1 m26 = 300) from (fun z => z.elim (fun z => absurd (z.2.symm.trans km26) (by decide)) (fun z => absurd (z.2.symm.trans km26) (by decide)))) (by rw [km26]; decide)) (h2_q_11.G hm28 (show ¬ (m28 = t0 ∧ h.1 m28 = 7 ∨ m28 = tb ∧ h.1 m28 = 300) from (fun z => z.elim (fun z => absurd (z.2.symm.trans km28) (by decide)) (fun z => absurd (z.2.symm.trans km28) (by decide)))) (by rw [km28]; decide)) (h2_q_11.G hm29 (show ¬ (m29 = t0 ∧ h.1 m29 = 7 ∨ m29 = tb ∧ h.1 m29 = 300) from (fun z => z.elim (fun z => absurd (z.2.symm.trans km29) (by decide)) (fun z => absurd (z.2.symm.trans km29) (by decide)))) (by rw [km29]; decide)) mS
  have mL_q_11 : mv_L m40 m41 m44 a0 q_11 := mv_L.eq (h2_q_11.G hm40 (show ¬ (m40 = t0 ∧ h.1 m40 = 7 ∨ m40 = tb ∧ h.1 m40 = 300) from (fun z => z.elim (fun z => absurd (z.2.symm.trans km40) (by decide)) (fun z => absurd (z.2.symm.trans km40) (by decide)))) (by rw [km40]; decide)) (h2_q_11.G hm41 (show ¬ (m41 = t0 ∧ h.1 m41 = 7 ∨ m41 = tb ∧ h.1 m41 = 300) from (fun z => z.elim (fun z => absurd (z.2.symm.trans km41) (by decide)) (fun z => absurd (z.2.symm.trans km41) (by decide)))) (by rw [km41]; decide)) (h2_q_11.G hm44 (show ¬ (m44 = t0 ∧ h.1 m44 = 7 ∨ m44 = tb ∧ h.1 m44 = 300) from (fun z => z.elim (fun z => absurd (z.2.symm.trans km44) (by decide)) (fun z => absurd (z.2.symm.trans km44) (by decide)))) (by rw [km44]; decide)) (h2_q_11.I ha0 (show ¬ (a0 = t0 ∧ h.1 a0 = 7 ∨ a0 = tb ∧ h.1 a0 = 300) from (fun z => z.elim (fun z => absurd (z.2.symm.trans ka0) (by decide)) (fun z => absurd (z.2.symm.trans ka0) (by decide)))) 45) mL
  have z_14 : q_11.1 x0 14 = q.1 x0 14 := h2_q_11.I hx0 (show ¬ (x0 = t0 ∧ h.1 x0 = 7 ∨ x0 = tb ∧ h.1 x0 = 300) from (fun z => z.elim (fun z => absurd (z.2.symm.trans kx0) (by decide)) (fun z => absurd (z.2.symm.trans kx0) (by decide)))) 14
  have hB_q_11 := v9w_13.trans esu
  refine wa_pop B dL_law_170 rfl ?_
  refine wa_aload_n B dL_law_171 rfl 2 rfl ?_
  refine wa_aload_n B dL_law_172 rfl 4 rfl ?_
  refine wa_iload B dL_law_173 0 rfl ?_
  refine wa_iconst B 1 dL_law_175 (by decide) ?_
  refine wa_iadd B dL_law_176 (fun v_15 ev_15 => ?_)
  subst ev_15
  refine wa_sld B hX hbl hbA (i := (i + 1)) (show 0 ≤ (i + 1).toInt by omega) (show (i + 1).toInt < (N : Int) by omega) dL_law_177 ?_
  refine wa_aload_n B dL_law_178 rfl 4 rfl ?_
  refine wa_iload B dL_law_179 0 rfl ?_
  refine wa_iconst B 2 dL_law_181 (by decide) ?_
  refine wa_iadd B dL_law_182 (fun v_16 ev_16 => ?_)
  subst ev_16
  refine wa_sld B hX hbl hbA (i := (i + 2)) (show 0 ≤ (i + 2).toInt by omega) (show (i + 2).toInt < (N : Int) by omega) dL_law_183 ?_
  refine wa_aload_n B dL_law_184 rfl 4 rfl ?_
  refine wa_iload B dL_law_185 0 rfl ?_
  refine wa_iconst B 3 dL_law_187 (by decide) ?_
  refine wa_iadd B dL_law_188 (fun v_17 ev_17 => ?_)
  subst ev_17
  refine wa_sld B hX hbl hbA (i := (i + 3)) (show 0 ≤ (i + 3).toInt by omega) (show (i + 3).toInt < (N : Int) by omega) dL_law_189 ?_
  refine wa_aload_n B dL_law_190 rfl 4 rfl ?_
  refine wa_iload B dL_law_191 0 rfl ?_
  refine wa_iconst B 4 dL_law_193 (by decide) ?_
  refine wa_iadd B dL_law_194 (fun v_18 ev_18 => ?_)
  subst ev_18
  refine wa_sld B hX hbl hbA (i := (i + 4)) (show 0 ≤ (i + 4).toInt by omega) (show (i + 4).toInt < (N : Int) by omega) dL_law_195 ?_
  refine wa_aload_n B dL_law_196 rfl 4 rfl ?_
  refine wa_iload B dL_law_197 0 rfl ?_
  refine wa_iconst B 5 dL_law_199 (by decide) ?_
  refine wa_iadd B dL_law_200 (fun v_19 ev_19 => ?_)
  subst ev_19
  refine wa_sld B hX hbl hbA (i := (i + 5)) (show 0 ≤ (i + 5).toInt by omega) (show (i + 5).toInt < (N : Int) by omega) dL_law_201 ?_
  have z_20 : q_11.2.2.1 a0 1 = m1 := (h2_q_11.R ha0 (fun z9 => absurd z9.2 (by omega)) 1).trans (em1)
  have z_21 : q_11.1 a0 2 = q.1 a0 2 := h2_q_11.I ha0 (show ¬ (a0 = t0 ∧ h.1 a0 = 7 ∨ a0 = tb ∧ h.1 a0 = 300) from (fun z => z.elim (fun z => absurd (z.2.symm.trans ka0) (by decide)) (fun z => absurd (z.2.symm.trans ka0) (by decide)))) 2
  have y_22 : (q_11.1 a0 2).toInt = (q.1 a0 2).toInt := by rw [z_21]
  refine wa_callVi B (x := (RX12, TX12, 51)) (As := [.int ((xs ((i + 1) : Int32).toNatClampNeg)), .int ((xs ((i + 2) : Int32).toNatClampNeg)), .int ((xs ((i + 3) : Int32).toNatClampNeg)), .int ((xs ((i + 4) : Int32).toNatClampNeg)), .int ((xs ((i + 5) : Int32).toNatClampNeg))]) (rest := []) (k_X12_feed_c l dC dI h L hN q_11 hV_q_11 (a0 := a0) ha0 ka0 ((xs ((i + 1) : Int32).toNatClampNeg)) ((xs ((i + 2) : Int32).toNatClampNeg)) ((xs ((i + 3) : Int32).toNatClampNeg)) ((xs ((i + 4) : Int32).toNatClampNeg)) ((xs ((i + 5) : Int32).toNatClampNeg)) (m1 := m1) z_20  ) (cwV 5 B.1.2.2.2.2 gL_law_X12_feed rfl rfl rfl (by decide +kernel) ⟨Nat.le_of_ble_eq_true rfl, Nat.le_of_ble_eq_true rfl⟩) ha0 ka0 (by decide) rfl rfl rfl (Nat.le_of_ble_eq_true rfl) dL_law_202 (fun r_24 q_23 w_25 => ?_)
  obtain ⟨hV_q_23, h2_q_23, h3_q_23, hw_25⟩ := w_25
  obtain ⟨a9w_25, b9w_25, y9w_25⟩ := hw_25
  replace y9w_25 := lc_hd.i y9w_25
  have z_26 : q_11.2.2.2.1 m1 = q.2.2.2.1 m1 := h2_q_11.G hm1 (show ¬ (m1 = t0 ∧ h.1 m1 = 7 ∨ m1 = tb ∧ h.1 m1 = 300) from (fun z => z.elim (fun z => absurd (z.2.symm.trans km1) (by decide)) (fun z => absurd (z.2.symm.trans km1) (by decide)))) (by rw [km1]; decide)
  have z_27 : q_11.2.2.2.1 m44 = q.2.2.2.1 m44 := h2_q_11.G hm44 (show ¬ (m44 = t0 ∧ h.1 m44 = 7 ∨ m44 = tb ∧ h.1 m44 = 300) from (fun z => z.elim (fun z => absurd (z.2.symm.trans km44) (by decide)) (fun z => absurd (z.2.symm.trans km44) (by decide)))) (by rw [km44]; decide)
  have z_28 : q_11.1 a0 45 = q.1 a0 45 := h2_q_11.I ha0 (show ¬ (a0 = t0 ∧ h.1 a0 = 7 ∨ a0 = tb ∧ h.1 a0 = 300) from (fun z => z.elim (fun z => absurd (z.2.symm.trans ka0) (by decide)) (fun z => absurd (z.2.symm.trans ka0) (by decide)))) 45
  have mN_q_23 : mv_N a0 q_23 := mv_N.eq (h3_q_23.1 8 (by decide)) (h3_q_23.2 11 (by decide)) mN_q_11
  have mF_q_23 : mv_F m18 m19 q_23 := mv_F.eq (h2_q_23.G hm18 (show ¬ (h.1 m18 = 12 ∨ h.1 m18 = 111) from (fun z => z.elim (fun z => absurd (z.symm.trans km18) (by decide)) (fun z => absurd (z.symm.trans km18) (by decide)))) (by rw [km18]; decide)) (h2_q_23.G hm19 (show ¬ (h.1 m19 = 12 ∨ h.1 m19 = 111) from (fun z => z.elim (fun z => absurd (z.symm.trans km19) (by decide)) (fun z => absurd (z.symm.trans km19) (by decide)))) (by rw [km19]; decide)) mF_q_11
  have mU_q_23 : mv_U m17 q_23 := mv_U.eq (h2_q_23.Lg hm17 (show ¬ (h.1 m17 = 12 ∨ h.1 m17 = 111) from (fun z => z.elim (fun z => absurd (z.symm.trans km17) (by decide)) (fun z => absurd (z.symm.trans km17) (by decide)))) (by rw [km17]; decide)) mU_q_11
  have mS_q_23 : mv_S m23 m26 m28 m29 q_23 := mv_S.eq (h2_q_23.G hm23 (show ¬ (h.1 m23 = 12 ∨ h.1 m23 = 111) from (fun z => z.elim (fun z => absurd (z.symm.trans km23) (by decide)) (fun z => absurd (z.symm.trans km23) (by decide)))) (by rw [km23]; decide)) (h2_q_23.G hm26 (show ¬ (h.1 m26 = 12 ∨ h.1 m26 = 111) from (fun z => z.elim (fun z => absurd (z.symm.trans km26) (by decide)) (fun z => absurd (z.symm.trans km26) (by decide)))) (by rw [km26]; decide)) (h2_q_23.G hm28 (show ¬ (h.1 m28 = 12 ∨ h.1 m28 = 111) from (fun z => z.elim (fun z => absurd (z.symm.trans km28) (by decide)) (fun z => absurd (z.symm.trans km28) (by decide)))) (by rw [km28]; decide)) (h2_q_23.G hm29 (show ¬ (h.1 m29 = 12 ∨ h.1 m29 = 111) from (fun z => z.elim (fun z => absurd (z.symm.trans km29) (by decide)) (fun z => absurd (z.symm.trans km29) (by decide)))) (by rw [km29]; decide)) mS_q_11
  have mL_q_23 : mv_L m40 m41 m44 a0 q_23 := mv_L.eq (h2_q_23.G hm40 (show ¬ (h.1 m40 = 12 ∨ h.1 m40 = 111) from (fun z => z.elim (fun z => absurd (z.symm.trans km40) (by decide)) (fun z => absurd (z.symm.trans km40) (by decide)))) (by rw [km40]; decide)) (h2_q_23.G hm41 (show ¬ (h.1 m41 = 12 ∨ h.1 m41 = 111) from (fun z => z.elim (fun z => absurd (z.symm.trans km41) (by decide)) (fun z => absurd (z.symm.trans km41) (by decide)))) (by rw [km41]; decide)) (h2_q_23.G hm44 (show ¬ (h.1 m44 = 12 ∨ h.1 m44 = 111) from (fun z => z.elim (fun z => absurd (z.symm.trans km44) (by decide)) (fun z => absurd (z.symm.trans km44) (by decide)))) (by rw [km44]; decide)) (h3_q_23.1 45 (by decide)) mL_q_11
  refine wa_pop B dL_law_205 rfl ?_
  refine wa_goto B 775 dL_law_206 (by decide) ?_
  have z_29 : q_23.1 a0 45 = (q.1 a0 45) := (h3_q_23.1 45 (by decide)).trans (z_28)
  have y_30 : (q_23.1 a0 45).toInt = (q.1 a0 45).toInt := by rw [z_29]
  have z_31 : q_23.1 t0 1 = q_11.1 t0 1 := h2_q_23.I ht0 (show ¬ (h.1 t0 = 12 ∨ h.1 t0 = 111) from (fun z => z.elim (fun z => absurd (z.symm.trans kt0) (by decide)) (fun z => absurd (z.symm.trans kt0) (by decide)))) 1
  have y_32 : (q_23.1 t0 1).toInt = (q_11.1 t0 1).toInt := by rw [z_31]
  have z_33 : q_23.1 x0 14 = (q.1 x0 14) := (h2_q_23.I hx0 (show ¬ (h.1 x0 = 12 ∨ h.1 x0 = 111) from (fun z => z.elim (fun z => absurd (z.symm.trans kx0) (by decide)) (fun z => absurd (z.symm.trans kx0) (by decide)))) 14).trans (z_14)
  have y_34 : (q_23.1 x0 14).toInt = (q.1 x0 14).toInt := by rw [z_33]
  have z_35 : q_23.2.2.1 x0 0 = t0 := (h2_q_23.R hx0 (show ¬ ((h.1 x0 = 12 ∨ h.1 x0 = 111) ∧ (h.1 x0 = 8 ∨ h.1 x0 = 11)) from fun z9 => (show ¬ (h.1 x0 = 12 ∨ h.1 x0 = 111) from (fun z => z.elim (fun z => absurd (z.symm.trans kx0) (by decide)) (fun z => absurd (z.symm.trans kx0) (by decide)))) z9.1) 0).trans (a9w_13)
  have z_36 : q_23.2.2.1 t0 0 = tb := (h2_q_23.R ht0 (fun z9 => absurd z9.2 (by omega)) 0).trans ((h2_q_11.R ht0 (fun z9 => absurd z9.2 (by omega)) 0).trans (etb))
  have z_37 : q_23.2.2.1 x0 9 = fa := (h2_q_23.R hx0 (show ¬ ((h.1 x0 = 12 ∨ h.1 x0 = 111) ∧ (h.1 x0 = 8 ∨ h.1 x0 = 11)) from fun z9 => (show ¬ (h.1 x0 = 12 ∨ h.1 x0 = 111) from (fun z => z.elim (fun z => absurd (z.symm.trans kx0) (by decide)) (fun z => absurd (z.symm.trans kx0) (by decide)))) z9.1) 9).trans (d9w_13.1)
  have hT9 : ty_T (q_23.2.2.2.1 tb) (q_23.2.2.2.1 m1) (q_23.1 t0 1).toInt.toNat := by
    rw [show q_23.2.2.2.1 tb = q_11.2.2.2.1 tb from h2_q_23.G htb (show ¬ (h.1 tb = 12 ∨ h.1 tb = 111) from (fun z => z.elim (fun z => absurd (z.symm.trans ktb) (by decide)) (fun z => absurd (z.symm.trans ktb) (by decide)))) (by rw [ktb]; decide)]
    exact lc_feed hT gt1.1 (show (q_11.1 a0 2).toInt = (q.1 t0 1).toInt by omega) (by omega) y9w_13 (by rw [← z_26]; exact y9w_25)
  have z_38 : q_23.2.2.2.1 m44 = (q.2.2.2.1 m44) := (h2_q_23.G hm44 (show ¬ (h.1 m44 = 12 ∨ h.1 m44 = 111) from (fun z => z.elim (fun z => absurd (z.symm.trans km44) (by decide)) (fun z => absurd (z.symm.trans km44) (by decide)))) (by rw [km44]; decide)).trans (z_27)
  have hR9 : lc_R h fa m44 x0 q_23 := by
    intro f hf
    obtain ⟨e9, ee9, he9, ke9⟩ := hV.elem (t := 0) hfa kfa (by decide) rfl (j := f) (by omega)
    rw [ee9, show q_23.1 e9 3 = q_11.1 e9 3 from h2_q_23.I he9 (show ¬ (h.1 e9 = 12 ∨ h.1 e9 = 111) from by omega) 3, show q_11.1 e9 3 = q.1 e9 3 from h2_q_11.I he9 (show ¬ (e9 = t0 ∧ h.1 e9 = 7 ∨ e9 = tb ∧ h.1 e9 = 300) from by omega) 3, ← ee9, z_38]
    exact hR f (by omega)
  have hR_uu : q_23.2.2.1 uu = q.2.2.1 uu := by rw [show q_23.2.2.1 uu = q_11.2.2.1 uu from h2_q_23.2 uu huu (fun z9 => absurd z9.2 (by rw [kuu]; decide)), show q_11.2.2.1 uu = q.2.2.1 uu from h2_q_11.2 uu huu (fun z9 => absurd z9.2 (by rw [kuu]; decide))]
  have hR_su : q_23.2.2.1 su = q.2.2.1 su := by rw [show q_23.2.2.1 su = q_11.2.2.1 su from h2_q_23.2 su hsu (fun z9 => absurd z9.2 (by rw [ksu]; decide)), show q_11.2.2.1 su = q.2.2.1 su from h2_q_11.2 su hsu (fun z9 => absurd z9.2 (by rw [ksu]; decide))]
  have z_39 : q_23.1 o0 1 = q.1 o0 1 := (h2_q_23.I ho0 (show ¬ (h.1 o0 = 12 ∨ h.1 o0 = 111) from (fun z => z.elim (fun z => absurd (z.symm.trans ko0) (by decide)) (fun z => absurd (z.symm.trans ko0) (by decide)))) 1).trans (h2_q_11.I ho0 (show ¬ (o0 = t0 ∧ h.1 o0 = 7 ∨ o0 = tb ∧ h.1 o0 = 300) from (fun z => z.elim (fun z => absurd z.1 (by omega)) (fun z => absurd (z.2.symm.trans ko0) (by decide)))) 1)
  have z_40 : q_23.1 a0 22 = q.1 a0 22 := (h3_q_23.1 22 (by decide)).trans (h2_q_11.I ha0 (show ¬ (a0 = t0 ∧ h.1 a0 = 7 ∨ a0 = tb ∧ h.1 a0 = 300) from (fun z => z.elim (fun z => absurd (z.2.symm.trans ka0) (by decide)) (fun z => absurd (z.2.symm.trans ka0) (by decide)))) 22)
  have z_41 : q_23.2.2.2.1 ob = q.2.2.2.1 ob := (h2_q_23.G hob (show ¬ (h.1 ob = 12 ∨ h.1 ob = 111) from (fun z => z.elim (fun z => absurd (z.symm.trans kob) (by decide)) (fun z => absurd (z.symm.trans kob) (by decide)))) (by rw [kob]; decide)).trans (h2_q_11.G hob (show ¬ (ob = t0 ∧ h.1 ob = 7 ∨ ob = tb ∧ h.1 ob = 300) from (fun z => z.elim (fun z => absurd (z.2.symm.trans kob) (by decide)) (fun z => absurd z.1 (by omega)))) (by rw [kob]; decide))
  have z_42 : q_23.2.2.2.1 m21 = q.2.2.2.1 m21 := (h2_q_23.G hm21 (show ¬ (h.1 m21 = 12 ∨ h.1 m21 = 111) from (fun z => z.elim (fun z => absurd (z.symm.trans km21) (by decide)) (fun z => absurd (z.symm.trans km21) (by decide)))) (by rw [km21]; decide)).trans (h2_q_11.G hm21 (show ¬ (m21 = t0 ∧ h.1 m21 = 7 ∨ m21 = tb ∧ h.1 m21 = 300) from (fun z => z.elim (fun z => absurd (z.2.symm.trans km21) (by decide)) (fun z => absurd (z.2.symm.trans km21) (by decide)))) (by rw [km21]; decide))
  have hout9 : lc_o (q_23.1 o0 1) (q_23.1 a0 22) (q_23.2.2.2.1 ob) (q_23.2.2.2.1 (mm 21)) := by rw [← xm21, z_39, z_40, z_41, z_42]; exact hout
  have z_43 : q_23.2.2.1 x0 1 = o0 := (h2_q_23.R hx0 (show ¬ ((h.1 x0 = 12 ∨ h.1 x0 = 111) ∧ (h.1 x0 = 8 ∨ h.1 x0 = 11)) from fun z9 => (show ¬ (h.1 x0 = 12 ∨ h.1 x0 = 111) from (fun z => z.elim (fun z => absurd (z.symm.trans kx0) (by decide)) (fun z => absurd (z.symm.trans kx0) (by decide)))) z9.1) 1).trans (d9w_13.2)
  have z_44 : q_23.2.2.1 o0 0 = ob := (h2_q_23.R ho0 (fun z9 => absurd z9.2 (by omega)) 0).trans ((h2_q_11.R ho0 (fun z9 => absurd z9.2 (by omega)) 0).trans (eob))
  have z_45 : q_23.1 uu 6 = q.1 uu 6 := (h2_q_23.I huu (show ¬ (h.1 uu = 12 ∨ h.1 uu = 111) from (fun z => z.elim (fun z => absurd (z.symm.trans kuu) (by decide)) (fun z => absurd (z.symm.trans kuu) (by decide)))) 6).trans (h2_q_11.I huu (show ¬ (uu = t0 ∧ h.1 uu = 7 ∨ uu = tb ∧ h.1 uu = 300) from (fun z => z.elim (fun z => absurd (z.2.symm.trans kuu) (by decide)) (fun z => absurd (z.2.symm.trans kuu) (by decide)))) 6)
  have z_46 : q_23.1 a0 20 = q.1 a0 20 := (h3_q_23.1 20 (by decide)).trans (h2_q_11.I ha0 (show ¬ (a0 = t0 ∧ h.1 a0 = 7 ∨ a0 = tb ∧ h.1 a0 = 300) from (fun z => z.elim (fun z => absurd (z.2.symm.trans ka0) (by decide)) (fun z => absurd (z.2.symm.trans ka0) (by decide)))) 20)
  have z_47 : q_23.2.2.2.1 uc = q.2.2.2.1 uc := (h2_q_23.G huc (show ¬ (h.1 uc = 12 ∨ h.1 uc = 111) from (fun z => z.elim (fun z => absurd (z.symm.trans kuc) (by decide)) (fun z => absurd (z.symm.trans kuc) (by decide)))) (by rw [kuc]; decide)).trans (h2_q_11.G huc (show ¬ (uc = t0 ∧ h.1 uc = 7 ∨ uc = tb ∧ h.1 uc = 300) from (fun z => z.elim (fun z => absurd (z.2.symm.trans kuc) (by decide)) (fun z => absurd (z.2.symm.trans kuc) (by decide)))) (by rw [kuc]; decide))
  have z_48 : q_23.2.2.2.1 m18 = q.2.2.2.1 m18 := (h2_q_23.G hm18 (show ¬ (h.1 m18 = 12 ∨ h.1 m18 = 111) from (fun z => z.elim (fun z => absurd (z.symm.trans km18) (by decide)) (fun z => absurd (z.symm.trans km18) (by decide)))) (by rw [km18]; decide)).trans (h2_q_11.G hm18 (show ¬ (m18 = t0 ∧ h.1 m18 = 7 ∨ m18 = tb ∧ h.1 m18 = 300) from (fun z => z.elim (fun z => absurd (z.2.symm.trans km18) (by decide)) (fun z => absurd (z.2.symm.trans km18) (by decide)))) (by rw [km18]; decide))
  have z_49 : q_23.2.2.2.1 uf = q.2.2.2.1 uf := (h2_q_23.G huf (show ¬ (h.1 uf = 12 ∨ h.1 uf = 111) from (fun z => z.elim (fun z => absurd (z.symm.trans kuf) (by decide)) (fun z => absurd (z.symm.trans kuf) (by decide)))) (by rw [kuf]; decide)).trans (h2_q_11.G huf (show ¬ (uf = t0 ∧ h.1 uf = 7 ∨ uf = tb ∧ h.1 uf = 300) from (fun z => z.elim (fun z => absurd (z.2.symm.trans kuf) (by decide)) (fun z => absurd (z.2.symm.trans kuf) (by decide)))) (by rw [kuf]; decide))
  have z_50 : q_23.2.2.2.1 m19 = q.2.2.2.1 m19 := (h2_q_23.G hm19 (show ¬ (h.1 m19 = 12 ∨ h.1 m19 = 111) from (fun z => z.elim (fun z => absurd (z.symm.trans km19) (by decide)) (fun z => absurd (z.symm.trans km19) (by decide)))) (by rw [km19]; decide)).trans (h2_q_11.G hm19 (show ¬ (m19 = t0 ∧ h.1 m19 = 7 ∨ m19 = tb ∧ h.1 m19 = 300) from (fun z => z.elim (fun z => absurd (z.2.symm.trans km19) (by decide)) (fun z => absurd (z.2.symm.trans km19) (by decide)))) (by rw [km19]; decide))
  have z_51 : q_23.2.2.2.1 uw = q.2.2.2.1 uw := (h2_q_23.G huw (show ¬ (h.1 uw = 12 ∨ h.1 uw = 111) from (fun z => z.elim (fun z => absurd (z.symm.trans kuw) (by decide)) (fun z => absurd (z.symm.trans kuw) (by decide)))) (by rw [kuw]; decide)).trans (h2_q_11.G huw (show ¬ (uw = t0 ∧ h.1 uw = 7 ∨ uw = tb ∧ h.1 uw = 300) from (fun z => z.elim (fun z => absurd (z.2.symm.trans kuw) (by decide)) (fun z => absurd (z.2.symm.trans kuw) (by decide)))) (by rw [kuw]; decide))
  have z_52 : q_23.2.2.2.2 un = q.2.2.2.2 un := (h2_q_23.Lg hun (show ¬ (h.1 un = 12 ∨ h.1 un = 111) from (fun z => z.elim (fun z => absurd (z.symm.trans kun) (by decide)) (fun z => absurd (z.symm.trans kun) (by decide)))) (by rw [kun]; decide)).trans (h2_q_11.Lg hun (show ¬ (un = t0 ∧ h.1 un = 7 ∨ un = tb ∧ h.1 un = 300) from (fun z => z.elim (fun z => absurd (z.2.symm.trans kun) (by decide)) (fun z => absurd (z.2.symm.trans kun) (by decide)))) (by rw [kun]; decide))
  have z_53 : q_23.2.2.2.2 m17 = q.2.2.2.2 m17 := (h2_q_23.Lg hm17 (show ¬ (h.1 m17 = 12 ∨ h.1 m17 = 111) from (fun z => z.elim (fun z => absurd (z.symm.trans km17) (by decide)) (fun z => absurd (z.symm.trans km17) (by decide)))) (by rw [km17]; decide)).trans (h2_q_11.Lg hm17 (show ¬ (m17 = t0 ∧ h.1 m17 = 7 ∨ m17 = tb ∧ h.1 m17 = 300) from (fun z => z.elim (fun z => absurd (z.2.symm.trans km17) (by decide)) (fun z => absurd (z.2.symm.trans km17) (by decide)))) (by rw [km17]; decide))
  have hu9 : lc_uq8 q_23 a0 uu (mm 17) (mm 18) (mm 19) := by unfold lc_uq8; rw [← xm17, ← xm18, ← xm19, hR_uu, euc, euf, euw, eun, z_45, z_46, z_47, z_48, z_49, z_50, z_51, z_52, z_53]; exact hu
  have z_54 : q_23.2.2.1 x0 11 = uu := (h2_q_23.R hx0 (show ¬ ((h.1 x0 = 12 ∨ h.1 x0 = 111) ∧ (h.1 x0 = 8 ∨ h.1 x0 = 11)) from fun z9 => (show ¬ (h.1 x0 = 12 ∨ h.1 x0 = 111) from (fun z => z.elim (fun z => absurd (z.symm.trans kx0) (by decide)) (fun z => absurd (z.symm.trans kx0) (by decide)))) z9.1) 11).trans (u9w_13)
  have z_55 : q_23.2.2.1 x0 12 = su := (h2_q_23.R hx0 (show ¬ ((h.1 x0 = 12 ∨ h.1 x0 = 111) ∧ (h.1 x0 = 8 ∨ h.1 x0 = 11)) from fun z9 => (show ¬ (h.1 x0 = 12 ∨ h.1 x0 = 111) from (fun z => z.elim (fun z => absurd (z.symm.trans kx0) (by decide)) (fun z => absurd (z.symm.trans kx0) (by decide)))) z9.1) 12).trans (hB_q_11)
  exact hcont _ _ (Or.inl rfl) ⟨⟨⟨hV_q_23, mN_q_23, by rw [← xm18, ← xm19]; exact mF_q_23, by rw [← xm17]; exact mU_q_23, by rw [← xm23, ← xm26, ← xm28, ← xm29]; exact mS_q_23, by rw [← xm40, ← xm41, ← xm44]; exact mL_q_23, z_35, fun k hk => by rw [show q_23.2.2.1 a0 = q_11.2.2.1 a0 from h2_q_23.2 a0 ha0 (fun z9 => absurd z9.2 (by omega)), show q_11.2.2.1 a0 = q.2.2.1 a0 from h2_q_11.2 a0 ha0 (fun z9 => absurd z9.2 (by omega))]; exact em k hk, by omega, by omega⟩, z_36, z_37, by rw [← xm1]; exact hT9, by rw [← xm44]; exact hR9⟩, uu, su, o0, ob, z_54, z_55, hdz.eq hR_uu hR_su, hu9, ⟨z_43, z_44⟩, hout9⟩
set_option maxHeartbeats 4000000 in
set_option maxRecDepth 100000 in
theorem lc6_209 (l : Launch) (hlst : l.stackTraces = false) {Z : Zt} (dC : Nat → ClassId) (dI : Nat → Nat → Nat) (h : Sh) (L : List Nat) (hN : sx_nd L) (B : BX dC dI h L 7 cL_law RL wsL_law Z) {b N : Nat} {xs : Nat → Int32} (hX : va_X b N xs Z.2.2.1 Z.2.2.1.heap) (hbl : b < Z.2.2.1.heap.size) (hbA : ¬ AL L Z.2.2.1.heap.size b) {x0 a0 ot t0 tb fa : Nat} (hfd : lc_fd h fa) {mm : Nat → Nat} (hx0 : x0 ∈ L) (kx0 : h.1 x0 = 11) (ha0 : a0 ∈ L) (ka0 : h.1 a0 = 12) (hot : ot ∈ L) (kot : h.1 ot = 200) (lot : h.2.1 ot = 1) {i : Int32} (hi0 : 0 ≤ i.toInt) (hi1 : i.toInt + 6 ≤ (N : Int)) (hN2 : N ≤ 3072) (hroom : (zl_more Z).2.2.2.2.2.2.2.2.2.1 ≤ room_1.cells ∧ (zl_more Z).2.2.2.2.2.2.2.2.2.2 ≤ room_1.slots) {q : Sg} (hI : lc_I8 h L x0 a0 t0 tb fa mm q) (hcont : ∀ (Z2 : Zt) (q2 : Sg), (Z2 = Z ∨ Z2 = zl_more Z) → lc_I8 h L x0 a0 t0 tb fa mm q2 → WA l dC dI h L room_1 7 Z2 q2 775 [(4, .int i), (3, .ref ot), (2, .ref a0), (1, .ref x0), (0, .ref b)] []) : WA l dC dI h L room_1 7 Z q 209 [(4, .int i), (3, .ref ot), (2, .ref a0), (1, .ref x0), (0, .ref b)] [] := by
  obtain ⟨hI, uu, su, o0, ob, euu, esu, hdz, hu0, ⟨eo0, eob⟩, hout0⟩ := hI
  obtain ⟨hI, etb, efa, hT0, hR0⟩ := hI
  obtain ⟨hV, mN, mF0, mU0, mS0, mL0, et0, em, hte, hfe⟩ := hI
  obtain ⟨ht0, kt0, lt0⟩ : t0 ∈ L ∧ h.1 t0 = 7 ∧ h.2.1 t0 = 1 := by obtain ⟨r9, e9, z1, z2, z3⟩ := hV.refn (t := 7) (n := 1) hx0 kx0 0 rfl (by decide) rfl (by decide); rw [← et0, e9]; exact ⟨z1, z2, z3⟩
  obtain ⟨m1, xm1⟩ : ∃ z, z = mm 1 := ⟨_, rfl⟩
  have em1 : q.2.2.1 a0 1 = m1 := by rw [xm1]; exact em 1 (by decide)
  obtain ⟨hm1, km1, lm1⟩ : m1 ∈ L ∧ h.1 m1 = 111 ∧ h.2.1 m1 = 440 := by obtain ⟨r9, e9, z1, z2, z3⟩ := hV.refn (t := 111) (n := 440) ha0 ka0 1 rfl (by decide) rfl (by decide); rw [← em1, e9]; exact ⟨z1, z2, z3⟩
  obtain ⟨m3, xm3⟩ : ∃ z, z = mm 3 := ⟨_, rfl⟩
  have em3 : q.2.2.1 a0 3 = m3 := by rw [xm3]; exact em 3 (by decide)
  obtain ⟨hm3, km3, lm3⟩ : m3 ∈ L ∧ h.1 m3 = 113 ∧ h.2.1 m3 = 500 := by obtain ⟨r9, e9, z1, z2, z3⟩ := hV.refn (t := 113) (n := 500) ha0 ka0 3 rfl (by decide) rfl (by decide); rw [← em3, e9]; exact ⟨z1, z2, z3⟩
  obtain ⟨m16, xm16⟩ : ∃ z, z = mm 16 := ⟨_, rfl⟩
  have em16 : q.2.2.1 a0 16 = m16 := by rw [xm16]; exact em 16 (by decide)
  obtain ⟨hm16, km16, lm16⟩ : m16 ∈ L ∧ h.1 m16 = 226 ∧ h.2.1 m16 = 6 := by obtain ⟨r9, e9, z1, z2, z3⟩ := hV.refn (t := 226) (n := 6) ha0 ka0 16 rfl (by decide) rfl (by decide); rw [← em16, e9]; exact ⟨z1, z2, z3⟩
  obtain ⟨m17, xm17⟩ : ∃ z, z = mm 17 := ⟨_, rfl⟩
  have em17 : q.2.2.1 a0 17 = m17 := by rw [xm17]; exact em 17 (by decide)
  obtain ⟨hm17, km17, lm17⟩ : m17 ∈ L ∧ h.1 m17 = 227 ∧ h.2.1 m17 = 30 := by obtain ⟨r9, e9, z1, z2, z3⟩ := hV.refn (t := 227) (n := 30) ha0 ka0 17 rfl (by decide) rfl (by decide); rw [← em17, e9]; exact ⟨z1, z2, z3⟩
  obtain ⟨m18, xm18⟩ : ∃ z, z = mm 18 := ⟨_, rfl⟩
  have em18 : q.2.2.1 a0 18 = m18 := by rw [xm18]; exact em 18 (by decide)
  obtain ⟨hm18, km18, lm18⟩ : m18 ∈ L ∧ h.1 m18 = 128 ∧ h.2.1 m18 = 6 := by obtain ⟨r9, e9, z1, z2, z3⟩ := hV.refn (t := 128) (n := 6) ha0 ka0 18 rfl (by decide) rfl (by decide); rw [← em18, e9]; exact ⟨z1, z2, z3⟩
  obtain ⟨m19, xm19⟩ : ∃ z, z = mm 19 := ⟨_, rfl⟩
  have em19 : q.2.2.1 a0 19 = m19 := by rw [xm19]; exact em 19 (by decide)
  obtain ⟨hm19, km19, lm19⟩ : m19 ∈ L ∧ h.1 m19 = 129 ∧ h.2.1 m19 = 30 := by obtain ⟨r9, e9, z1, z2, z3⟩ := hV.refn (t := 129) (n := 30) ha0 ka0 19 rfl (by decide) rfl (by decide); rw [← em19, e9]; exact ⟨z1, z2, z3⟩
  obtain ⟨m21, xm21⟩ : ∃ z, z = mm 21 := ⟨_, rfl⟩
  have em21 : q.2.2.1 a0 21 = m21 := by rw [xm21]; exact em 21 (by decide)
  obtain ⟨hm21, km21, lm21⟩ : m21 ∈ L ∧ h.1 m21 = 131 ∧ h.2.1 m21 = 80 := by obtain ⟨r9, e9, z1, z2, z3⟩ := hV.refn (t := 131) (n := 80) ha0 ka0 21 rfl (by decide) rfl (by decide); rw [← em21, e9]; exact ⟨z1, z2, z3⟩
  obtain ⟨m23, xm23⟩ : ∃ z, z = mm 23 := ⟨_, rfl⟩
  have em23 : q.2.2.1 a0 23 = m23 := by rw [xm23]; exact em 23 (by decide)
  obtain ⟨hm23, km23, lm23⟩ : m23 ∈ L ∧ h.1 m23 = 133 ∧ h.2.1 m23 = 9 := by obtain ⟨r9, e9, z1, z2, z3⟩ := hV.refn (t := 133) (n := 9) ha0 ka0 23 rfl (by decide) rfl (by decide); rw [← em23, e9]; exact ⟨z1, z2, z3⟩
  obtain ⟨m24, xm24⟩ : ∃ z, z = mm 24 := ⟨_, rfl⟩
  have em24 : q.2.2.1 a0 24 = m24 := by rw [xm24]; exact em 24 (by decide)
  obtain ⟨hm24, km24, lm24⟩ : m24 ∈ L ∧ h.1 m24 = 134 ∧ h.2.1 m24 = 108 := by obtain ⟨r9, e9, z1, z2, z3⟩ := hV.refn (t := 134) (n := 108) ha0 ka0 24 rfl (by decide) rfl (by decide); rw [← em24, e9]; exact ⟨z1, z2, z3⟩
  obtain ⟨m25, xm25⟩ : ∃ z, z = mm 25 := ⟨_, rfl⟩
  have em25 : q.2.2.1 a0 25 = m25 := by rw [xm25]; exact em 25 (by decide)
  obtain ⟨hm25, km25, lm25⟩ : m25 ∈ L ∧ h.1 m25 = 135 ∧ h.2.1 m25 = 108 := by obtain ⟨r9, e9, z1, z2, z3⟩ := hV.refn (t := 135) (n := 108) ha0 ka0 25 rfl (by decide) rfl (by decide); rw [← em25, e9]; exact ⟨z1, z2, z3⟩
  obtain ⟨m26, xm26⟩ : ∃ z, z = mm 26 := ⟨_, rfl⟩
  have em26 : q.2.2.1 a0 26 = m26 := by rw [xm26]; exact em 26 (by decide)
  obtain ⟨hm26, km26, lm26⟩ : m26 ∈ L ∧ h.1 m26 = 136 ∧ h.2.1 m26 = 108 := by obtain ⟨r9, e9, z1, z2, z3⟩ := hV.refn (t := 136) (n := 108) ha0 ka0 26 rfl (by decide) rfl (by decide); rw [← em26, e9]; exact ⟨z1, z2, z3⟩
  obtain ⟨m27, xm27⟩ : ∃ z, z = mm 27 := ⟨_, rfl⟩
  have em27 : q.2.2.1 a0 27 = m27 := by rw [xm27]; exact em 27 (by decide)
  obtain ⟨hm27, km27, lm27⟩ : m27 ∈ L ∧ h.1 m27 = 137 ∧ h.2.1 m27 = 9 := by obtain ⟨r9, e9, z1, z2, z3⟩ := hV.refn (t := 137) (n := 9) ha0 ka0 27 rfl (by decide) rfl (by decide); rw [← em27, e9]; exact ⟨z1, z2, z3⟩
  obtain ⟨m28, xm28⟩ : ∃ z, z = mm 28 := ⟨_, rfl⟩
  have em28 : q.2.2.1 a0 28 = m28 := by rw [xm28]; exact em 28 (by decide)
  obtain ⟨hm28, km28, lm28⟩ : m28 ∈ L ∧ h.1 m28 = 138 ∧ h.2.1 m28 = 540 := by obtain ⟨r9, e9, z1, z2, z3⟩ := hV.refn (t := 138) (n := 540) ha0 ka0 28 rfl (by decide) rfl (by decide); rw [← em28, e9]; exact ⟨z1, z2, z3⟩
  obtain ⟨m29, xm29⟩ : ∃ z, z = mm 29 := ⟨_, rfl⟩
  have em29 : q.2.2.1 a0 29 = m29 := by rw [xm29]; exact em 29 (by decide)
  obtain ⟨hm29, km29, lm29⟩ : m29 ∈ L ∧ h.1 m29 = 139 ∧ h.2.1 m29 = 540 := by obtain ⟨r9, e9, z1, z2, z3⟩ := hV.refn (t := 139) (n := 540) ha0 ka0 29 rfl (by decide) rfl (by decide); rw [← em29, e9]; exact ⟨z1, z2, z3⟩
  obtain ⟨m30, xm30⟩ : ∃ z, z = mm 30 := ⟨_, rfl⟩
  have em30 : q.2.2.1 a0 30 = m30 := by rw [xm30]; exact em 30 (by decide)
  obtain ⟨hm30, km30, lm30⟩ : m30 ∈ L ∧ h.1 m30 = 140 ∧ h.2.1 m30 = 540 := by obtain ⟨r9, e9, z1, z2, z3⟩ := hV.refn (t := 140) (n := 540) ha0 ka0 30 rfl (by decide) rfl (by decide); rw [← em30, e9]; exact ⟨z1, z2, z3⟩
  obtain ⟨m34, xm34⟩ : ∃ z, z = mm 34 := ⟨_, rfl⟩
  have em34 : q.2.2.1 a0 34 = m34 := by rw [xm34]; exact em 34 (by decide)
  obtain ⟨hm34, km34, lm34⟩ : m34 ∈ L ∧ h.1 m34 = 144 ∧ h.2.1 m34 = 4 := by obtain ⟨r9, e9, z1, z2, z3⟩ := hV.refn (t := 144) (n := 4) ha0 ka0 34 rfl (by decide) rfl (by decide); rw [← em34, e9]; exact ⟨z1, z2, z3⟩
  obtain ⟨m35, xm35⟩ : ∃ z, z = mm 35 := ⟨_, rfl⟩
  have em35 : q.2.2.1 a0 35 = m35 := by rw [xm35]; exact em 35 (by decide)
  obtain ⟨hm35, km35, lm35⟩ : m35 ∈ L ∧ h.1 m35 = 245 ∧ h.2.1 m35 = 12 := by obtain ⟨r9, e9, z1, z2, z3⟩ := hV.refn (t := 245) (n := 12) ha0 ka0 35 rfl (by decide) rfl (by decide); rw [← em35, e9]; exact ⟨z1, z2, z3⟩
  obtain ⟨m40, xm40⟩ : ∃ z, z = mm 40 := ⟨_, rfl⟩
  have em40 : q.2.2.1 a0 40 = m40 := by rw [xm40]; exact em 40 (by decide)
  obtain ⟨hm40, km40, lm40⟩ : m40 ∈ L ∧ h.1 m40 = 150 ∧ h.2.1 m40 = 2400 := by obtain ⟨r9, e9, z1, z2, z3⟩ := hV.refn (t := 150) (n := 2400) ha0 ka0 40 rfl (by decide) rfl (by decide); rw [← em40, e9]; exact ⟨z1, z2, z3⟩
  obtain ⟨m41, xm41⟩ : ∃ z, z = mm 41 := ⟨_, rfl⟩
  have em41 : q.2.2.1 a0 41 = m41 := by rw [xm41]; exact em 41 (by decide)
  obtain ⟨hm41, km41, lm41⟩ : m41 ∈ L ∧ h.1 m41 = 151 ∧ h.2.1 m41 = 12 := by obtain ⟨r9, e9, z1, z2, z3⟩ := hV.refn (t := 151) (n := 12) ha0 ka0 41 rfl (by decide) rfl (by decide); rw [← em41, e9]; exact ⟨z1, z2, z3⟩
  obtain ⟨m42, xm42⟩ : ∃ z, z = mm 42 := ⟨_, rfl⟩
  have em42 : q.2.2.1 a0 42 = m42 := by rw [xm42]; exact em 42 (by decide)
  obtain ⟨hm42, km42, lm42⟩ : m42 ∈ L ∧ h.1 m42 = 152 ∧ h.2.1 m42 = 12 := by obtain ⟨r9, e9, z1, z2, z3⟩ := hV.refn (t := 152) (n := 12) ha0 ka0 42 rfl (by decide) rfl (by decide); rw [← em42, e9]; exact ⟨z1, z2, z3⟩
  obtain ⟨m43, xm43⟩ : ∃ z, z = mm 43 := ⟨_, rfl⟩
  have em43 : q.2.2.1 a0 43 = m43 := by rw [xm43]; exact em 43 (by decide)
  obtain ⟨hm43, km43, lm43⟩ : m43 ∈ L ∧ h.1 m43 = 153 ∧ h.2.1 m43 = 12 := by obtain ⟨r9, e9, z1, z2, z3⟩ := hV.refn (t := 153) (n := 12) ha0 ka0 43 rfl (by decide) rfl (by decide); rw [← em43, e9]; exact ⟨z1, z2, z3⟩
  obtain ⟨m44, xm44⟩ : ∃ z, z = mm 44 := ⟨_, rfl⟩
  have em44 : q.2.2.1 a0 44 = m44 := by rw [xm44]; exact em 44 (by decide)
  obtain ⟨hm44, km44, lm44⟩ : m44 ∈ L ∧ h.1 m44 = 154 ∧ h.2.1 m44 = 12 := by obtain ⟨r9, e9, z1, z2, z3⟩ := hV.refn (t := 154) (n := 12) ha0 ka0 44 rfl (by decide) rfl (by decide); rw [← em44, e9]; exact ⟨z1, z2, z3⟩
  obtain ⟨m46, xm46⟩ : ∃ z, z = mm 46 := ⟨_, rfl⟩
  have em46 : q.2.2.1 a0 46 = m46 := by rw [xm46]; exact em 46 (by decide)
  obtain ⟨hm46, km46, lm46⟩ : m46 ∈ L ∧ h.1 m46 = 156 ∧ h.2.1 m46 = 144 := by obtain ⟨r9, e9, z1, z2, z3⟩ := hV.refn (t := 156) (n := 144) ha0 ka0 46 rfl (by decide) rfl (by decide); rw [← em46, e9]; exact ⟨z1, z2, z3⟩
  obtain ⟨m47, xm47⟩ : ∃ z, z = mm 47 := ⟨_, rfl⟩
  have em47 : q.2.2.1 a0 47 = m47 := by rw [xm47]; exact em 47 (by decide)
  obtain ⟨hm47, km47, lm47⟩ : m47 ∈ L ∧ h.1 m47 = 157 ∧ h.2.1 m47 = 4096 := by obtain ⟨r9, e9, z1, z2, z3⟩ := hV.refn (t := 157) (n := 4096) ha0 ka0 47 rfl (by decide) rfl (by decide); rw [← em47, e9]; exact ⟨z1, z2, z3⟩
  obtain ⟨m48, xm48⟩ : ∃ z, z = mm 48 := ⟨_, rfl⟩
  have em48 : q.2.2.1 a0 48 = m48 := by rw [xm48]; exact em 48 (by decide)
  obtain ⟨hm48, km48, lm48⟩ : m48 ∈ L ∧ h.1 m48 = 158 ∧ h.2.1 m48 = 12 := by obtain ⟨r9, e9, z1, z2, z3⟩ := hV.refn (t := 158) (n := 12) ha0 ka0 48 rfl (by decide) rfl (by decide); rw [← em48, e9]; exact ⟨z1, z2, z3⟩
  have mF : mv_F m18 m19 q := by rw [xm18, xm19]; exact mF0
  have mU : mv_U m17 q := by rw [xm17]; exact mU0
  have mS : mv_S m23 m26 m28 m29 q := by rw [xm23, xm26, xm28, xm29]; exact mS0
  have mL : mv_L m40 m41 m44 a0 q := by rw [xm40, xm41, xm44]; exact mL0
  have hF : sx_fr h L (fun _ => True) q q := sx_fr.rf
  obtain ⟨htb, ktb, ltb⟩ : tb ∈ L ∧ h.1 tb = 300 ∧ h.2.1 tb = 440 := by obtain ⟨r9, e9, z1, z2, z3⟩ := hV.refn (t := 300) (n := 440) ht0 kt0 0 rfl (by decide) (by rw [lt0]; rfl) (by decide); rw [← etb, e9]; exact ⟨z1, z2, z3⟩
  obtain ⟨hfa, kfa, lfa⟩ : fa ∈ L ∧ h.1 fa = 403 ∧ h.2.1 fa = 12 := by obtain ⟨r9, e9, z1, z2, z3⟩ := hV.refn (t := 403) (n := 12) hx0 kx0 9 rfl (by decide) rfl (by decide); rw [← efa, e9]; exact ⟨z1, z2, z3⟩
  have hT : ty_T (q.2.2.2.1 tb) (q.2.2.2.1 m1) (q.1 t0 1).toInt.toNat := by rw [xm1]; exact hT0
  have hR : lc_R h fa m44 x0 q := by rw [xm44]; exact hR0
  have gx14 : (0 : Int) ≤ (q.1 x0 14).toInt ∧ (q.1 x0 14).toInt ≤ 12 := hV.int hx0 kx0 14
  have gt1 : (0 : Int) ≤ (q.1 t0 1).toInt ∧ (q.1 t0 1).toInt ≤ 440 := by have z9 := hV.int ht0 kt0 1; rw [etb, ltb] at z9; exact z9
  obtain ⟨huu, kuu⟩ : uu ∈ L ∧ h.1 uu = 9 := by obtain ⟨r9, e9, z1, z2⟩ := hV.ref (t := 9) hx0 kx0 11 rfl (by decide); rw [← euu, e9]; exact ⟨z1, z2⟩
  obtain ⟨hsu, ksu⟩ : su ∈ L ∧ h.1 su = 9 := by obtain ⟨r9, e9, z1, z2⟩ := hV.ref (t := 9) hx0 kx0 12 rfl (by decide); rw [← esu, e9]; exact ⟨z1, z2⟩
  have nuu_su : ¬ uu = su := hdz.1
  obtain ⟨uc, euc⟩ : ∃ z, q.2.2.1 uu 1 = z := ⟨_, rfl⟩
  obtain ⟨huc, kuc, luc⟩ : uc ∈ L ∧ h.1 uc = 101 ∧ h.2.1 uc = 3 := by obtain ⟨r9, e9, z1, z2, z3⟩ := hV.refn (t := 101) (n := 3) huu kuu 1 rfl (by decide) rfl (by decide); rw [← euc, e9]; exact ⟨z1, z2, z3⟩
  obtain ⟨un, eun⟩ : ∃ z, q.2.2.1 uu 2 = z := ⟨_, rfl⟩
  obtain ⟨hun, kun, lun⟩ : un ∈ L ∧ h.1 un = 202 ∧ h.2.1 un = 15 := by obtain ⟨r9, e9, z1, z2, z3⟩ := hV.refn (t := 202) (n := 15) huu kuu 2 rfl (by decide) rfl (by decide); rw [← eun, e9]; exact ⟨z1, z2, z3⟩
  obtain ⟨uf, euf⟩ : ∃ z, q.2.2.1 uu 3 = z := ⟨_, rfl⟩
  obtain ⟨huf, kuf, luf⟩ : uf ∈ L ∧ h.1 uf = 102 ∧ h.2.1 uf = 15 := by obtain ⟨r9, e9, z1, z2, z3⟩ := hV.refn (t := 102) (n := 15) huu kuu 3 rfl (by decide) rfl (by decide); rw [← euf, e9]; exact ⟨z1, z2, z3⟩
  obtain ⟨uw, euw⟩ : ∃ z, q.2.2.1 uu 4 = z := ⟨_, rfl⟩
  obtain ⟨huw, kuw, luw⟩ : uw ∈ L ∧ h.1 uw = 103 ∧ h.2.1 uw = 15 := by obtain ⟨r9, e9, z1, z2, z3⟩ := hV.refn (t := 103) (n := 15) huu kuu 4 rfl (by decide) rfl (by decide); rw [← euw, e9]; exact ⟨z1, z2, z3⟩
  have hu : lc_u8 (q.1 uu 6) (q.1 a0 20) (q.2.2.2.1 uc) (q.2.2.2.1 m18) (q.2.2.2.1 uf) (q.2.2.2.1 m19) (q.2.2.2.1 uw) (q.2.2.2.2 un) (q.2.2.2.2 m17) := by rw [← euc, ← euf, ← euw, ← eun, xm17, xm18, xm19]; exact hu0
  obtain ⟨ho0, ko0, lo0⟩ : o0 ∈ L ∧ h.1 o0 = 7 ∧ h.2.1 o0 = 2 := by obtain ⟨r9, e9, z1, z2, z3⟩ := hV.refn (t := 7) (n := 2) hx0 kx0 1 rfl (by decide) rfl (by decide); rw [← eo0, e9]; exact ⟨z1, z2, z3⟩
  obtain ⟨hob, kob, lob⟩ : ob ∈ L ∧ h.1 ob = 300 ∧ h.2.1 ob = 59 := by obtain ⟨r9, e9, z1, z2, z3⟩ := hV.refn (t := 300) (n := 59) ho0 ko0 0 rfl (by decide) (by rw [lo0]; rfl) (by decide); rw [← eob, e9]; exact ⟨z1, z2, z3⟩
  have nt0_o0 : ¬ t0 = o0 := fun z9 => absurd (z9 ▸ lt0 : h.2.1 o0 = 1) (by rw [lo0]; decide)
  have ntb_ob : ¬ tb = ob := fun z9 => absurd (z9 ▸ ltb : h.2.1 ob = 440) (by rw [lob]; decide)
  have hout : lc_o (q.1 o0 1) (q.1 a0 22) (q.2.2.2.1 ob) (q.2.2.2.1 m21) := by rw [xm21]; exact hout0
  refine wa_aload_n B dL_law_209 rfl 3 rfl ?_
  refine wa_aload_n B dL_law_210 rfl 4 rfl ?_
  refine wa_iload B dL_law_211 0 rfl ?_
  refine wa_iconst B 1 dL_law_213 (by decide) ?_
  refine wa_iadd B dL_law_214 (fun v_1 ev_1 => ?_)
  subst ev_1
  have t_2 : (i + 1).toInt = i.toInt + 1 := by have b0 := zx_bd i; exact zx_add (show (-2147483648 : Int) ≤ i.toInt + 1 by omega) (show i.toInt + 1 < (2147483648 : Int) by omega)
  refine wa_sld B hX hbl hbA (i := (i + 1)) (show 0 ≤ (i + 1).toInt by omega) (show (i + 1).toInt < (N : Int) by omega) dL_law_215 ?_
  refine wa_callVi B (x := (RX11, TX11, 16)) (As := [.int ((xs ((i + 1) : Int32).toNatClampNeg))]) (rest := []) (k_X11_end_c l dC dI h L hN q hV (a0 := x0) hx0 kx0 ((xs ((i + 1) : Int32).toNatClampNeg)) (t0 := t0) et0 (tb := tb) etb (fa := fa) efa (uu := uu) euu (o0 := o0) eo0 (ob := ob) eob  ) (cwV 1 B.1.2.2.2.2 gL_law_X11_end rfl rfl rfl (by decide +kernel) ⟨Nat.le_of_ble_eq_true rfl, Nat.le_of_ble_eq_true rfl⟩) hx0 kx0 (by decide) rfl rfl rfl (Nat.le_of_ble_eq_true rfl) dL_law_216 (fun r_4 q_3 w_5 => ?_)
  obtain ⟨hV_q_3, h2_q_3, hw_5⟩ := w_5
  have mN_q_3 : mv_N a0 q_3 := mv_N.eq (h2_q_3.I ha0 (show ¬ (sx_c6 h a0) from (sx_c6.n ka0 (by decide))) 8) (h2_q_3.J ha0 (show ¬ (sx_c6 h a0) from (sx_c6.n ka0 (by decide))) 11) mN
  have mF_q_3 : mv_F m18 m19 q_3 := mv_F.eq (h2_q_3.G hm18 (show ¬ (sx_c6 h m18) from (sx_c6.n km18 (by decide))) (by rw [km18]; decide)) (h2_q_3.G hm19 (show ¬ (sx_c6 h m19) from (sx_c6.n km19 (by decide))) (by rw [km19]; decide)) mF
  have mU_q_3 : mv_U m17 q_3 := mv_U.eq (h2_q_3.Lg hm17 (show ¬ (sx_c6 h m17) from (sx_c6.n km17 (by decide))) (by rw [km17]; decide)) mU
  have mS_q_3 : mv_S m23 m26 m28 m29 q_3 := mv_S.eq (h2_q_3.G hm23 (show ¬ (sx_c6 h m23) from (sx_c6.n km23 (by decide))) (by rw [km23]; decide)) (h2_q_3.G hm26 (show ¬ (sx_c6 h m26) from (sx_c6.n km26 (by decide))) (by rw [km26]; decide)) (h2_q_3.G hm28 (show ¬ (sx_c6 h m28) from (sx_c6.n km28 (by decide))) (by rw [km28]; decide)) (h2_q_3.G hm29 (show ¬ (sx_c6 h m29) from (sx_c6.n km29 (by decide))) (by rw [km29]; decide)) mS
  have mL_q_3 : mv_L m40 m41 m44 a0 q_3 := mv_L.eq (h2_q_3.G hm40 (show ¬ (sx_c6 h m40) from (sx_c6.n km40 (by decide))) (by rw [km40]; decide)) (h2_q_3.G hm41 (show ¬ (sx_c6 h m41) from (sx_c6.n km41 (by decide))) (by rw [km41]; decide)) (h2_q_3.G hm44 (show ¬ (sx_c6 h m44) from (sx_c6.n km44 (by decide))) (by rw [km44]; decide)) (h2_q_3.I ha0 (show ¬ (sx_c6 h a0) from (sx_c6.n ka0 (by decide))) 45) mL
  have hB_q_3 := hw_5.2.2.2.2.1.trans esu
  refine wa_pop B dL_law_219 rfl ?_
  refine wa_aload_n B dL_law_220 rfl 2 rfl ?_
  refine wa_aload_n B dL_law_221 rfl 4 rfl ?_
  refine wa_iload B dL_law_222 0 rfl ?_
  refine wa_iconst B 1 dL_law_224 (by decide) ?_
  refine wa_iadd B dL_law_225 (fun v_6 ev_6 => ?_)
  subst ev_6
  refine wa_sld B hX hbl hbA (i := (i + 1)) (show 0 ≤ (i + 1).toInt by omega) (show (i + 1).toInt < (N : Int) by omega) dL_law_226 ?_
  have z_7 : q_3.1 a0 2 = q.1 a0 2 := h2_q_3.I ha0 (show ¬ (sx_c6 h a0) from (sx_c6.n ka0 (by decide))) 2
  have y_8 : (q_3.1 a0 2).toInt = (q.1 a0 2).toInt := by rw [z_7]
  refine wa_callVi B (x := (RX12, TX12, 51)) (As := [.int ((xs ((i + 1) : Int32).toNatClampNeg))]) (rest := []) (k_X12_end l dC dI h L hN q_3 hV_q_3 (a0 := a0) ha0 ka0 ((xs ((i + 1) : Int32).toNatClampNeg))  ) (cwV 1 B.1.2.2.2.2 gL_law_X12_end rfl rfl rfl (by decide +kernel) ⟨Nat.le_of_ble_eq_true rfl, Nat.le_of_ble_eq_true rfl⟩) ha0 ka0 (by decide) rfl rfl rfl (Nat.le_of_ble_eq_true rfl) dL_law_227 (fun r_10 q_9 w_11 => ?_)
  obtain ⟨hV_q_9, h2_q_9, h3_q_9, hw_11⟩ := w_11
  have mN_q_9 : mv_N a0 q_9 := mv_N.eq (h3_q_9.1 8 (by decide)) (h3_q_9.2 11 (by decide)) mN_q_3
  have mF_q_9 : mv_F m18 m19 q_9 := mv_F.eq (h2_q_9.G hm18 (show ¬ (h.1 m18 = 12) from (fun z => absurd (z.symm.trans km18) (by decide))) (by rw [km18]; decide)) (h2_q_9.G hm19 (show ¬ (h.1 m19 = 12) from (fun z => absurd (z.symm.trans km19) (by decide))) (by rw [km19]; decide)) mF_q_3
  have mU_q_9 : mv_U m17 q_9 := mv_U.eq (h2_q_9.Lg hm17 (show ¬ (h.1 m17 = 12) from (fun z => absurd (z.symm.trans km17) (by decide))) (by rw [km17]; decide)) mU_q_3
  have mS_q_9 : mv_S m23 m26 m28 m29 q_9 := mv_S.eq (h2_q_9.G hm23 (show ¬ (h.1 m23 = 12) from (fun z => absurd (z.symm.trans km23) (by decide))) (by rw [km23]; decide)) (h2_q_9.G hm26 (show ¬ (h.1 m26 = 12) from (fun z => absurd (z.symm.trans km26) (by decide))) (by rw [km26]; decide)) (h2_q_9.G hm28 (show ¬ (h.1 m28 = 12) from (fun z => absurd (z.symm.trans km28) (by decide))) (by rw [km28]; decide)) (h2_q_9.G hm29 (show ¬ (h.1 m29 = 12) from (fun z => absurd (z.symm.trans km29) (by decide))) (by rw [km29]; decide)) mS_q_3
  have mL_q_9 : mv_L m40 m41 m44 a0 q_9 := mv_L.eq (h2_q_9.G hm40 (show ¬ (h.1 m40 = 12) from (fun z => absurd (z.symm.trans km40) (by decide))) (by rw [km40]; decide)) (h2_q_9.G hm41 (show ¬ (h.1 m41 = 12) from (fun z => absurd (z.symm.trans km41) (by decide))) (by rw [km41]; decide)) (h2_q_9.G hm44 (show ¬ (h.1 m44 = 12) from (fun z => absurd (z.symm.trans km44) (by decide))) (by rw [km44]; decide)) (h3_q_9.1 45 (by decide)) mL_q_3
  refine wa_pop B dL_law_230 rfl ?_
  refine wa_goto B 775 dL_law_231 (by decide) ?_
  have z_12 : q_9.1 a0 45 = q.1 a0 45 := (h3_q_9.1 45 (by decide)).trans (h2_q_3.I ha0 (show ¬ (sx_c6 h a0) from (sx_c6.n ka0 (by decide))) 45)
  have y_13 : (q_9.1 a0 45).toInt = (q.1 a0 45).toInt := by rw [z_12]
  have z_14 : q_9.1 t0 1 = q_3.1 t0 1 := h2_q_9.I ht0 (show ¬ (h.1 t0 = 12) from (fun z => absurd (z.symm.trans kt0) (by decide))) 1
  have y_15 : (q_9.1 t0 1).toInt = (q_3.1 t0 1).toInt := by rw [z_14]
  have z_16 : q_9.1 x0 14 = q_3.1 x0 14 := h2_q_9.I hx0 (show ¬ (h.1 x0 = 12) from (fun z => absurd (z.symm.trans kx0) (by decide))) 14
  have y_17 : (q_9.1 x0 14).toInt = (q_3.1 x0 14).toInt := by rw [z_16]
  have z_18 : q_9.2.2.1 x0 0 = t0 := (h2_q_9.R hx0 (show ¬ ((h.1 x0 = 12) ∧ (h.1 x0 = 8 ∨ h.1 x0 = 11)) from fun z9 => (show ¬ (h.1 x0 = 12) from (fun z => absurd (z.symm.trans kx0) (by decide))) z9.1) 0).trans (hw_5.1)
  have z_19 : q_9.2.2.1 t0 0 = tb := (h2_q_9.R ht0 (fun z9 => absurd z9.2 (by omega)) 0).trans ((h2_q_3.R ht0 (fun z9 => absurd z9.2 (by omega)) 0).trans (etb))
  have z_20 : q_9.2.2.1 x0 9 = fa := (h2_q_9.R hx0 (show ¬ ((h.1 x0 = 12) ∧ (h.1 x0 = 8 ∨ h.1 x0 = 11)) from fun z9 => (show ¬ (h.1 x0 = 12) from (fun z => absurd (z.symm.trans kx0) (by decide))) z9.1) 9).trans (hw_5.2.2.2.2.2.1)
  have z_21 : q_9.2.2.2.1 tb = q.2.2.2.1 tb := (h2_q_9.G htb (show ¬ (h.1 tb = 12) from (fun z => absurd (z.symm.trans ktb) (by decide))) (by rw [ktb]; decide)).trans (h2_q_3.G htb (show ¬ (sx_c6 h tb) from (sx_c6.t ktb ltb)) (by rw [ktb]; decide))
  have z_22 : q_9.2.2.2.1 m1 = q.2.2.2.1 m1 := (h2_q_9.G hm1 (show ¬ (h.1 m1 = 12) from (fun z => absurd (z.symm.trans km1) (by decide))) (by rw [km1]; decide)).trans (h2_q_3.G hm1 (show ¬ (sx_c6 h m1) from (sx_c6.n km1 (by decide))) (by rw [km1]; decide))
  have hT9 : ty_T (q_9.2.2.2.1 tb) (q_9.2.2.2.1 m1) (q_9.1 t0 1).toInt.toNat := by rw [z_21, z_22]; exact hT.le (by omega)
  have z_23 : q_9.2.2.2.1 m44 = q.2.2.2.1 m44 := (h2_q_9.G hm44 (show ¬ (h.1 m44 = 12) from (fun z => absurd (z.symm.trans km44) (by decide))) (by rw [km44]; decide)).trans (h2_q_3.G hm44 (show ¬ (sx_c6 h m44) from (sx_c6.n km44 (by decide))) (by rw [km44]; decide))
  have hR9 : lc_R h fa m44 x0 q_9 := by
    intro f hf
    obtain ⟨e9, ee9, he9, ke9⟩ := hV.elem (t := 0) hfa kfa (by decide) rfl (j := f) (by omega)
    rw [ee9, show q_9.1 e9 3 = q_3.1 e9 3 from h2_q_9.I he9 (show ¬ (h.1 e9 = 12) from by omega) 3, show q_3.1 e9 3 = q.1 e9 3 from h2_q_3.I he9 (show ¬ (sx_c6 h e9) from by (try unfold sx_mk at *); (try unfold sx_ck at *); (try unfold sx_c6 at *); omega) 3, ← ee9, z_23]
    exact hR f (by omega)
  have hR_uu : q_9.2.2.1 uu = q.2.2.1 uu := by rw [show q_9.2.2.1 uu = q_3.2.2.1 uu from h2_q_9.2 uu huu (fun z9 => absurd z9.2 (by rw [kuu]; decide)), show q_3.2.2.1 uu = q.2.2.1 uu from h2_q_3.2 uu huu (fun z9 => absurd z9.2 (by rw [kuu]; decide))]
  have hR_su : q_9.2.2.1 su = q.2.2.1 su := by rw [show q_9.2.2.1 su = q_3.2.2.1 su from h2_q_9.2 su hsu (fun z9 => absurd z9.2 (by rw [ksu]; decide)), show q_3.2.2.1 su = q.2.2.1 su from h2_q_3.2 su hsu (fun z9 => absurd z9.2 (by rw [ksu]; decide))]
  have z_24 : q_9.1 o0 1 = q.1 o0 1 := (h2_q_9.I ho0 (show ¬ (h.1 o0 = 12) from (fun z => absurd (z.symm.trans ko0) (by decide))) 1).trans (h2_q_3.I ho0 (show ¬ (sx_c6 h o0) from (sx_c6.o ko0 lo0)) 1)
  have z_25 : q_9.1 a0 22 = q.1 a0 22 := (h3_q_9.1 22 (by decide)).trans (h2_q_3.I ha0 (show ¬ (sx_c6 h a0) from (sx_c6.n ka0 (by decide))) 22)
  have z_26 : q_9.2.2.2.1 ob = q.2.2.2.1 ob := (h2_q_9.G hob (show ¬ (h.1 ob = 12) from (fun z => absurd (z.symm.trans kob) (by decide))) (by rw [kob]; decide)).trans (h2_q_3.G hob (show ¬ (sx_c6 h ob) from (sx_c6.u kob lob)) (by rw [kob]; decide))
  have z_27 : q_9.2.2.2.1 m21 = q.2.2.2.1 m21 := (h2_q_9.G hm21 (show ¬ (h.1 m21 = 12) from (fun z => absurd (z.symm.trans km21) (by decide))) (by rw [km21]; decide)).trans (h2_q_3.G hm21 (show ¬ (sx_c6 h m21) from (sx_c6.n km21 (by decide))) (by rw [km21]; decide))
  have hout9 : lc_o (q_9.1 o0 1) (q_9.1 a0 22) (q_9.2.2.2.1 ob) (q_9.2.2.2.1 (mm 21)) := by rw [← xm21, z_24, z_25, z_26, z_27]; exact hout
  have z_28 : q_9.2.2.1 x0 1 = o0 := (h2_q_9.R hx0 (show ¬ ((h.1 x0 = 12) ∧ (h.1 x0 = 8 ∨ h.1 x0 = 11)) from fun z9 => (show ¬ (h.1 x0 = 12) from (fun z => absurd (z.symm.trans kx0) (by decide))) z9.1) 1).trans (hw_5.2.2.2.2.2.2)
  have z_29 : q_9.2.2.1 o0 0 = ob := (h2_q_9.R ho0 (fun z9 => absurd z9.2 (by omega)) 0).trans ((h2_q_3.R ho0 (fun z9 => absurd z9.2 (by omega)) 0).trans (eob))
  have z_30 : q_9.1 uu 6 = q.1 uu 6 := (h2_q_9.I huu (show ¬ (h.1 uu = 12) from (fun z => absurd (z.symm.trans kuu) (by decide))) 6).trans (h2_q_3.I huu (show ¬ (sx_c6 h uu) from (sx_c6.n kuu (by decide))) 6)
  have z_31 : q_9.1 a0 20 = q.1 a0 20 := (h3_q_9.1 20 (by decide)).trans (h2_q_3.I ha0 (show ¬ (sx_c6 h a0) from (sx_c6.n ka0 (by decide))) 20)
  have z_32 : q_9.2.2.2.1 uc = q.2.2.2.1 uc := (h2_q_9.G huc (show ¬ (h.1 uc = 12) from (fun z => absurd (z.symm.trans kuc) (by decide))) (by rw [kuc]; decide)).trans (h2_q_3.G huc (show ¬ (sx_c6 h uc) from (sx_c6.n kuc (by decide))) (by rw [kuc]; decide))
  have z_33 : q_9.2.2.2.1 m18 = q.2.2.2.1 m18 := (h2_q_9.G hm18 (show ¬ (h.1 m18 = 12) from (fun z => absurd (z.symm.trans km18) (by decide))) (by rw [km18]; decide)).trans (h2_q_3.G hm18 (show ¬ (sx_c6 h m18) from (sx_c6.n km18 (by decide))) (by rw [km18]; decide))
  have z_34 : q_9.2.2.2.1 uf = q.2.2.2.1 uf := (h2_q_9.G huf (show ¬ (h.1 uf = 12) from (fun z => absurd (z.symm.trans kuf) (by decide))) (by rw [kuf]; decide)).trans (h2_q_3.G huf (show ¬ (sx_c6 h uf) from (sx_c6.n kuf (by decide))) (by rw [kuf]; decide))
  have z_35 : q_9.2.2.2.1 m19 = q.2.2.2.1 m19 := (h2_q_9.G hm19 (show ¬ (h.1 m19 = 12) from (fun z => absurd (z.symm.trans km19) (by decide))) (by rw [km19]; decide)).trans (h2_q_3.G hm19 (show ¬ (sx_c6 h m19) from (sx_c6.n km19 (by decide))) (by rw [km19]; decide))
  have z_36 : q_9.2.2.2.1 uw = q.2.2.2.1 uw := (h2_q_9.G huw (show ¬ (h.1 uw = 12) from (fun z => absurd (z.symm.trans kuw) (by decide))) (by rw [kuw]; decide)).trans (h2_q_3.G huw (show ¬ (sx_c6 h uw) from (sx_c6.n kuw (by decide))) (by rw [kuw]; decide))
  have z_37 : q_9.2.2.2.2 un = q.2.2.2.2 un := (h2_q_9.Lg hun (show ¬ (h.1 un = 12) from (fun z => absurd (z.symm.trans kun) (by decide))) (by rw [kun]; decide)).trans (h2_q_3.Lg hun (show ¬ (sx_c6 h un) from (sx_c6.n kun (by decide))) (by rw [kun]; decide))
  have z_38 : q_9.2.2.2.2 m17 = q.2.2.2.2 m17 := (h2_q_9.Lg hm17 (show ¬ (h.1 m17 = 12) from (fun z => absurd (z.symm.trans km17) (by decide))) (by rw [km17]; decide)).trans (h2_q_3.Lg hm17 (show ¬ (sx_c6 h m17) from (sx_c6.n km17 (by decide))) (by rw [km17]; decide))
  have hu9 : lc_uq8 q_9 a0 uu (mm 17) (mm 18) (mm 19) := by unfold lc_uq8; rw [← xm17, ← xm18, ← xm19, hR_uu, euc, euf, euw, eun, z_30, z_31, z_32, z_33, z_34, z_35, z_36, z_37, z_38]; exact hu
  have z_39 : q_9.2.2.1 x0 11 = uu := (h2_q_9.R hx0 (show ¬ ((h.1 x0 = 12) ∧ (h.1 x0 = 8 ∨ h.1 x0 = 11)) from fun z9 => (show ¬ (h.1 x0 = 12) from (fun z => absurd (z.symm.trans kx0) (by decide))) z9.1) 11).trans (hw_5.2.2.2.1)
  have z_40 : q_9.2.2.1 x0 12 = su := (h2_q_9.R hx0 (show ¬ ((h.1 x0 = 12) ∧ (h.1 x0 = 8 ∨ h.1 x0 = 11)) from fun z9 => (show ¬ (h.1 x0 = 12) from (fun z => absurd (z.symm.trans kx0) (by decide))) z9.1) 12).trans (hB_q_3)
  exact hcont _ _ (Or.inl rfl) ⟨⟨⟨hV_q_9, mN_q_9, by rw [← xm18, ← xm19]; exact mF_q_9, by rw [← xm17]; exact mU_q_9, by rw [← xm23, ← xm26, ← xm28, ← xm29]; exact mS_q_9, by rw [← xm40, ← xm41, ← xm44]; exact mL_q_9, z_18, fun k hk => by rw [show q_9.2.2.1 a0 = q_3.2.2.1 a0 from h2_q_9.2 a0 ha0 (fun z9 => absurd z9.2 (by omega)), show q_3.2.2.1 a0 = q.2.2.1 a0 from h2_q_3.2 a0 ha0 (fun z9 => absurd z9.2 (by omega))]; exact em k hk, by omega, by omega⟩, z_19, z_20, by rw [← xm1]; exact hT9, by rw [← xm44]; exact hR9⟩, uu, su, o0, ob, z_39, z_40, hdz.eq hR_uu hR_su, hu9, ⟨z_28, z_29⟩, hout9⟩
set_option maxHeartbeats 4000000 in
set_option maxRecDepth 100000 in
theorem lc6_247 (l : Launch) (hlst : l.stackTraces = false) {Z : Zt} (dC : Nat → ClassId) (dI : Nat → Nat → Nat) (h : Sh) (L : List Nat) (hN : sx_nd L) (B : BX dC dI h L 7 cL_law RL wsL_law Z) {b N : Nat} {xs : Nat → Int32} (hX : va_X b N xs Z.2.2.1 Z.2.2.1.heap) (hbl : b < Z.2.2.1.heap.size) (hbA : ¬ AL L Z.2.2.1.heap.size b) {x0 a0 ot t0 tb fa : Nat} (hfd : lc_fd h fa) {mm : Nat → Nat} (hx0 : x0 ∈ L) (kx0 : h.1 x0 = 11) (ha0 : a0 ∈ L) (ka0 : h.1 a0 = 12) (hot : ot ∈ L) (kot : h.1 ot = 200) (lot : h.2.1 ot = 1) {i : Int32} (hi0 : 0 ≤ i.toInt) (hi1 : i.toInt + 6 ≤ (N : Int)) (hN2 : N ≤ 3072) (hroom : (zl_more Z).2.2.2.2.2.2.2.2.2.1 ≤ room_1.cells ∧ (zl_more Z).2.2.2.2.2.2.2.2.2.2 ≤ room_1.slots) {q : Sg} (hI : lc_I8 h L x0 a0 t0 tb fa mm q) (hcont : ∀ (Z2 : Zt) (q2 : Sg), (Z2 = Z ∨ Z2 = zl_more Z) → lc_I8 h L x0 a0 t0 tb fa mm q2 → WA l dC dI h L room_1 7 Z2 q2 775 [(4, .int i), (3, .ref ot), (2, .ref a0), (1, .ref x0), (0, .ref b)] []) : WA l dC dI h L room_1 7 Z q 247 [(4, .int i), (3, .ref ot), (2, .ref a0), (1, .ref x0), (0, .ref b)] [] := by
  obtain ⟨hI, uu, su, o0, ob, euu, esu, hdz, hu0, ⟨eo0, eob⟩, hout0⟩ := hI
  obtain ⟨hI, etb, efa, hT0, hR0⟩ := hI
  obtain ⟨hV, mN, mF0, mU0, mS0, mL0, et0, em, hte, hfe⟩ := hI
  obtain ⟨ht0, kt0, lt0⟩ : t0 ∈ L ∧ h.1 t0 = 7 ∧ h.2.1 t0 = 1 := by obtain ⟨r9, e9, z1, z2, z3⟩ := hV.refn (t := 7) (n := 1) hx0 kx0 0 rfl (by decide) rfl (by decide); rw [← et0, e9]; exact ⟨z1, z2, z3⟩
  obtain ⟨m1, xm1⟩ : ∃ z, z = mm 1 := ⟨_, rfl⟩
  have em1 : q.2.2.1 a0 1 = m1 := by rw [xm1]; exact em 1 (by decide)
  obtain ⟨hm1, km1, lm1⟩ : m1 ∈ L ∧ h.1 m1 = 111 ∧ h.2.1 m1 = 440 := by obtain ⟨r9, e9, z1, z2, z3⟩ := hV.refn (t := 111) (n := 440) ha0 ka0 1 rfl (by decide) rfl (by decide); rw [← em1, e9]; exact ⟨z1, z2, z3⟩
  obtain ⟨m3, xm3⟩ : ∃ z, z = mm 3 := ⟨_, rfl⟩
  have em3 : q.2.2.1 a0 3 = m3 := by rw [xm3]; exact em 3 (by decide)
  obtain ⟨hm3, km3, lm3⟩ : m3 ∈ L ∧ h.1 m3 = 113 ∧ h.2.1 m3 = 500 := by obtain ⟨r9, e9, z1, z2, z3⟩ := hV.refn (t := 113) (n := 500) ha0 ka0 3 rfl (by decide) rfl (by decide); rw [← em3, e9]; exact ⟨z1, z2, z3⟩
  obtain ⟨m16, xm16⟩ : ∃ z, z = mm 16 := ⟨_, rfl⟩
  have em16 : q.2.2.1 a0 16 = m16 := by rw [xm16]; exact em 16 (by decide)
  obtain ⟨hm16, km16, lm16⟩ : m16 ∈ L ∧ h.1 m16 = 226 ∧ h.2.1 m16 = 6 := by obtain ⟨r9, e9, z1, z2, z3⟩ := hV.refn (t := 226) (n := 6) ha0 ka0 16 rfl (by decide) rfl (by decide); rw [← em16, e9]; exact ⟨z1, z2, z3⟩
  obtain ⟨m17, xm17⟩ : ∃ z, z = mm 17 := ⟨_, rfl⟩
  have em17 : q.2.2.1 a0 17 = m17 := by rw [xm17]; exact em 17 (by decide)
  obtain ⟨hm17, km17, lm17⟩ : m17 ∈ L ∧ h.1 m17 = 227 ∧ h.2.1 m17 = 30 := by obtain ⟨r9, e9, z1, z2, z3⟩ := hV.refn (t := 227) (n := 30) ha0 ka0 17 rfl (by decide) rfl (by decide); rw [← em17, e9]; exact ⟨z1, z2, z3⟩
  obtain ⟨m18, xm18⟩ : ∃ z, z = mm 18 := ⟨_, rfl⟩
  have em18 : q.2.2.1 a0 18 = m18 := by rw [xm18]; exact em 18 (by decide)
  obtain ⟨hm18, km18, lm18⟩ : m18 ∈ L ∧ h.1 m18 = 128 ∧ h.2.1 m18 = 6 := by obtain ⟨r9, e9, z1, z2, z3⟩ := hV.refn (t := 128) (n := 6) ha0 ka0 18 rfl (by decide) rfl (by decide); rw [← em18, e9]; exact ⟨z1, z2, z3⟩
  obtain ⟨m19, xm19⟩ : ∃ z, z = mm 19 := ⟨_, rfl⟩
  have em19 : q.2.2.1 a0 19 = m19 := by rw [xm19]; exact em 19 (by decide)
  obtain ⟨hm19, km19, lm19⟩ : m19 ∈ L ∧ h.1 m19 = 129 ∧ h.2.1 m19 = 30 := by obtain ⟨r9, e9, z1, z2, z3⟩ := hV.refn (t := 129) (n := 30) ha0 ka0 19 rfl (by decide) rfl (by decide); rw [← em19, e9]; exact ⟨z1, z2, z3⟩
  obtain ⟨m21, xm21⟩ : ∃ z, z = mm 21 := ⟨_, rfl⟩
  have em21 : q.2.2.1 a0 21 = m21 := by rw [xm21]; exact em 21 (by decide)
  obtain ⟨hm21, km21, lm21⟩ : m21 ∈ L ∧ h.1 m21 = 131 ∧ h.2.1 m21 = 80 := by obtain ⟨r9, e9, z1, z2, z3⟩ := hV.refn (t := 131) (n := 80) ha0 ka0 21 rfl (by decide) rfl (by decide); rw [← em21, e9]; exact ⟨z1, z2, z3⟩
  obtain ⟨m23, xm23⟩ : ∃ z, z = mm 23 := ⟨_, rfl⟩
  have em23 : q.2.2.1 a0 23 = m23 := by rw [xm23]; exact em 23 (by decide)
  obtain ⟨hm23, km23, lm23⟩ : m23 ∈ L ∧ h.1 m23 = 133 ∧ h.2.1 m23 = 9 := by obtain ⟨r9, e9, z1, z2, z3⟩ := hV.refn (t := 133) (n := 9) ha0 ka0 23 rfl (by decide) rfl (by decide); rw [← em23, e9]; exact ⟨z1, z2, z3⟩
  obtain ⟨m24, xm24⟩ : ∃ z, z = mm 24 := ⟨_, rfl⟩
  have em24 : q.2.2.1 a0 24 = m24 := by rw [xm24]; exact em 24 (by decide)
  obtain ⟨hm24, km24, lm24⟩ : m24 ∈ L ∧ h.1 m24 = 134 ∧ h.2.1 m24 = 108 := by obtain ⟨r9, e9, z1, z2, z3⟩ := hV.refn (t := 134) (n := 108) ha0 ka0 24 rfl (by decide) rfl (by decide); rw [← em24, e9]; exact ⟨z1, z2, z3⟩
  obtain ⟨m25, xm25⟩ : ∃ z, z = mm 25 := ⟨_, rfl⟩
  have em25 : q.2.2.1 a0 25 = m25 := by rw [xm25]; exact em 25 (by decide)
  obtain ⟨hm25, km25, lm25⟩ : m25 ∈ L ∧ h.1 m25 = 135 ∧ h.2.1 m25 = 108 := by obtain ⟨r9, e9, z1, z2, z3⟩ := hV.refn (t := 135) (n := 108) ha0 ka0 25 rfl (by decide) rfl (by decide); rw [← em25, e9]; exact ⟨z1, z2, z3⟩
  obtain ⟨m26, xm26⟩ : ∃ z, z = mm 26 := ⟨_, rfl⟩
  have em26 : q.2.2.1 a0 26 = m26 := by rw [xm26]; exact em 26 (by decide)
  obtain ⟨hm26, km26, lm26⟩ : m26 ∈ L ∧ h.1 m26 = 136 ∧ h.2.1 m26 = 108 := by obtain ⟨r9, e9, z1, z2, z3⟩ := hV.refn (t := 136) (n := 108) ha0 ka0 26 rfl (by decide) rfl (by decide); rw [← em26, e9]; exact ⟨z1, z2, z3⟩
  obtain ⟨m27, xm27⟩ : ∃ z, z = mm 27 := ⟨_, rfl⟩
  have em27 : q.2.2.1 a0 27 = m27 := by rw [xm27]; exact em 27 (by decide)
  obtain ⟨hm27, km27, lm27⟩ : m27 ∈ L ∧ h.1 m27 = 137 ∧ h.2.1 m27 = 9 := by obtain ⟨r9, e9, z1, z2, z3⟩ := hV.refn (t := 137) (n := 9) ha0 ka0 27 rfl (by decide) rfl (by decide); rw [← em27, e9]; exact ⟨z1, z2, z3⟩
  obtain ⟨m28, xm28⟩ : ∃ z, z = mm 28 := ⟨_, rfl⟩
  have em28 : q.2.2.1 a0 28 = m28 := by rw [xm28]; exact em 28 (by decide)
  obtain ⟨hm28, km28, lm28⟩ : m28 ∈ L ∧ h.1 m28 = 138 ∧ h.2.1 m28 = 540 := by obtain ⟨r9, e9, z1, z2, z3⟩ := hV.refn (t := 138) (n := 540) ha0 ka0 28 rfl (by decide) rfl (by decide); rw [← em28, e9]; exact ⟨z1, z2, z3⟩
  obtain ⟨m29, xm29⟩ : ∃ z, z = mm 29 := ⟨_, rfl⟩
  have em29 : q.2.2.1 a0 29 = m29 := by rw [xm29]; exact em 29 (by decide)
  obtain ⟨hm29, km29, lm29⟩ : m29 ∈ L ∧ h.1 m29 = 139 ∧ h.2.1 m29 = 540 := by obtain ⟨r9, e9, z1, z2, z3⟩ := hV.refn (t := 139) (n := 540) ha0 ka0 29 rfl (by decide) rfl (by decide); rw [← em29, e9]; exact ⟨z1, z2, z3⟩
  obtain ⟨m30, xm30⟩ : ∃ z, z = mm 30 := ⟨_, rfl⟩
  have em30 : q.2.2.1 a0 30 = m30 := by rw [xm30]; exact em 30 (by decide)
  obtain ⟨hm30, km30, lm30⟩ : m30 ∈ L ∧ h.1 m30 = 140 ∧ h.2.1 m30 = 540 := by obtain ⟨r9, e9, z1, z2, z3⟩ := hV.refn (t := 140) (n := 540) ha0 ka0 30 rfl (by decide) rfl (by decide); rw [← em30, e9]; exact ⟨z1, z2, z3⟩
  obtain ⟨m34, xm34⟩ : ∃ z, z = mm 34 := ⟨_, rfl⟩
  have em34 : q.2.2.1 a0 34 = m34 := by rw [xm34]; exact em 34 (by decide)
  obtain ⟨hm34, km34, lm34⟩ : m34 ∈ L ∧ h.1 m34 = 144 ∧ h.2.1 m34 = 4 := by obtain ⟨r9, e9, z1, z2, z3⟩ := hV.refn (t := 144) (n := 4) ha0 ka0 34 rfl (by decide) rfl (by decide); rw [← em34, e9]; exact ⟨z1, z2, z3⟩
  obtain ⟨m35, xm35⟩ : ∃ z, z = mm 35 := ⟨_, rfl⟩
  have em35 : q.2.2.1 a0 35 = m35 := by rw [xm35]; exact em 35 (by decide)
  obtain ⟨hm35, km35, lm35⟩ : m35 ∈ L ∧ h.1 m35 = 245 ∧ h.2.1 m35 = 12 := by obtain ⟨r9, e9, z1, z2, z3⟩ := hV.refn (t := 245) (n := 12) ha0 ka0 35 rfl (by decide) rfl (by decide); rw [← em35, e9]; exact ⟨z1, z2, z3⟩
  obtain ⟨m40, xm40⟩ : ∃ z, z = mm 40 := ⟨_, rfl⟩
  have em40 : q.2.2.1 a0 40 = m40 := by rw [xm40]; exact em 40 (by decide)
  obtain ⟨hm40, km40, lm40⟩ : m40 ∈ L ∧ h.1 m40 = 150 ∧ h.2.1 m40 = 2400 := by obtain ⟨r9, e9, z1, z2, z3⟩ := hV.refn (t := 150) (n := 2400) ha0 ka0 40 rfl (by decide) rfl (by decide); rw [← em40, e9]; exact ⟨z1, z2, z3⟩
  obtain ⟨m41, xm41⟩ : ∃ z, z = mm 41 := ⟨_, rfl⟩
  have em41 : q.2.2.1 a0 41 = m41 := by rw [xm41]; exact em 41 (by decide)
  obtain ⟨hm41, km41, lm41⟩ : m41 ∈ L ∧ h.1 m41 = 151 ∧ h.2.1 m41 = 12 := by obtain ⟨r9, e9, z1, z2, z3⟩ := hV.refn (t := 151) (n := 12) ha0 ka0 41 rfl (by decide) rfl (by decide); rw [← em41, e9]; exact ⟨z1, z2, z3⟩
  obtain ⟨m42, xm42⟩ : ∃ z, z = mm 42 := ⟨_, rfl⟩
  have em42 : q.2.2.1 a0 42 = m42 := by rw [xm42]; exact em 42 (by decide)
  obtain ⟨hm42, km42, lm42⟩ : m42 ∈ L ∧ h.1 m42 = 152 ∧ h.2.1 m42 = 12 := by obtain ⟨r9, e9, z1, z2, z3⟩ := hV.refn (t := 152) (n := 12) ha0 ka0 42 rfl (by decide) rfl (by decide); rw [← em42, e9]; exact ⟨z1, z2, z3⟩
  obtain ⟨m43, xm43⟩ : ∃ z, z = mm 43 := ⟨_, rfl⟩
  have em43 : q.2.2.1 a0 43 = m43 := by rw [xm43]; exact em 43 (by decide)
  obtain ⟨hm43, km43, lm43⟩ : m43 ∈ L ∧ h.1 m43 = 153 ∧ h.2.1 m43 = 12 := by obtain ⟨r9, e9, z1, z2, z3⟩ := hV.refn (t := 153) (n := 12) ha0 ka0 43 rfl (by decide) rfl (by decide); rw [← em43, e9]; exact ⟨z1, z2, z3⟩
  obtain ⟨m44, xm44⟩ : ∃ z, z = mm 44 := ⟨_, rfl⟩
  have em44 : q.2.2.1 a0 44 = m44 := by rw [xm44]; exact em 44 (by decide)
  obtain ⟨hm44, km44, lm44⟩ : m44 ∈ L ∧ h.1 m44 = 154 ∧ h.2.1 m44 = 12 := by obtain ⟨r9, e9, z1, z2, z3⟩ := hV.refn (t := 154) (n := 12) ha0 ka0 44 rfl (by decide) rfl (by decide); rw [← em44, e9]; exact ⟨z1, z2, z3⟩
  obtain ⟨m46, xm46⟩ : ∃ z, z = mm 46 := ⟨_, rfl⟩
  have em46 : q.2.2.1 a0 46 = m46 := by rw [xm46]; exact em 46 (by decide)
  obtain ⟨hm46, km46, lm46⟩ : m46 ∈ L ∧ h.1 m46 = 156 ∧ h.2.1 m46 = 144 := by obtain ⟨r9, e9, z1, z2, z3⟩ := hV.refn (t := 156) (n := 144) ha0 ka0 46 rfl (by decide) rfl (by decide); rw [← em46, e9]; exact ⟨z1, z2, z3⟩
  obtain ⟨m47, xm47⟩ : ∃ z, z = mm 47 := ⟨_, rfl⟩
  have em47 : q.2.2.1 a0 47 = m47 := by rw [xm47]; exact em 47 (by decide)
  obtain ⟨hm47, km47, lm47⟩ : m47 ∈ L ∧ h.1 m47 = 157 ∧ h.2.1 m47 = 4096 := by obtain ⟨r9, e9, z1, z2, z3⟩ := hV.refn (t := 157) (n := 4096) ha0 ka0 47 rfl (by decide) rfl (by decide); rw [← em47, e9]; exact ⟨z1, z2, z3⟩
  obtain ⟨m48, xm48⟩ : ∃ z, z = mm 48 := ⟨_, rfl⟩
  have em48 : q.2.2.1 a0 48 = m48 := by rw [xm48]; exact em 48 (by decide)
  obtain ⟨hm48, km48, lm48⟩ : m48 ∈ L ∧ h.1 m48 = 158 ∧ h.2.1 m48 = 12 := by obtain ⟨r9, e9, z1, z2, z3⟩ := hV.refn (t := 158) (n := 12) ha0 ka0 48 rfl (by decide) rfl (by decide); rw [← em48, e9]; exact ⟨z1, z2, z3⟩
  have mF : mv_F m18 m19 q := by rw [xm18, xm19]; exact mF0
  have mU : mv_U m17 q := by rw [xm17]; exact mU0
  have mS : mv_S m23 m26 m28 m29 q := by rw [xm23, xm26, xm28, xm29]; exact mS0
  have mL : mv_L m40 m41 m44 a0 q := by rw [xm40, xm41, xm44]; exact mL0
  have hF : sx_fr h L (fun _ => True) q q := sx_fr.rf
  obtain ⟨htb, ktb, ltb⟩ : tb ∈ L ∧ h.1 tb = 300 ∧ h.2.1 tb = 440 := by obtain ⟨r9, e9, z1, z2, z3⟩ := hV.refn (t := 300) (n := 440) ht0 kt0 0 rfl (by decide) (by rw [lt0]; rfl) (by decide); rw [← etb, e9]; exact ⟨z1, z2, z3⟩
  obtain ⟨hfa, kfa, lfa⟩ : fa ∈ L ∧ h.1 fa = 403 ∧ h.2.1 fa = 12 := by obtain ⟨r9, e9, z1, z2, z3⟩ := hV.refn (t := 403) (n := 12) hx0 kx0 9 rfl (by decide) rfl (by decide); rw [← efa, e9]; exact ⟨z1, z2, z3⟩
  have hT : ty_T (q.2.2.2.1 tb) (q.2.2.2.1 m1) (q.1 t0 1).toInt.toNat := by rw [xm1]; exact hT0
  have hR : lc_R h fa m44 x0 q := by rw [xm44]; exact hR0
  have gx14 : (0 : Int) ≤ (q.1 x0 14).toInt ∧ (q.1 x0 14).toInt ≤ 12 := hV.int hx0 kx0 14
  have gt1 : (0 : Int) ≤ (q.1 t0 1).toInt ∧ (q.1 t0 1).toInt ≤ 440 := by have z9 := hV.int ht0 kt0 1; rw [etb, ltb] at z9; exact z9
  obtain ⟨huu, kuu⟩ : uu ∈ L ∧ h.1 uu = 9 := by obtain ⟨r9, e9, z1, z2⟩ := hV.ref (t := 9) hx0 kx0 11 rfl (by decide); rw [← euu, e9]; exact ⟨z1, z2⟩
  obtain ⟨hsu, ksu⟩ : su ∈ L ∧ h.1 su = 9 := by obtain ⟨r9, e9, z1, z2⟩ := hV.ref (t := 9) hx0 kx0 12 rfl (by decide); rw [← esu, e9]; exact ⟨z1, z2⟩
  have nuu_su : ¬ uu = su := hdz.1
  obtain ⟨uc, euc⟩ : ∃ z, q.2.2.1 uu 1 = z := ⟨_, rfl⟩
  obtain ⟨huc, kuc, luc⟩ : uc ∈ L ∧ h.1 uc = 101 ∧ h.2.1 uc = 3 := by obtain ⟨r9, e9, z1, z2, z3⟩ := hV.refn (t := 101) (n := 3) huu kuu 1 rfl (by decide) rfl (by decide); rw [← euc, e9]; exact ⟨z1, z2, z3⟩
  obtain ⟨un, eun⟩ : ∃ z, q.2.2.1 uu 2 = z := ⟨_, rfl⟩
  obtain ⟨hun, kun, lun⟩ : un ∈ L ∧ h.1 un = 202 ∧ h.2.1 un = 15 := by obtain ⟨r9, e9, z1, z2, z3⟩ := hV.refn (t := 202) (n := 15) huu kuu 2 rfl (by decide) rfl (by decide); rw [← eun, e9]; exact ⟨z1, z2, z3⟩
  obtain ⟨uf, euf⟩ : ∃ z, q.2.2.1 uu 3 = z := ⟨_, rfl⟩
  obtain ⟨huf, kuf, luf⟩ : uf ∈ L ∧ h.1 uf = 102 ∧ h.2.1 uf = 15 := by obtain ⟨r9, e9, z1, z2, z3⟩ := hV.refn (t := 102) (n := 15) huu kuu 3 rfl (by decide) rfl (by decide); rw [← euf, e9]; exact ⟨z1, z2, z3⟩
  obtain ⟨uw, euw⟩ : ∃ z, q.2.2.1 uu 4 = z := ⟨_, rfl⟩
  obtain ⟨huw, kuw, luw⟩ : uw ∈ L ∧ h.1 uw = 103 ∧ h.2.1 uw = 15 := by obtain ⟨r9, e9, z1, z2, z3⟩ := hV.refn (t := 103) (n := 15) huu kuu 4 rfl (by decide) rfl (by decide); rw [← euw, e9]; exact ⟨z1, z2, z3⟩
  have hu : lc_u8 (q.1 uu 6) (q.1 a0 20) (q.2.2.2.1 uc) (q.2.2.2.1 m18) (q.2.2.2.1 uf) (q.2.2.2.1 m19) (q.2.2.2.1 uw) (q.2.2.2.2 un) (q.2.2.2.2 m17) := by rw [← euc, ← euf, ← euw, ← eun, xm17, xm18, xm19]; exact hu0
  obtain ⟨ho0, ko0, lo0⟩ : o0 ∈ L ∧ h.1 o0 = 7 ∧ h.2.1 o0 = 2 := by obtain ⟨r9, e9, z1, z2, z3⟩ := hV.refn (t := 7) (n := 2) hx0 kx0 1 rfl (by decide) rfl (by decide); rw [← eo0, e9]; exact ⟨z1, z2, z3⟩
  obtain ⟨hob, kob, lob⟩ : ob ∈ L ∧ h.1 ob = 300 ∧ h.2.1 ob = 59 := by obtain ⟨r9, e9, z1, z2, z3⟩ := hV.refn (t := 300) (n := 59) ho0 ko0 0 rfl (by decide) (by rw [lo0]; rfl) (by decide); rw [← eob, e9]; exact ⟨z1, z2, z3⟩
  have nt0_o0 : ¬ t0 = o0 := fun z9 => absurd (z9 ▸ lt0 : h.2.1 o0 = 1) (by rw [lo0]; decide)
  have ntb_ob : ¬ tb = ob := fun z9 => absurd (z9 ▸ ltb : h.2.1 ob = 440) (by rw [lob]; decide)
  have hout : lc_o (q.1 o0 1) (q.1 a0 22) (q.2.2.2.1 ob) (q.2.2.2.1 m21) := by rw [xm21]; exact hout0
  refine wa_aload_n B dL_law_247 rfl 3 rfl ?_
  refine wa_callVi B (x := (RX11, TX11, 16)) (As := []) (rest := []) (k_X11_fault l dC dI h L hN q hV (a0 := x0) hx0 kx0  ) (cwV 0 B.1.2.2.2.2 gL_law_X11_fault rfl rfl rfl (by decide +kernel) ⟨Nat.le_of_ble_eq_true rfl, Nat.le_of_ble_eq_true rfl⟩) hx0 kx0 (by decide) rfl rfl rfl (Nat.le_of_ble_eq_true rfl) dL_law_248 (fun r_2 q_1 w_3 => ?_)
  subst w_3
  refine wa_pop B dL_law_251 rfl ?_
  refine wa_aload_n B dL_law_252 rfl 2 rfl ?_
  refine wa_callVi B (x := (RX12, TX12, 51)) (As := []) (rest := []) (k_X12_fault l dC dI h L hN q hV (a0 := a0) ha0 ka0  ) (cwV 0 B.1.2.2.2.2 gL_law_X12_fault rfl rfl rfl (by decide +kernel) ⟨Nat.le_of_ble_eq_true rfl, Nat.le_of_ble_eq_true rfl⟩) ha0 ka0 (by decide) rfl rfl rfl (Nat.le_of_ble_eq_true rfl) dL_law_253 (fun r_5 q_4 w_6 => ?_)
  obtain ⟨hV_q_4, h2_q_4, h3_q_4⟩ := w_6
  have mN_q_4 : mv_N a0 q_4 := mv_N.eq (h3_q_4.1 8 (by decide)) (h3_q_4.2 11 (by decide)) mN
  have mF_q_4 : mv_F m18 m19 q_4 := mv_F.eq (h2_q_4.G hm18 (show ¬ (h.1 m18 = 12) from (fun z => absurd (z.symm.trans km18) (by decide))) (by rw [km18]; decide)) (h2_q_4.G hm19 (show ¬ (h.1 m19 = 12) from (fun z => absurd (z.symm.trans km19) (by decide))) (by rw [km19]; decide)) mF
  have mU_q_4 : mv_U m17 q_4 := mv_U.eq (h2_q_4.Lg hm17 (show ¬ (h.1 m17 = 12) from (fun z => absurd (z.symm.trans km17) (by decide))) (by rw [km17]; decide)) mU
  have mS_q_4 : mv_S m23 m26 m28 m29 q_4 := mv_S.eq (h2_q_4.G hm23 (show ¬ (h.1 m23 = 12) from (fun z => absurd (z.symm.trans km23) (by decide))) (by rw [km23]; decide)) (h2_q_4.G hm26 (show ¬ (h.1 m26 = 12) from (fun z => absurd (z.symm.trans km26) (by decide))) (by rw [km26]; decide)) (h2_q_4.G hm28 (show ¬ (h.1 m28 = 12) from (fun z => absurd (z.symm.trans km28) (by decide))) (by rw [km28]; decide)) (h2_q_4.G hm29 (show ¬ (h.1 m29 = 12) from (fun z => absurd (z.symm.trans km29) (by decide))) (by rw [km29]; decide)) mS
  have mL_q_4 : mv_L m40 m41 m44 a0 q_4 := mv_L.eq (h2_q_4.G hm40 (show ¬ (h.1 m40 = 12) from (fun z => absurd (z.symm.trans km40) (by decide))) (by rw [km40]; decide)) (h2_q_4.G hm41 (show ¬ (h.1 m41 = 12) from (fun z => absurd (z.symm.trans km41) (by decide))) (by rw [km41]; decide)) (h2_q_4.G hm44 (show ¬ (h.1 m44 = 12) from (fun z => absurd (z.symm.trans km44) (by decide))) (by rw [km44]; decide)) (h3_q_4.1 45 (by decide)) mL
  refine wa_pop B dL_law_256 rfl ?_
  refine wa_goto B 775 dL_law_257 (by decide) ?_
  have z_7 : q_4.1 a0 2 = q.1 a0 2 := h3_q_4.1 2 (by decide)
  have y_8 : (q_4.1 a0 2).toInt = (q.1 a0 2).toInt := by rw [z_7]
  have z_9 : q_4.1 a0 45 = q.1 a0 45 := h3_q_4.1 45 (by decide)
  have y_10 : (q_4.1 a0 45).toInt = (q.1 a0 45).toInt := by rw [z_9]
  have z_11 : q_4.1 t0 1 = q.1 t0 1 := h2_q_4.I ht0 (show ¬ (h.1 t0 = 12) from (fun z => absurd (z.symm.trans kt0) (by decide))) 1
  have y_12 : (q_4.1 t0 1).toInt = (q.1 t0 1).toInt := by rw [z_11]
  have z_13 : q_4.1 x0 14 = q.1 x0 14 := h2_q_4.I hx0 (show ¬ (h.1 x0 = 12) from (fun z => absurd (z.symm.trans kx0) (by decide))) 14
  have y_14 : (q_4.1 x0 14).toInt = (q.1 x0 14).toInt := by rw [z_13]
  have z_15 : q_4.2.2.1 x0 0 = t0 := (h2_q_4.R hx0 (show ¬ ((h.1 x0 = 12) ∧ (h.1 x0 = 8 ∨ h.1 x0 = 11)) from fun z9 => (show ¬ (h.1 x0 = 12) from (fun z => absurd (z.symm.trans kx0) (by decide))) z9.1) 0).trans (et0)
  have z_16 : q_4.2.2.1 t0 0 = tb := (h2_q_4.R ht0 (fun z9 => absurd z9.2 (by omega)) 0).trans (etb)
  have z_17 : q_4.2.2.1 x0 9 = fa := (h2_q_4.R hx0 (show ¬ ((h.1 x0 = 12) ∧ (h.1 x0 = 8 ∨ h.1 x0 = 11)) from fun z9 => (show ¬ (h.1 x0 = 12) from (fun z => absurd (z.symm.trans kx0) (by decide))) z9.1) 9).trans (efa)
  have z_18 : q_4.2.2.2.1 tb = q.2.2.2.1 tb := h2_q_4.G htb (show ¬ (h.1 tb = 12) from (fun z => absurd (z.symm.trans ktb) (by decide))) (by rw [ktb]; decide)
  have z_19 : q_4.2.2.2.1 m1 = q.2.2.2.1 m1 := h2_q_4.G hm1 (show ¬ (h.1 m1 = 12) from (fun z => absurd (z.symm.trans km1) (by decide))) (by rw [km1]; decide)
  have hT9 : ty_T (q_4.2.2.2.1 tb) (q_4.2.2.2.1 m1) (q_4.1 t0 1).toInt.toNat := by rw [z_18, z_19]; exact hT.le (by omega)
  have z_20 : q_4.2.2.2.1 m44 = q.2.2.2.1 m44 := h2_q_4.G hm44 (show ¬ (h.1 m44 = 12) from (fun z => absurd (z.symm.trans km44) (by decide))) (by rw [km44]; decide)
  have hR9 : lc_R h fa m44 x0 q_4 := by
    intro f hf
    obtain ⟨e9, ee9, he9, ke9⟩ := hV.elem (t := 0) hfa kfa (by decide) rfl (j := f) (by omega)
    rw [ee9, show q_4.1 e9 3 = q.1 e9 3 from h2_q_4.I he9 (show ¬ (h.1 e9 = 12) from by omega) 3, ← ee9, z_20]
    exact hR f (by omega)
  have hR_uu : q_4.2.2.1 uu = q.2.2.1 uu := by rw [show q_4.2.2.1 uu = q.2.2.1 uu from h2_q_4.2 uu huu (fun z9 => absurd z9.2 (by rw [kuu]; decide))]
  have hR_su : q_4.2.2.1 su = q.2.2.1 su := by rw [show q_4.2.2.1 su = q.2.2.1 su from h2_q_4.2 su hsu (fun z9 => absurd z9.2 (by rw [ksu]; decide))]
  have z_21 : q_4.1 o0 1 = q.1 o0 1 := h2_q_4.I ho0 (show ¬ (h.1 o0 = 12) from (fun z => absurd (z.symm.trans ko0) (by decide))) 1
  have z_22 : q_4.1 a0 22 = q.1 a0 22 := h3_q_4.1 22 (by decide)
  have z_23 : q_4.2.2.2.1 ob = q.2.2.2.1 ob := h2_q_4.G hob (show ¬ (h.1 ob = 12) from (fun z => absurd (z.symm.trans kob) (by decide))) (by rw [kob]; decide)
  have z_24 : q_4.2.2.2.1 m21 = q.2.2.2.1 m21 := h2_q_4.G hm21 (show ¬ (h.1 m21 = 12) from (fun z => absurd (z.symm.trans km21) (by decide))) (by rw [km21]; decide)
  have hout9 : lc_o (q_4.1 o0 1) (q_4.1 a0 22) (q_4.2.2.2.1 ob) (q_4.2.2.2.1 (mm 21)) := by rw [← xm21, z_21, z_22, z_23, z_24]; exact hout
  have z_25 : q_4.2.2.1 x0 1 = o0 := (h2_q_4.R hx0 (show ¬ ((h.1 x0 = 12) ∧ (h.1 x0 = 8 ∨ h.1 x0 = 11)) from fun z9 => (show ¬ (h.1 x0 = 12) from (fun z => absurd (z.symm.trans kx0) (by decide))) z9.1) 1).trans (eo0)
  have z_26 : q_4.2.2.1 o0 0 = ob := (h2_q_4.R ho0 (fun z9 => absurd z9.2 (by omega)) 0).trans (eob)
  have z_27 : q_4.1 uu 6 = q.1 uu 6 := h2_q_4.I huu (show ¬ (h.1 uu = 12) from (fun z => absurd (z.symm.trans kuu) (by decide))) 6
  have z_28 : q_4.1 a0 20 = q.1 a0 20 := h3_q_4.1 20 (by decide)
  have z_29 : q_4.2.2.2.1 uc = q.2.2.2.1 uc := h2_q_4.G huc (show ¬ (h.1 uc = 12) from (fun z => absurd (z.symm.trans kuc) (by decide))) (by rw [kuc]; decide)
  have z_30 : q_4.2.2.2.1 m18 = q.2.2.2.1 m18 := h2_q_4.G hm18 (show ¬ (h.1 m18 = 12) from (fun z => absurd (z.symm.trans km18) (by decide))) (by rw [km18]; decide)
  have z_31 : q_4.2.2.2.1 uf = q.2.2.2.1 uf := h2_q_4.G huf (show ¬ (h.1 uf = 12) from (fun z => absurd (z.symm.trans kuf) (by decide))) (by rw [kuf]; decide)
  have z_32 : q_4.2.2.2.1 m19 = q.2.2.2.1 m19 := h2_q_4.G hm19 (show ¬ (h.1 m19 = 12) from (fun z => absurd (z.symm.trans km19) (by decide))) (by rw [km19]; decide)
  have z_33 : q_4.2.2.2.1 uw = q.2.2.2.1 uw := h2_q_4.G huw (show ¬ (h.1 uw = 12) from (fun z => absurd (z.symm.trans kuw) (by decide))) (by rw [kuw]; decide)
  have z_34 : q_4.2.2.2.2 un = q.2.2.2.2 un := h2_q_4.Lg hun (show ¬ (h.1 un = 12) from (fun z => absurd (z.symm.trans kun) (by decide))) (by rw [kun]; decide)
  have z_35 : q_4.2.2.2.2 m17 = q.2.2.2.2 m17 := h2_q_4.Lg hm17 (show ¬ (h.1 m17 = 12) from (fun z => absurd (z.symm.trans km17) (by decide))) (by rw [km17]; decide)
  have hu9 : lc_uq8 q_4 a0 uu (mm 17) (mm 18) (mm 19) := by unfold lc_uq8; rw [← xm17, ← xm18, ← xm19, hR_uu, euc, euf, euw, eun, z_27, z_28, z_29, z_30, z_31, z_32, z_33, z_34, z_35]; exact hu
  have z_36 : q_4.2.2.1 x0 11 = uu := (h2_q_4.R hx0 (show ¬ ((h.1 x0 = 12) ∧ (h.1 x0 = 8 ∨ h.1 x0 = 11)) from fun z9 => (show ¬ (h.1 x0 = 12) from (fun z => absurd (z.symm.trans kx0) (by decide))) z9.1) 11).trans (euu)
  have z_37 : q_4.2.2.1 x0 12 = su := (h2_q_4.R hx0 (show ¬ ((h.1 x0 = 12) ∧ (h.1 x0 = 8 ∨ h.1 x0 = 11)) from fun z9 => (show ¬ (h.1 x0 = 12) from (fun z => absurd (z.symm.trans kx0) (by decide))) z9.1) 12).trans (esu)
  exact hcont _ _ (Or.inl rfl) ⟨⟨⟨hV_q_4, mN_q_4, by rw [← xm18, ← xm19]; exact mF_q_4, by rw [← xm17]; exact mU_q_4, by rw [← xm23, ← xm26, ← xm28, ← xm29]; exact mS_q_4, by rw [← xm40, ← xm41, ← xm44]; exact mL_q_4, z_15, fun k hk => by rw [show q_4.2.2.1 a0 = q.2.2.1 a0 from h2_q_4.2 a0 ha0 (fun z9 => absurd z9.2 (by omega))]; exact em k hk, by omega, by omega⟩, z_16, z_17, by rw [← xm1]; exact hT9, by rw [← xm44]; exact hR9⟩, uu, su, o0, ob, z_36, z_37, hdz.eq hR_uu hR_su, hu9, ⟨z_25, z_26⟩, hout9⟩
set_option maxHeartbeats 4000000 in
set_option maxRecDepth 100000 in
theorem lc6_260 (l : Launch) (hlst : l.stackTraces = false) {Z : Zt} (dC : Nat → ClassId) (dI : Nat → Nat → Nat) (h : Sh) (L : List Nat) (hN : sx_nd L) (B : BX dC dI h L 7 cL_law RL wsL_law Z) {b N : Nat} {xs : Nat → Int32} (hX : va_X b N xs Z.2.2.1 Z.2.2.1.heap) (hbl : b < Z.2.2.1.heap.size) (hbA : ¬ AL L Z.2.2.1.heap.size b) {x0 a0 ot t0 tb fa : Nat} (hfd : lc_fd h fa) {mm : Nat → Nat} (hx0 : x0 ∈ L) (kx0 : h.1 x0 = 11) (ha0 : a0 ∈ L) (ka0 : h.1 a0 = 12) (hot : ot ∈ L) (kot : h.1 ot = 200) (lot : h.2.1 ot = 1) {i : Int32} (hi0 : 0 ≤ i.toInt) (hi1 : i.toInt + 6 ≤ (N : Int)) (hN2 : N ≤ 3072) (hroom : (zl_more Z).2.2.2.2.2.2.2.2.2.1 ≤ room_1.cells ∧ (zl_more Z).2.2.2.2.2.2.2.2.2.2 ≤ room_1.slots) {q : Sg} (hI : lc_I8 h L x0 a0 t0 tb fa mm q) (hcont : ∀ (Z2 : Zt) (q2 : Sg), (Z2 = Z ∨ Z2 = zl_more Z) → lc_I8 h L x0 a0 t0 tb fa mm q2 → WA l dC dI h L room_1 7 Z2 q2 775 [(4, .int i), (3, .ref ot), (2, .ref a0), (1, .ref x0), (0, .ref b)] []) : WA l dC dI h L room_1 7 Z q 260 [(4, .int i), (3, .ref ot), (2, .ref a0), (1, .ref x0), (0, .ref b)] [] := by
  obtain ⟨hI, uu, su, o0, ob, euu, esu, hdz, hu0, ⟨eo0, eob⟩, hout0⟩ := hI
  obtain ⟨hI, etb, efa, hT0, hR0⟩ := hI
  obtain ⟨hV, mN, mF0, mU0, mS0, mL0, et0, em, hte, hfe⟩ := hI
  obtain ⟨ht0, kt0, lt0⟩ : t0 ∈ L ∧ h.1 t0 = 7 ∧ h.2.1 t0 = 1 := by obtain ⟨r9, e9, z1, z2, z3⟩ := hV.refn (t := 7) (n := 1) hx0 kx0 0 rfl (by decide) rfl (by decide); rw [← et0, e9]; exact ⟨z1, z2, z3⟩
  obtain ⟨m1, xm1⟩ : ∃ z, z = mm 1 := ⟨_, rfl⟩
  have em1 : q.2.2.1 a0 1 = m1 := by rw [xm1]; exact em 1 (by decide)
  obtain ⟨hm1, km1, lm1⟩ : m1 ∈ L ∧ h.1 m1 = 111 ∧ h.2.1 m1 = 440 := by obtain ⟨r9, e9, z1, z2, z3⟩ := hV.refn (t := 111) (n := 440) ha0 ka0 1 rfl (by decide) rfl (by decide); rw [← em1, e9]; exact ⟨z1, z2, z3⟩
  obtain ⟨m3, xm3⟩ : ∃ z, z = mm 3 := ⟨_, rfl⟩
  have em3 : q.2.2.1 a0 3 = m3 := by rw [xm3]; exact em 3 (by decide)
  obtain ⟨hm3, km3, lm3⟩ : m3 ∈ L ∧ h.1 m3 = 113 ∧ h.2.1 m3 = 500 := by obtain ⟨r9, e9, z1, z2, z3⟩ := hV.refn (t := 113) (n := 500) ha0 ka0 3 rfl (by decide) rfl (by decide); rw [← em3, e9]; exact ⟨z1, z2, z3⟩
  obtain ⟨m16, xm16⟩ : ∃ z, z = mm 16 := ⟨_, rfl⟩
  have em16 : q.2.2.1 a0 16 = m16 := by rw [xm16]; exact em 16 (by decide)
  obtain ⟨hm16, km16, lm16⟩ : m16 ∈ L ∧ h.1 m16 = 226 ∧ h.2.1 m16 = 6 := by obtain ⟨r9, e9, z1, z2, z3⟩ := hV.refn (t := 226) (n := 6) ha0 ka0 16 rfl (by decide) rfl (by decide); rw [← em16, e9]; exact ⟨z1, z2, z3⟩
  obtain ⟨m17, xm17⟩ : ∃ z, z = mm 17 := ⟨_, rfl⟩
  have em17 : q.2.2.1 a0 17 = m17 := by rw [xm17]; exact em 17 (by decide)
  obtain ⟨hm17, km17, lm17⟩ : m17 ∈ L ∧ h.1 m17 = 227 ∧ h.2.1 m17 = 30 := by obtain ⟨r9, e9, z1, z2, z3⟩ := hV.refn (t := 227) (n := 30) ha0 ka0 17 rfl (by decide) rfl (by decide); rw [← em17, e9]; exact ⟨z1, z2, z3⟩
  obtain ⟨m18, xm18⟩ : ∃ z, z = mm 18 := ⟨_, rfl⟩
  have em18 : q.2.2.1 a0 18 = m18 := by rw [xm18]; exact em 18 (by decide)
  obtain ⟨hm18, km18, lm18⟩ : m18 ∈ L ∧ h.1 m18 = 128 ∧ h.2.1 m18 = 6 := by obtain ⟨r9, e9, z1, z2, z3⟩ := hV.refn (t := 128) (n := 6) ha0 ka0 18 rfl (by decide) rfl (by decide); rw [← em18, e9]; exact ⟨z1, z2, z3⟩
  obtain ⟨m19, xm19⟩ : ∃ z, z = mm 19 := ⟨_, rfl⟩
  have em19 : q.2.2.1 a0 19 = m19 := by rw [xm19]; exact em 19 (by decide)
  obtain ⟨hm19, km19, lm19⟩ : m19 ∈ L ∧ h.1 m19 = 129 ∧ h.2.1 m19 = 30 := by obtain ⟨r9, e9, z1, z2, z3⟩ := hV.refn (t := 129) (n := 30) ha0 ka0 19 rfl (by decide) rfl (by decide); rw [← em19, e9]; exact ⟨z1, z2, z3⟩
  obtain ⟨m21, xm21⟩ : ∃ z, z = mm 21 := ⟨_, rfl⟩
  have em21 : q.2.2.1 a0 21 = m21 := by rw [xm21]; exact em 21 (by decide)
  obtain ⟨hm21, km21, lm21⟩ : m21 ∈ L ∧ h.1 m21 = 131 ∧ h.2.1 m21 = 80 := by obtain ⟨r9, e9, z1, z2, z3⟩ := hV.refn (t := 131) (n := 80) ha0 ka0 21 rfl (by decide) rfl (by decide); rw [← em21, e9]; exact ⟨z1, z2, z3⟩
  obtain ⟨m23, xm23⟩ : ∃ z, z = mm 23 := ⟨_, rfl⟩
  have em23 : q.2.2.1 a0 23 = m23 := by rw [xm23]; exact em 23 (by decide)
  obtain ⟨hm23, km23, lm23⟩ : m23 ∈ L ∧ h.1 m23 = 133 ∧ h.2.1 m23 = 9 := by obtain ⟨r9, e9, z1, z2, z3⟩ := hV.refn (t := 133) (n := 9) ha0 ka0 23 rfl (by decide) rfl (by decide); rw [← em23, e9]; exact ⟨z1, z2, z3⟩
  obtain ⟨m24, xm24⟩ : ∃ z, z = mm 24 := ⟨_, rfl⟩
  have em24 : q.2.2.1 a0 24 = m24 := by rw [xm24]; exact em 24 (by decide)
  obtain ⟨hm24, km24, lm24⟩ : m24 ∈ L ∧ h.1 m24 = 134 ∧ h.2.1 m24 = 108 := by obtain ⟨r9, e9, z1, z2, z3⟩ := hV.refn (t := 134) (n := 108) ha0 ka0 24 rfl (by decide) rfl (by decide); rw [← em24, e9]; exact ⟨z1, z2, z3⟩
  obtain ⟨m25, xm25⟩ : ∃ z, z = mm 25 := ⟨_, rfl⟩
  have em25 : q.2.2.1 a0 25 = m25 := by rw [xm25]; exact em 25 (by decide)
  obtain ⟨hm25, km25, lm25⟩ : m25 ∈ L ∧ h.1 m25 = 135 ∧ h.2.1 m25 = 108 := by obtain ⟨r9, e9, z1, z2, z3⟩ := hV.refn (t := 135) (n := 108) ha0 ka0 25 rfl (by decide) rfl (by decide); rw [← em25, e9]; exact ⟨z1, z2, z3⟩
  obtain ⟨m26, xm26⟩ : ∃ z, z = mm 26 := ⟨_, rfl⟩
  have em26 : q.2.2.1 a0 26 = m26 := by rw [xm26]; exact em 26 (by decide)
  obtain ⟨hm26, km26, lm26⟩ : m26 ∈ L ∧ h.1 m26 = 136 ∧ h.2.1 m26 = 108 := by obtain ⟨r9, e9, z1, z2, z3⟩ := hV.refn (t := 136) (n := 108) ha0 ka0 26 rfl (by decide) rfl (by decide); rw [← em26, e9]; exact ⟨z1, z2, z3⟩
  obtain ⟨m27, xm27⟩ : ∃ z, z = mm 27 := ⟨_, rfl⟩
  have em27 : q.2.2.1 a0 27 = m27 := by rw [xm27]; exact em 27 (by decide)
  obtain ⟨hm27, km27, lm27⟩ : m27 ∈ L ∧ h.1 m27 = 137 ∧ h.2.1 m27 = 9 := by obtain ⟨r9, e9, z1, z2, z3⟩ := hV.refn (t := 137) (n := 9) ha0 ka0 27 rfl (by decide) rfl (by decide); rw [← em27, e9]; exact ⟨z1, z2, z3⟩
  obtain ⟨m28, xm28⟩ : ∃ z, z = mm 28 := ⟨_, rfl⟩
  have em28 : q.2.2.1 a0 28 = m28 := by rw [xm28]; exact em 28 (by decide)
  obtain ⟨hm28, km28, lm28⟩ : m28 ∈ L ∧ h.1 m28 = 138 ∧ h.2.1 m28 = 540 := by obtain ⟨r9, e9, z1, z2, z3⟩ := hV.refn (t := 138) (n := 540) ha0 ka0 28 rfl (by decide) rfl (by decide); rw [← em28, e9]; exact ⟨z1, z2, z3⟩
  obtain ⟨m29, xm29⟩ : ∃ z, z = mm 29 := ⟨_, rfl⟩
  have em29 : q.2.2.1 a0 29 = m29 := by rw [xm29]; exact em 29 (by decide)
  obtain ⟨hm29, km29, lm29⟩ : m29 ∈ L ∧ h.1 m29 = 139 ∧ h.2.1 m29 = 540 := by obtain ⟨r9, e9, z1, z2, z3⟩ := hV.refn (t := 139) (n := 540) ha0 ka0 29 rfl (by decide) rfl (by decide); rw [← em29, e9]; exact ⟨z1, z2, z3⟩
  obtain ⟨m30, xm30⟩ : ∃ z, z = mm 30 := ⟨_, rfl⟩
  have em30 : q.2.2.1 a0 30 = m30 := by rw [xm30]; exact em 30 (by decide)
  obtain ⟨hm30, km30, lm30⟩ : m30 ∈ L ∧ h.1 m30 = 140 ∧ h.2.1 m30 = 540 := by obtain ⟨r9, e9, z1, z2, z3⟩ := hV.refn (t := 140) (n := 540) ha0 ka0 30 rfl (by decide) rfl (by decide); rw [← em30, e9]; exact ⟨z1, z2, z3⟩
  obtain ⟨m34, xm34⟩ : ∃ z, z = mm 34 := ⟨_, rfl⟩
  have em34 : q.2.2.1 a0 34 = m34 := by rw [xm34]; exact em 34 (by decide)
  obtain ⟨hm34, km34, lm34⟩ : m34 ∈ L ∧ h.1 m34 = 144 ∧ h.2.1 m34 = 4 := by obtain ⟨r9, e9, z1, z2, z3⟩ := hV.refn (t := 144) (n := 4) ha0 ka0 34 rfl (by decide) rfl (by decide); rw [← em34, e9]; exact ⟨z1, z2, z3⟩
  obtain ⟨m35, xm35⟩ : ∃ z, z = mm 35 := ⟨_, rfl⟩
  have em35 : q.2.2.1 a0 35 = m35 := by rw [xm35]; exact em 35 (by decide)
  obtain ⟨hm35, km35, lm35⟩ : m35 ∈ L ∧ h.1 m35 = 245 ∧ h.2.1 m35 = 12 := by obtain ⟨r9, e9, z1, z2, z3⟩ := hV.refn (t := 245) (n := 12) ha0 ka0 35 rfl (by decide) rfl (by decide); rw [← em35, e9]; exact ⟨z1, z2, z3⟩
  obtain ⟨m40, xm40⟩ : ∃ z, z = mm 40 := ⟨_, rfl⟩
  have em40 : q.2.2.1 a0 40 = m40 := by rw [xm40]; exact em 40 (by decide)
  obtain ⟨hm40, km40, lm40⟩ : m40 ∈ L ∧ h.1 m40 = 150 ∧ h.2.1 m40 = 2400 := by obtain ⟨r9, e9, z1, z2, z3⟩ := hV.refn (t := 150) (n := 2400) ha0 ka0 40 rfl (by decide) rfl (by decide); rw [← em40, e9]; exact ⟨z1, z2, z3⟩
  obtain ⟨m41, xm41⟩ : ∃ z, z = mm 41 := ⟨_, rfl⟩
  have em41 : q.2.2.1 a0 41 = m41 := by rw [xm41]; exact em 41 (by decide)
  obtain ⟨hm41, km41, lm41⟩ : m41 ∈ L ∧ h.1 m41 = 151 ∧ h.2.1 m41 = 12 := by obtain ⟨r9, e9, z1, z2, z3⟩ := hV.refn (t := 151) (n := 12) ha0 ka0 41 rfl (by decide) rfl (by decide); rw [← em41, e9]; exact ⟨z1, z2, z3⟩
  obtain ⟨m42, xm42⟩ : ∃ z, z = mm 42 := ⟨_, rfl⟩
  have em42 : q.2.2.1 a0 42 = m42 := by rw [xm42]; exact em 42 (by decide)
  obtain ⟨hm42, km42, lm42⟩ : m42 ∈ L ∧ h.1 m42 = 152 ∧ h.2.1 m42 = 12 := by obtain ⟨r9, e9, z1, z2, z3⟩ := hV.refn (t := 152) (n := 12) ha0 ka0 42 rfl (by decide) rfl (by decide); rw [← em42, e9]; exact ⟨z1, z2, z3⟩
  obtain ⟨m43, xm43⟩ : ∃ z, z = mm 43 := ⟨_, rfl⟩
  have em43 : q.2.2.1 a0 43 = m43 := by rw [xm43]; exact em 43 (by decide)
  obtain ⟨hm43, km43, lm43⟩ : m43 ∈ L ∧ h.1 m43 = 153 ∧ h.2.1 m43 = 12 := by obtain ⟨r9, e9, z1, z2, z3⟩ := hV.refn (t := 153) (n := 12) ha0 ka0 43 rfl (by decide) rfl (by decide); rw [← em43, e9]; exact ⟨z1, z2, z3⟩
  obtain ⟨m44, xm44⟩ : ∃ z, z = mm 44 := ⟨_, rfl⟩
  have em44 : q.2.2.1 a0 44 = m44 := by rw [xm44]; exact em 44 (by decide)
  obtain ⟨hm44, km44, lm44⟩ : m44 ∈ L ∧ h.1 m44 = 154 ∧ h.2.1 m44 = 12 := by obtain ⟨r9, e9, z1, z2, z3⟩ := hV.refn (t := 154) (n := 12) ha0 ka0 44 rfl (by decide) rfl (by decide); rw [← em44, e9]; exact ⟨z1, z2, z3⟩
  obtain ⟨m46, xm46⟩ : ∃ z, z = mm 46 := ⟨_, rfl⟩
  have em46 : q.2.2.1 a0 46 = m46 := by rw [xm46]; exact em 46 (by decide)
  obtain ⟨hm46, km46, lm46⟩ : m46 ∈ L ∧ h.1 m46 = 156 ∧ h.2.1 m46 = 144 := by obtain ⟨r9, e9, z1, z2, z3⟩ := hV.refn (t := 156) (n := 144) ha0 ka0 46 rfl (by decide) rfl (by decide); rw [← em46, e9]; exact ⟨z1, z2, z3⟩
  obtain ⟨m47, xm47⟩ : ∃ z, z = mm 47 := ⟨_, rfl⟩
  have em47 : q.2.2.1 a0 47 = m47 := by rw [xm47]; exact em 47 (by decide)
  obtain ⟨hm47, km47, lm47⟩ : m47 ∈ L ∧ h.1 m47 = 157 ∧ h.2.1 m47 = 4096 := by obtain ⟨r9, e9, z1, z2, z3⟩ := hV.refn (t := 157) (n := 4096) ha0 ka0 47 rfl (by decide) rfl (by decide); rw [← em47, e9]; exact ⟨z1, z2, z3⟩
  obtain ⟨m48, xm48⟩ : ∃ z, z = mm 48 := ⟨_, rfl⟩
  have em48 : q.2.2.1 a0 48 = m48 := by rw [xm48]; exact em 48 (by decide)
  obtain ⟨hm48, km48, lm48⟩ : m48 ∈ L ∧ h.1 m48 = 158 ∧ h.2.1 m48 = 12 := by obtain ⟨r9, e9, z1, z2, z3⟩ := hV.refn (t := 158) (n := 12) ha0 ka0 48 rfl (by decide) rfl (by decide); rw [← em48, e9]; exact ⟨z1, z2, z3⟩
  have mF : mv_F m18 m19 q := by rw [xm18, xm19]; exact mF0
  have mU : mv_U m17 q := by rw [xm17]; exact mU0
  have mS : mv_S m23 m26 m28 m29 q := by rw [xm23, xm26, xm28, xm29]; exact mS0
  have mL : mv_L m40 m41 m44 a0 q := by rw [xm40, xm41, xm44]; exact mL0
  have hF : sx_fr h L (fun _ => True) q q := sx_fr.rf
  obtain ⟨htb, ktb, ltb⟩ : tb ∈ L ∧ h.1 tb = 300 ∧ h.2.1 tb = 440 := by obtain ⟨r9, e9, z1, z2, z3⟩ := hV.refn (t := 300) (n := 440) ht0 kt0 0 rfl (by decide) (by rw [lt0]; rfl) (by decide); rw [← etb, e9]; exact ⟨z1, z2, z3⟩
  obtain ⟨hfa, kfa, lfa⟩ : fa ∈ L ∧ h.1 fa = 403 ∧ h.2.1 fa = 12 := by obtain ⟨r9, e9, z1, z2, z3⟩ := hV.refn (t := 403) (n := 12) hx0 kx0 9 rfl (by decide) rfl (by decide); rw [← efa, e9]; exact ⟨z1, z2, z3⟩
  have hT : ty_T (q.2.2.2.1 tb) (q.2.2.2.1 m1) (q.1 t0 1).toInt.toNat := by rw [xm1]; exact hT0
  have hR : lc_R h fa m44 x0 q := by rw [xm44]; exact hR0
  have gx14 : (0 : Int) ≤ (q.1 x0 14).toInt ∧ (q.1 x0 14).toInt ≤ 12 := hV.int hx0 kx0 14
  have gt1 : (0 : Int) ≤ (q.1 t0 1).toInt ∧ (q.1 t0 1).toInt ≤ 440 := by have z9 := hV.int ht0 kt0 1; rw [etb, ltb] at z9; exact z9
  obtain ⟨huu, kuu⟩ : uu ∈ L ∧ h.1 uu = 9 := by obtain ⟨r9, e9, z1, z2⟩ := hV.ref (t := 9) hx0 kx0 11 rfl (by decide); rw [← euu, e9]; exact ⟨z1, z2⟩
  obtain ⟨hsu, ksu⟩ : su ∈ L ∧ h.1 su = 9 := by obtain ⟨r9, e9, z1, z2⟩ := hV.ref (t := 9) hx0 kx0 12 rfl (by decide); rw [← esu, e9]; exact ⟨z1, z2⟩
  have nuu_su : ¬ uu = su := hdz.1
  obtain ⟨uc, euc⟩ : ∃ z, q.2.2.1 uu 1 = z := ⟨_, rfl⟩
  obtain ⟨huc, kuc, luc⟩ : uc ∈ L ∧ h.1 uc = 101 ∧ h.2.1 uc = 3 := by obtain ⟨r9, e9, z1, z2, z3⟩ := hV.refn (t := 101) (n := 3) huu kuu 1 rfl (by decide) rfl (by decide); rw [← euc, e9]; exact ⟨z1, z2, z3⟩
  obtain ⟨un, eun⟩ : ∃ z, q.2.2.1 uu 2 = z := ⟨_, rfl⟩
  obtain ⟨hun, kun, lun⟩ : un ∈ L ∧ h.1 un = 202 ∧ h.2.1 un = 15 := by obtain ⟨r9, e9, z1, z2, z3⟩ := hV.refn (t := 202) (n := 15) huu kuu 2 rfl (by decide) rfl (by decide); rw [← eun, e9]; exact ⟨z1, z2, z3⟩
  obtain ⟨uf, euf⟩ : ∃ z, q.2.2.1 uu 3 = z := ⟨_, rfl⟩
  obtain ⟨huf, kuf, luf⟩ : uf ∈ L ∧ h.1 uf = 102 ∧ h.2.1 uf = 15 := by obtain ⟨r9, e9, z1, z2, z3⟩ := hV.refn (t := 102) (n := 15) huu kuu 3 rfl (by decide) rfl (by decide); rw [← euf, e9]; exact ⟨z1, z2, z3⟩
  obtain ⟨uw, euw⟩ : ∃ z, q.2.2.1 uu 4 = z := ⟨_, rfl⟩
  obtain ⟨huw, kuw, luw⟩ : uw ∈ L ∧ h.1 uw = 103 ∧ h.2.1 uw = 15 := by obtain ⟨r9, e9, z1, z2, z3⟩ := hV.refn (t := 103) (n := 15) huu kuu 4 rfl (by decide) rfl (by decide); rw [← euw, e9]; exact ⟨z1, z2, z3⟩
  have hu : lc_u8 (q.1 uu 6) (q.1 a0 20) (q.2.2.2.1 uc) (q.2.2.2.1 m18) (q.2.2.2.1 uf) (q.2.2.2.1 m19) (q.2.2.2.1 uw) (q.2.2.2.2 un) (q.2.2.2.2 m17) := by rw [← euc, ← euf, ← euw, ← eun, xm17, xm18, xm19]; exact hu0
  obtain ⟨ho0, ko0, lo0⟩ : o0 ∈ L ∧ h.1 o0 = 7 ∧ h.2.1 o0 = 2 := by obtain ⟨r9, e9, z1, z2, z3⟩ := hV.refn (t := 7) (n := 2) hx0 kx0 1 rfl (by decide) rfl (by decide); rw [← eo0, e9]; exact ⟨z1, z2, z3⟩
  obtain ⟨hob, kob, lob⟩ : ob ∈ L ∧ h.1 ob = 300 ∧ h.2.1 ob = 59 := by obtain ⟨r9, e9, z1, z2, z3⟩ := hV.refn (t := 300) (n := 59) ho0 ko0 0 rfl (by decide) (by rw [lo0]; rfl) (by decide); rw [← eob, e9]; exact ⟨z1, z2, z3⟩
  have nt0_o0 : ¬ t0 = o0 := fun z9 => absurd (z9 ▸ lt0 : h.2.1 o0 = 1) (by rw [lo0]; decide)
  have ntb_ob : ¬ tb = ob := fun z9 => absurd (z9 ▸ ltb : h.2.1 ob = 440) (by rw [lob]; decide)
  have hout : lc_o (q.1 o0 1) (q.1 a0 22) (q.2.2.2.1 ob) (q.2.2.2.1 m21) := by rw [xm21]; exact hout0
  refine wa_aload_n B dL_law_260 rfl 3 rfl ?_
  refine wa_aload_n B dL_law_261 rfl 4 rfl ?_
  refine wa_iload B dL_law_262 0 rfl ?_
  refine wa_iconst B 1 dL_law_264 (by decide) ?_
  refine wa_iadd B dL_law_265 (fun v_1 ev_1 => ?_)
  subst ev_1
  have t_2 : (i + 1).toInt = i.toInt + 1 := by have b0 := zx_bd i; exact zx_add (show (-2147483648 : Int) ≤ i.toInt + 1 by omega) (show i.toInt + 1 < (2147483648 : Int) by omega)
  refine wa_sld B hX hbl hbA (i := (i + 1)) (show 0 ≤ (i + 1).toInt by omega) (show (i + 1).toInt < (N : Int) by omega) dL_law_266 ?_
  refine wa_aload_n B dL_law_267 rfl 4 rfl ?_
  refine wa_iload B dL_law_268 0 rfl ?_
  refine wa_iconst B 2 dL_law_270 (by decide) ?_
  refine wa_iadd B dL_law_271 (fun v_3 ev_3 => ?_)
  subst ev_3
  have t_4 : (i + 2).toInt = i.toInt + 2 := by have b0 := zx_bd i; exact zx_add (show (-2147483648 : Int) ≤ i.toInt + 2 by omega) (show i.toInt + 2 < (2147483648 : Int) by omega)
  refine wa_sld B hX hbl hbA (i := (i + 2)) (show 0 ≤ (i + 2).toInt by omega) (show (i + 2).toInt < (N : Int) by omega) dL_law_272 ?_
  refine wa_aload_n B dL_law_273 rfl 1 rfl ?_
  refine wa_callW B (As := [.ref x0, .int ((xs ((i + 1) : Int32).toNatClampNeg)), .int ((xs ((i + 2) : Int32).toNatClampNeg)), .ref ot]) (rest := []) (kl6_system l hlst dC dI h L hN q hV (a0 := x0) hx0 kx0 (t0 := t0) et0 (tb := tb) etb (fa := fa) efa (uu := uu) euu (o0 := o0) eo0 (ob := ob) eob ((xs ((i + 1) : Int32).toNatClampNeg)) ((xs ((i + 2) : Int32).toNatClampNeg)) (ot := ot) hot kot lot) (vx_cwSW 4 B.1.2.2.2.2 gL_law_L_system rfl rfl rfl (by decide +kernel) ⟨Nat.le_of_ble_eq_true rfl, Nat.le_of_ble_eq_true rfl⟩) rfl rfl (Nat.le_of_ble_eq_true rfl) dL_law_274 hroom (fun r_6 q_5 w_7 => ?_)
  obtain ⟨hV_q_5, h2_q_5, h5_q_5, h6_q_5, h7_q_5, h8_q_5, h9_q_5, hA_q_5, hO_q_5⟩ := w_7
  have B := zl_moreB B
  have mN_q_5 : mv_N a0 q_5 := mv_N.eq (h2_q_5.I ha0 (show ¬ (sx_c6 h a0) from (sx_c6.n ka0 (by decide))) 8) (h2_q_5.J ha0 (show ¬ (sx_c6 h a0) from (sx_c6.n ka0 (by decide))) 11) mN
  have mF_q_5 : mv_F m18 m19 q_5 := mv_F.eq (h2_q_5.G hm18 (show ¬ (sx_c6 h m18) from (sx_c6.n km18 (by decide))) (by rw [km18]; decide)) (h2_q_5.G hm19 (show ¬ (sx_c6 h m19) from (sx_c6.n km19 (by decide))) (by rw [km19]; decide)) mF
  have mU_q_5 : mv_U m17 q_5 := mv_U.eq (h2_q_5.Lg hm17 (show ¬ (sx_c6 h m17) from (sx_c6.n km17 (by decide))) (by rw [km17]; decide)) mU
  have mS_q_5 : mv_S m23 m26 m28 m29 q_5 := mv_S.eq (h2_q_5.G hm23 (show ¬ (sx_c6 h m23) from (sx_c6.n km23 (by decide))) (by rw [km23]; decide)) (h2_q_5.G hm26 (show ¬ (sx_c6 h m26) from (sx_c6.n km26 (by decide))) (by rw [km26]; decide)) (h2_q_5.G hm28 (show ¬ (sx_c6 h m28) from (sx_c6.n km28 (by decide))) (by rw [km28]; decide)) (h2_q_5.G hm29 (show ¬ (sx_c6 h m29) from (sx_c6.n km29 (by decide))) (by rw [km29]; decide)) mS
  have mL_q_5 : mv_L m40 m41 m44 a0 q_5 := mv_L.eq (h2_q_5.G hm40 (show ¬ (sx_c6 h m40) from (sx_c6.n km40 (by decide))) (by rw [km40]; decide)) (h2_q_5.G hm41 (show ¬ (sx_c6 h m41) from (sx_c6.n km41 (by decide))) (by rw [km41]; decide)) (h2_q_5.G hm44 (show ¬ (sx_c6 h m44) from (sx_c6.n km44 (by decide))) (by rw [km44]; decide)) (h2_q_5.I ha0 (show ¬ (sx_c6 h a0) from (sx_c6.n ka0 (by decide))) 45) mL
  have hB_q_5 := h9_q_5.trans esu
  refine wa_istore B [(5, .int r_6), (4, .int i), (3, .ref ot), (2, .ref a0), (1, .ref x0), (0, .ref b)] dL_law_277 (by decide) rfl ?_
  refine wa_aload_n B dL_law_279 rfl 3 rfl ?_
  refine wa_aload_n B dL_law_280 rfl 5 rfl ?_
  refine wa_iload B dL_law_281 1 rfl ?_
  refine wa_iconst B 1 dL_law_283 (by decide) ?_
  refine wa_iadd B dL_law_284 (fun v_8 ev_8 => ?_)
  subst ev_8
  refine wa_sld B hX hbl hbA (i := (i + 1)) (show 0 ≤ (i + 1).toInt by omega) (show (i + 1).toInt < (N : Int) by omega) dL_law_285 ?_
  refine wa_aload_n B dL_law_286 rfl 5 rfl ?_
  refine wa_iload B dL_law_287 1 rfl ?_
  refine wa_iconst B 2 dL_law_289 (by decide) ?_
  refine wa_iadd B dL_law_290 (fun v_9 ev_9 => ?_)
  subst ev_9
  refine wa_sld B hX hbl hbA (i := (i + 2)) (show 0 ≤ (i + 2).toInt by omega) (show (i + 2).toInt < (N : Int) by omega) dL_law_291 ?_
  refine wa_callVi B (x := (RX12, TX12, 51)) (As := [.int ((xs ((i + 1) : Int32).toNatClampNeg)), .int ((xs ((i + 2) : Int32).toNatClampNeg))]) (rest := []) (k_X12_system l dC dI h L hN q_5 hV_q_5 (a0 := a0) ha0 ka0 ((xs ((i + 1) : Int32).toNatClampNeg)) ((xs ((i + 2) : Int32).toNatClampNeg))  ) (cwV 2 B.1.2.2.2.2 gL_law_X12_system rfl rfl rfl (by decide +kernel) ⟨Nat.le_of_ble_eq_true rfl, Nat.le_of_ble_eq_true rfl⟩) ha0 ka0 (by decide) rfl rfl rfl (Nat.le_of_ble_eq_true rfl) dL_law_292 (fun r_11 q_10 w_12 => ?_)
  obtain ⟨hV_q_10, h2_q_10, h3_q_10⟩ := w_12
  have mN_q_10 : mv_N a0 q_10 := mv_N.eq (h3_q_10.1 8 (by decide)) (h3_q_10.2 11 (by decide)) mN_q_5
  have mF_q_10 : mv_F m18 m19 q_10 := mv_F.eq (h2_q_10.G hm18 (show ¬ (h.1 m18 = 12) from (fun z => absurd (z.symm.trans km18) (by decide))) (by rw [km18]; decide)) (h2_q_10.G hm19 (show ¬ (h.1 m19 = 12) from (fun z => absurd (z.symm.trans km19) (by decide))) (by rw [km19]; decide)) mF_q_5
  have mU_q_10 : mv_U m17 q_10 := mv_U.eq (h2_q_10.Lg hm17 (show ¬ (h.1 m17 = 12) from (fun z => absurd (z.symm.trans km17) (by decide))) (by rw [km17]; decide)) mU_q_5
  have mS_q_10 : mv_S m23 m26 m28 m29 q_10 := mv_S.eq (h2_q_10.G hm23 (show ¬ (h.1 m23 = 12) from (fun z => absurd (z.symm.trans km23) (by decide))) (by rw [km23]; decide)) (h2_q_10.G hm26 (show ¬ (h.1 m26 = 12) from (fun z => absurd (z.symm.trans km26) (by decide))) (by rw [km26]; decide)) (h2_q_10.G hm28 (show ¬ (h.1 m28 = 12) from (fun z => absurd (z.symm.trans km28) (by decide))) (by rw [km28]; decide)) (h2_q_10.G hm29 (show ¬ (h.1 m29 = 12) from (fun z => absurd (z.symm.trans km29) (by decide))) (by rw [km29]; decide)) mS_q_5
  have mL_q_10 : mv_L m40 m41 m44 a0 q_10 := mv_L.eq (h2_q_10.G hm40 (show ¬ (h.1 m40 = 12) from (fun z => absurd (z.symm.trans km40) (by decide))) (by rw [km40]; decide)) (h2_q_10.G hm41 (show ¬ (h.1 m41 = 12) from (fun z => absurd (z.symm.trans km41) (by decide))) (by rw [km41]; decide)) (h2_q_10.G hm44 (show ¬ (h.1 m44 = 12) from (fun z => absurd (z.symm.trans km44) (by decide))) (by rw [km44]; decide)) (h3_q_10.1 45 (by decide)) mL_q_5
  refine wa_istore B [(6, .int r_11), (5, .int r_6), (4, .int i), (3, .ref ot), (2, .ref a0), (1, .ref x0), (0, .ref b)] dL_law_295 (by decide) rfl ?_
  refine wa_goto B 775 dL_law_297 (by decide) ?_
  have z_13 : q_10.1 a0 2 = q.1 a0 2 := (h3_q_10.1 2 (by decide)).trans (h2_q_5.I ha0 (show ¬ (sx_c6 h a0) from (sx_c6.n ka0 (by decide))) 2)
  have y_14 : (q_10.1 a0 2).toInt = (q.1 a0 2).toInt := by rw [z_13]
  have z_15 : q_10.1 a0 45 = q.1 a0 45 := (h3_q_10.1 45 (by decide)).trans (h2_q_5.I ha0 (show ¬ (sx_c6 h a0) from (sx_c6.n ka0 (by decide))) 45)
  have y_16 : (q_10.1 a0 45).toInt = (q.1 a0 45).toInt := by rw [z_15]
  have z_17 : q_10.1 t0 1 = q_5.1 t0 1 := h2_q_10.I ht0 (show ¬ (h.1 t0 = 12) from (fun z => absurd (z.symm.trans kt0) (by decide))) 1
  have y_18 : (q_10.1 t0 1).toInt = (q_5.1 t0 1).toInt := by rw [z_17]
  have z_19 : q_10.1 x0 14 = q_5.1 x0 14 := h2_q_10.I hx0 (show ¬ (h.1 x0 = 12) from (fun z => absurd (z.symm.trans kx0) (by decide))) 14
  have y_20 : (q_10.1 x0 14).toInt = (q_5.1 x0 14).toInt := by rw [z_19]
  have z_21 : q_10.2.2.1 x0 0 = t0 := (h2_q_10.R hx0 (show ¬ ((h.1 x0 = 12) ∧ (h.1 x0 = 8 ∨ h.1 x0 = 11)) from fun z9 => (show ¬ (h.1 x0 = 12) from (fun z => absurd (z.symm.trans kx0) (by decide))) z9.1) 0).trans (h5_q_5)
  have z_22 : q_10.2.2.1 t0 0 = tb := (h2_q_10.R ht0 (fun z9 => absurd z9.2 (by omega)) 0).trans ((h2_q_5.R ht0 (fun z9 => absurd z9.2 (by omega)) 0).trans (etb))
  have z_23 : q_10.2.2.1 x0 9 = fa := (h2_q_10.R hx0 (show ¬ ((h.1 x0 = 12) ∧ (h.1 x0 = 8 ∨ h.1 x0 = 11)) from fun z9 => (show ¬ (h.1 x0 = 12) from (fun z => absurd (z.symm.trans kx0) (by decide))) z9.1) 9).trans (hA_q_5)
  have z_24 : q_10.2.2.2.1 tb = q.2.2.2.1 tb := (h2_q_10.G htb (show ¬ (h.1 tb = 12) from (fun z => absurd (z.symm.trans ktb) (by decide))) (by rw [ktb]; decide)).trans (h2_q_5.G htb (show ¬ (sx_c6 h tb) from (sx_c6.t ktb ltb)) (by rw [ktb]; decide))
  have z_25 : q_10.2.2.2.1 m1 = q.2.2.2.1 m1 := (h2_q_10.G hm1 (show ¬ (h.1 m1 = 12) from (fun z => absurd (z.symm.trans km1) (by decide))) (by rw [km1]; decide)).trans (h2_q_5.G hm1 (show ¬ (sx_c6 h m1) from (sx_c6.n km1 (by decide))) (by rw [km1]; decide))
  have hT9 : ty_T (q_10.2.2.2.1 tb) (q_10.2.2.2.1 m1) (q_10.1 t0 1).toInt.toNat := by rw [z_24, z_25]; exact hT.le (by omega)
  have z_26 : q_10.2.2.2.1 m44 = q.2.2.2.1 m44 := (h2_q_10.G hm44 (show ¬ (h.1 m44 = 12) from (fun z => absurd (z.symm.trans km44) (by decide))) (by rw [km44]; decide)).trans (h2_q_5.G hm44 (show ¬ (sx_c6 h m44) from (sx_c6.n km44 (by decide))) (by rw [km44]; decide))
  have hR9 : lc_R h fa m44 x0 q_10 := by
    intro f hf
    obtain ⟨e9, ee9, he9, ke9⟩ := hV.elem (t := 0) hfa kfa (by decide) rfl (j := f) (by omega)
    rw [ee9, show q_10.1 e9 3 = q_5.1 e9 3 from h2_q_10.I he9 (show ¬ (h.1 e9 = 12) from by omega) 3, show q_5.1 e9 3 = q.1 e9 3 from h2_q_5.I he9 (show ¬ (sx_c6 h e9) from by (try unfold sx_mk at *); (try unfold sx_ck at *); (try unfold sx_c6 at *); omega) 3, ← ee9, z_26]
    exact hR f (by omega)
  refine WA.sub [2, 3, 4, 5, 6] rfl ?_
  have hR_uu : q_10.2.2.1 uu = q.2.2.1 uu := by rw [show q_10.2.2.1 uu = q_5.2.2.1 uu from h2_q_10.2 uu huu (fun z9 => absurd z9.2 (by rw [kuu]; decide)), show q_5.2.2.1 uu = q.2.2.1 uu from h2_q_5.2 uu huu (fun z9 => absurd z9.2 (by rw [kuu]; decide))]
  have hR_su : q_10.2.2.1 su = q.2.2.1 su := by rw [show q_10.2.2.1 su = q_5.2.2.1 su from h2_q_10.2 su hsu (fun z9 => absurd z9.2 (by rw [ksu]; decide)), show q_5.2.2.1 su = q.2.2.1 su from h2_q_5.2 su hsu (fun z9 => absurd z9.2 (by rw [ksu]; decide))]
  have z_27 : q_10.1 o0 1 = q.1 o0 1 := (h2_q_10.I ho0 (show ¬ (h.1 o0 = 12) from (fun z => absurd (z.symm.trans ko0) (by decide))) 1).trans (h2_q_5.I ho0 (show ¬ (sx_c6 h o0) from (sx_c6.o ko0 lo0)) 1)
  have z_28 : q_10.1 a0 22 = q.1 a0 22 := (h3_q_10.1 22 (by decide)).trans (h2_q_5.I ha0 (show ¬ (sx_c6 h a0) from (sx_c6.n ka0 (by decide))) 22)
  have z_29 : q_10.2.2.2.1 ob = q.2.2.2.1 ob := (h2_q_10.G hob (show ¬ (h.1 ob = 12) from (fun z => absurd (z.symm.trans kob) (by decide))) (by rw [kob]; decide)).trans (h2_q_5.G hob (show ¬ (sx_c6 h ob) from (sx_c6.u kob lob)) (by rw [kob]; decide))
  have z_30 : q_10.2.2.2.1 m21 = q.2.2.2.1 m21 := (h2_q_10.G hm21 (show ¬ (h.1 m21 = 12) from (fun z => absurd (z.symm.trans km21) (by decide))) (by rw [km21]; decide)).trans (h2_q_5.G hm21 (show ¬ (sx_c6 h m21) from (sx_c6.n km21 (by decide))) (by rw [km21]; decide))
  have hout9 : lc_o (q_10.1 o0 1) (q_10.1 a0 22) (q_10.2.2.2.1 ob) (q_10.2.2.2.1 (mm 21)) := by rw [← xm21, z_27, z_28, z_29, z_30]; exact hout
  have z_31 : q_10.2.2.1 x0 1 = o0 := (h2_q_10.R hx0 (show ¬ ((h.1 x0 = 12) ∧ (h.1 x0 = 8 ∨ h.1 x0 = 11)) from fun z9 => (show ¬ (h.1 x0 = 12) from (fun z => absurd (z.symm.trans kx0) (by decide))) z9.1) 1).trans (hO_q_5)
  have z_32 : q_10.2.2.1 o0 0 = ob := (h2_q_10.R ho0 (fun z9 => absurd z9.2 (by omega)) 0).trans ((h2_q_5.R ho0 (fun z9 => absurd z9.2 (by omega)) 0).trans (eob))
  have z_33 : q_10.1 uu 6 = q.1 uu 6 := (h2_q_10.I huu (show ¬ (h.1 uu = 12) from (fun z => absurd (z.symm.trans kuu) (by decide))) 6).trans (h2_q_5.I huu (show ¬ (sx_c6 h uu) from (sx_c6.n kuu (by decide))) 6)
  have z_34 : q_10.1 a0 20 = q.1 a0 20 := (h3_q_10.1 20 (by decide)).trans (h2_q_5.I ha0 (show ¬ (sx_c6 h a0) from (sx_c6.n ka0 (by decide))) 20)
  have z_35 : q_10.2.2.2.1 uc = q.2.2.2.1 uc := (h2_q_10.G huc (show ¬ (h.1 uc = 12) from (fun z => absurd (z.symm.trans kuc) (by decide))) (by rw [kuc]; decide)).trans (h2_q_5.G huc (show ¬ (sx_c6 h uc) from (sx_c6.n kuc (by decide))) (by rw [kuc]; decide))
  have z_36 : q_10.2.2.2.1 m18 = q.2.2.2.1 m18 := (h2_q_10.G hm18 (show ¬ (h.1 m18 = 12) from (fun z => absurd (z.symm.trans km18) (by decide))) (by rw [km18]; decide)).trans (h2_q_5.G hm18 (show ¬ (sx_c6 h m18) from (sx_c6.n km18 (by decide))) (by rw [km18]; decide))
  have z_37 : q_10.2.2.2.1 uf = q.2.2.2.1 uf := (h2_q_10.G huf (show ¬ (h.1 uf = 12) from (fun z => absurd (z.symm.trans kuf) (by decide))) (by rw [kuf]; decide)).trans (h2_q_5.G huf (show ¬ (sx_c6 h uf) from (sx_c6.n kuf (by decide))) (by rw [kuf]; decide))
  have z_38 : q_10.2.2.2.1 m19 = q.2.2.2.1 m19 := (h2_q_10.G hm19 (show ¬ (h.1 m19 = 12) from (fun z => absurd (z.symm.trans km19) (by decide))) (by rw [km19]; decide)).trans (h2_q_5.G hm19 (show ¬ (sx_c6 h m19) from (sx_c6.n km19 (by decide))) (by rw [km19]; decide))
  have z_39 : q_10.2.2.2.1 uw = q.2.2.2.1 uw := (h2_q_10.G huw (show ¬ (h.1 uw = 12) from (fun z => absurd (z.symm.trans kuw) (by decide))) (by rw [kuw]; decide)).trans (h2_q_5.G huw (show ¬ (sx_c6 h uw) from (sx_c6.n kuw (by decide))) (by rw [kuw]; decide))
  have z_40 : q_10.2.2.2.2 un = q.2.2.2.2 un := (h2_q_10.Lg hun (show ¬ (h.1 un = 12) from (fun z => absurd (z.symm.trans kun) (by decide))) (by rw [kun]; decide)).trans (h2_q_5.Lg hun (show ¬ (sx_c6 h un) from (sx_c6.n kun (by decide))) (by rw [kun]; decide))
  have z_41 : q_10.2.2.2.2 m17 = q.2.2.2.2 m17 := (h2_q_10.Lg hm17 (show ¬ (h.1 m17 = 12) from (fun z => absurd (z.symm.trans km17) (by decide))) (by rw [km17]; decide)).trans (h2_q_5.Lg hm17 (show ¬ (sx_c6 h m17) from (sx_c6.n km17 (by decide))) (by rw [km17]; decide))
  have hu9 : lc_uq8 q_10 a0 uu (mm 17) (mm 18) (mm 19) := by unfold lc_uq8; rw [← xm17, ← xm18, ← xm19, hR_uu, euc, euf, euw, eun, z_33, z_34, z_35, z_36, z_37, z_38, z_39, z_40, z_41]; exact hu
  have z_42 : q_10.2.2.1 x0 11 = uu := (h2_q_10.R hx0 (show ¬ ((h.1 x0 = 12) ∧ (h.1 x0 = 8 ∨ h.1 x0 = 11)) from fun z9 => (show ¬ (h.1 x0 = 12) from (fun z => absurd (z.symm.trans kx0) (by decide))) z9.1) 11).trans (h8_q_5)
  have z_43 : q_10.2.2.1 x0 12 = su := (h2_q_10.R hx0 (show ¬ ((h.1 x0 = 12) ∧ (h.1 x0 = 8 ∨ h.1 x0 = 11)) from fun z9 => (show ¬ (h.1 x0 = 12) from (fun z => absurd (z.symm.trans kx0) (by decide))) z9.1) 12).trans (hB_q_5)
  exact hcont _ _ (Or.inr rfl) ⟨⟨⟨hV_q_10, mN_q_10, by rw [← xm18, ← xm19]; exact mF_q_10, by rw [← xm17]; exact mU_q_10, by rw [← xm23, ← xm26, ← xm28, ← xm29]; exact mS_q_10, by rw [← xm40, ← xm41, ← xm44]; exact mL_q_10, z_21, fun k hk => by rw [show q_10.2.2.1 a0 = q_5.2.2.1 a0 from h2_q_10.2 a0 ha0 (fun z9 => absurd z9.2 (by omega)), show q_5.2.2.1 a0 = q.2.2.1 a0 from h2_q_5.2 a0 ha0 (fun z9 => absurd z9.2 (by omega))]; exact em k hk, by omega, by omega⟩, z_22, z_23, by rw [← xm1]; exact hT9, by rw [← xm44]; exact hR9⟩, uu, su, o0, ob, z_42, z_43, hdz.eq hR_uu hR_su, hu9, ⟨z_31, z_32⟩, hout9⟩
set_option maxHeartbeats 4000000 in
set_option maxRecDepth 100000 in
theorem lc6_337 (l : Launch) (hlst : l.stackTraces = false) {Z : Zt} (dC : Nat → ClassId) (dI : Nat → Nat → Nat) (h : Sh) (L : List Nat) (hN : sx_nd L) (B : BX dC dI h L 7 cL_law RL wsL_law Z) {b N : Nat} {xs : Nat → Int32} (hX : va_X b N xs Z.2.2.1 Z.2.2.1.heap) (hbl : b < Z.2.2.1.heap.size) (hbA : ¬ AL L Z.2.2.1.heap.size b) {x0 a0 ot t0 tb fa : Nat} (hfd : lc_fd h fa) {mm : Nat → Nat} (hx0 : x0 ∈ L) (kx0 : h.1 x0 = 11) (ha0 : a0 ∈ L) (ka0 : h.1 a0 = 12) (hot : ot ∈ L) (kot : h.1 ot = 200) (lot : h.2.1 ot = 1) {i : Int32} (hi0 : 0 ≤ i.toInt) (hi1 : i.toInt + 6 ≤ (N : Int)) (hN2 : N ≤ 3072) (hroom : (zl_more Z).2.2.2.2.2.2.2.2.2.1 ≤ room_1.cells ∧ (zl_more Z).2.2.2.2.2.2.2.2.2.2 ≤ room_1.slots) {q : Sg} (hI : lc_I8 h L x0 a0 t0 tb fa mm q) (hcont : ∀ (Z2 : Zt) (q2 : Sg), (Z2 = Z ∨ Z2 = zl_more Z) → lc_I8 h L x0 a0 t0 tb fa mm q2 → WA l dC dI h L room_1 7 Z2 q2 775 [(4, .int i), (3, .ref ot), (2, .ref a0), (1, .ref x0), (0, .ref b)] []) : WA l dC dI h L room_1 7 Z q 337 [(4, .int i), (3, .ref ot), (2, .ref a0), (1, .ref x0), (0, .ref b)] [] := by
  obtain ⟨hI, uu, su, o0, ob, euu, esu, hdz, hu0, ⟨eo0, eob⟩, hout0⟩ := hI
  obtain ⟨hI, etb, efa, hT0, hR0⟩ := hI
  obtain ⟨hV, mN, mF0, mU0, mS0, mL0, et0, em, hte, hfe⟩ := hI
  obtain ⟨ht0, kt0, lt0⟩ : t0 ∈ L ∧ h.1 t0 = 7 ∧ h.2.1 t0 = 1 := by obtain ⟨r9, e9, z1, z2, z3⟩ := hV.refn (t := 7) (n := 1) hx0 kx0 0 rfl (by decide) rfl (by decide); rw [← et0, e9]; exact ⟨z1, z2, z3⟩
  obtain ⟨m1, xm1⟩ : ∃ z, z = mm 1 := ⟨_, rfl⟩
  have em1 : q.2.2.1 a0 1 = m1 := by rw [xm1]; exact em 1 (by decide)
  obtain ⟨hm1, km1, lm1⟩ : m1 ∈ L ∧ h.1 m1 = 111 ∧ h.2.1 m1 = 440 := by obtain ⟨r9, e9, z1, z2, z3⟩ := hV.refn (t := 111) (n := 440) ha0 ka0 1 rfl (by decide) rfl (by decide); rw [← em1, e9]; exact ⟨z1, z2, z3⟩
  obtain ⟨m3, xm3⟩ : ∃ z, z = mm 3 := ⟨_, rfl⟩
  have em3 : q.2.2.1 a0 3 = m3 := by rw [xm3]; exact em 3 (by decide)
  obtain ⟨hm3, km3, lm3⟩ : m3 ∈ L ∧ h.1 m3 = 113 ∧ h.2.1 m3 = 500 := by obtain ⟨r9, e9, z1, z2, z3⟩ := hV.refn (t := 113) (n := 500) ha0 ka0 3 rfl (by decide) rfl (by decide); rw [← em3, e9]; exact ⟨z1, z2, z3⟩
  obtain ⟨m16, xm16⟩ : ∃ z, z = mm 16 := ⟨_, rfl⟩
  have em16 : q.2.2.1 a0 16 = m16 := by rw [xm16]; exact em 16 (by decide)
  obtain ⟨hm16, km16, lm16⟩ : m16 ∈ L ∧ h.1 m16 = 226 ∧ h.2.1 m16 = 6 := by obtain ⟨r9, e9, z1, z2, z3⟩ := hV.refn (t := 226) (n := 6) ha0 ka0 16 rfl (by decide) rfl (by decide); rw [← em16, e9]; exact ⟨z1, z2, z3⟩
  obtain ⟨m17, xm17⟩ : ∃ z, z = mm 17 := ⟨_, rfl⟩
  have em17 : q.2.2.1 a0 17 = m17 := by rw [xm17]; exact em 17 (by decide)
  obtain ⟨hm17, km17, lm17⟩ : m17 ∈ L ∧ h.1 m17 = 227 ∧ h.2.1 m17 = 30 := by obtain ⟨r9, e9, z1, z2, z3⟩ := hV.refn (t := 227) (n := 30) ha0 ka0 17 rfl (by decide) rfl (by decide); rw [← em17, e9]; exact ⟨z1, z2, z3⟩
  obtain ⟨m18, xm18⟩ : ∃ z, z = mm 18 := ⟨_, rfl⟩
  have em18 : q.2.2.1 a0 18 = m18 := by rw [xm18]; exact em 18 (by decide)
  obtain ⟨hm18, km18, lm18⟩ : m18 ∈ L ∧ h.1 m18 = 128 ∧ h.2.1 m18 = 6 := by obtain ⟨r9, e9, z1, z2, z3⟩ := hV.refn (t := 128) (n := 6) ha0 ka0 18 rfl (by decide) rfl (by decide); rw [← em18, e9]; exact ⟨z1, z2, z3⟩
  obtain ⟨m19, xm19⟩ : ∃ z, z = mm 19 := ⟨_, rfl⟩
  have em19 : q.2.2.1 a0 19 = m19 := by rw [xm19]; exact em 19 (by decide)
  obtain ⟨hm19, km19, lm19⟩ : m19 ∈ L ∧ h.1 m19 = 129 ∧ h.2.1 m19 = 30 := by obtain ⟨r9, e9, z1, z2, z3⟩ := hV.refn (t := 129) (n := 30) ha0 ka0 19 rfl (by decide) rfl (by decide); rw [← em19, e9]; exact ⟨z1, z2, z3⟩
  obtain ⟨m21, xm21⟩ : ∃ z, z = mm 21 := ⟨_, rfl⟩
  have em21 : q.2.2.1 a0 21 = m21 := by rw [xm21]; exact em 21 (by decide)
  obtain ⟨hm21, km21, lm21⟩ : m21 ∈ L ∧ h.1 m21 = 131 ∧ h.2.1 m21 = 80 := by obtain ⟨r9, e9, z1, z2, z3⟩ := hV.refn (t := 131) (n := 80) ha0 ka0 21 rfl (by decide) rfl (by decide); rw [← em21, e9]; exact ⟨z1, z2, z3⟩
  obtain ⟨m23, xm23⟩ : ∃ z, z = mm 23 := ⟨_, rfl⟩
  have em23 : q.2.2.1 a0 23 = m23 := by rw [xm23]; exact em 23 (by decide)
  obtain ⟨hm23, km23, lm23⟩ : m23 ∈ L ∧ h.1 m23 = 133 ∧ h.2.1 m23 = 9 := by obtain ⟨r9, e9, z1, z2, z3⟩ := hV.refn (t := 133) (n := 9) ha0 ka0 23 rfl (by decide) rfl (by decide); rw [← em23, e9]; exact ⟨z1, z2, z3⟩
  obtain ⟨m24, xm24⟩ : ∃ z, z = mm 24 := ⟨_, rfl⟩
  have em24 : q.2.2.1 a0 24 = m24 := by rw [xm24]; exact em 24 (by decide)
  obtain ⟨hm24, km24, lm24⟩ : m24 ∈ L ∧ h.1 m24 = 134 ∧ h.2.1 m24 = 108 := by obtain ⟨r9, e9, z1, z2, z3⟩ := hV.refn (t := 134) (n := 108) ha0 ka0 24 rfl (by decide) rfl (by decide); rw [← em24, e9]; exact ⟨z1, z2, z3⟩
  obtain ⟨m25, xm25⟩ : ∃ z, z = mm 25 := ⟨_, rfl⟩
  have em25 : q.2.2.1 a0 25 = m25 := by rw [xm25]; exact em 25 (by decide)
  obtain ⟨hm25, km25, lm25⟩ : m25 ∈ L ∧ h.1 m25 = 135 ∧ h.2.1 m25 = 108 := by obtain ⟨r9, e9, z1, z2, z3⟩ := hV.refn (t := 135) (n := 108) ha0 ka0 25 rfl (by decide) rfl (by decide); rw [← em25, e9]; exact ⟨z1, z2, z3⟩
  obtain ⟨m26, xm26⟩ : ∃ z, z = mm 26 := ⟨_, rfl⟩
  have em26 : q.2.2.1 a0 26 = m26 := by rw [xm26]; exact em 26 (by decide)
  obtain ⟨hm26, km26, lm26⟩ : m26 ∈ L ∧ h.1 m26 = 136 ∧ h.2.1 m26 = 108 := by obtain ⟨r9, e9, z1, z2, z3⟩ := hV.refn (t := 136) (n := 108) ha0 ka0 26 rfl (by decide) rfl (by decide); rw [← em26, e9]; exact ⟨z1, z2, z3⟩
  obtain ⟨m27, xm27⟩ : ∃ z, z = mm 27 := ⟨_, rfl⟩
  have em27 : q.2.2.1 a0 27 = m27 := by rw [xm27]; exact em 27 (by decide)
  obtain ⟨hm27, km27, lm27⟩ : m27 ∈ L ∧ h.1 m27 = 137 ∧ h.2.1 m27 = 9 := by obtain ⟨r9, e9, z1, z2, z3⟩ := hV.refn (t := 137) (n := 9) ha0 ka0 27 rfl (by decide) rfl (by decide); rw [← em27, e9]; exact ⟨z1, z2, z3⟩
  obtain ⟨m28, xm28⟩ : ∃ z, z = mm 28 := ⟨_, rfl⟩
  have em28 : q.2.2.1 a0 28 = m28 := by rw [xm28]; exact em 28 (by decide)
  obtain ⟨hm28, km28, lm28⟩ : m28 ∈ L ∧ h.1 m28 = 138 ∧ h.2.1 m28 = 540 := by obtain ⟨r9, e9, z1, z2, z3⟩ := hV.refn (t := 138) (n := 540) ha0 ka0 28 rfl (by decide) rfl (by decide); rw [← em28, e9]; exact ⟨z1, z2, z3⟩
  obtain ⟨m29, xm29⟩ : ∃ z, z = mm 29 := ⟨_, rfl⟩
  have em29 : q.2.2.1 a0 29 = m29 := by rw [xm29]; exact em 29 (by decide)
  obtain ⟨hm29, km29, lm29⟩ : m29 ∈ L ∧ h.1 m29 = 139 ∧ h.2.1 m29 = 540 := by obtain ⟨r9, e9, z1, z2, z3⟩ := hV.refn (t := 139) (n := 540) ha0 ka0 29 rfl (by decide) rfl (by decide); rw [← em29, e9]; exact ⟨z1, z2, z3⟩
  obtain ⟨m30, xm30⟩ : ∃ z, z = mm 30 := ⟨_, rfl⟩
  have em30 : q.2.2.1 a0 30 = m30 := by rw [xm30]; exact em 30 (by decide)
  obtain ⟨hm30, km30, lm30⟩ : m30 ∈ L ∧ h.1 m30 = 140 ∧ h.2.1 m30 = 540 := by obtain ⟨r9, e9, z1, z2, z3⟩ := hV.refn (t := 140) (n := 540) ha0 ka0 30 rfl (by decide) rfl (by decide); rw [← em30, e9]; exact ⟨z1, z2, z3⟩
  obtain ⟨m34, xm34⟩ : ∃ z, z = mm 34 := ⟨_, rfl⟩
  have em34 : q.2.2.1 a0 34 = m34 := by rw [xm34]; exact em 34 (by decide)
  obtain ⟨hm34, km34, lm34⟩ : m34 ∈ L ∧ h.1 m34 = 144 ∧ h.2.1 m34 = 4 := by obtain ⟨r9, e9, z1, z2, z3⟩ := hV.refn (t := 144) (n := 4) ha0 ka0 34 rfl (by decide) rfl (by decide); rw [← em34, e9]; exact ⟨z1, z2, z3⟩
  obtain ⟨m35, xm35⟩ : ∃ z, z = mm 35 := ⟨_, rfl⟩
  have em35 : q.2.2.1 a0 35 = m35 := by rw [xm35]; exact em 35 (by decide)
  obtain ⟨hm35, km35, lm35⟩ : m35 ∈ L ∧ h.1 m35 = 245 ∧ h.2.1 m35 = 12 := by obtain ⟨r9, e9, z1, z2, z3⟩ := hV.refn (t := 245) (n := 12) ha0 ka0 35 rfl (by decide) rfl (by decide); rw [← em35, e9]; exact ⟨z1, z2, z3⟩
  obtain ⟨m40, xm40⟩ : ∃ z, z = mm 40 := ⟨_, rfl⟩
  have em40 : q.2.2.1 a0 40 = m40 := by rw [xm40]; exact em 40 (by decide)
  obtain ⟨hm40, km40, lm40⟩ : m40 ∈ L ∧ h.1 m40 = 150 ∧ h.2.1 m40 = 2400 := by obtain ⟨r9, e9, z1, z2, z3⟩ := hV.refn (t := 150) (n := 2400) ha0 ka0 40 rfl (by decide) rfl (by decide); rw [← em40, e9]; exact ⟨z1, z2, z3⟩
  obtain ⟨m41, xm41⟩ : ∃ z, z = mm 41 := ⟨_, rfl⟩
  have em41 : q.2.2.1 a0 41 = m41 := by rw [xm41]; exact em 41 (by decide)
  obtain ⟨hm41, km41, lm41⟩ : m41 ∈ L ∧ h.1 m41 = 151 ∧ h.2.1 m41 = 12 := by obtain ⟨r9, e9, z1, z2, z3⟩ := hV.refn (t := 151) (n := 12) ha0 ka0 41 rfl (by decide) rfl (by decide); rw [← em41, e9]; exact ⟨z1, z2, z3⟩
  obtain ⟨m42, xm42⟩ : ∃ z, z = mm 42 := ⟨_, rfl⟩
  have em42 : q.2.2.1 a0 42 = m42 := by rw [xm42]; exact em 42 (by decide)
  obtain ⟨hm42, km42, lm42⟩ : m42 ∈ L ∧ h.1 m42 = 152 ∧ h.2.1 m42 = 12 := by obtain ⟨r9, e9, z1, z2, z3⟩ := hV.refn (t := 152) (n := 12) ha0 ka0 42 rfl (by decide) rfl (by decide); rw [← em42, e9]; exact ⟨z1, z2, z3⟩
  obtain ⟨m43, xm43⟩ : ∃ z, z = mm 43 := ⟨_, rfl⟩
  have em43 : q.2.2.1 a0 43 = m43 := by rw [xm43]; exact em 43 (by decide)
  obtain ⟨hm43, km43, lm43⟩ : m43 ∈ L ∧ h.1 m43 = 153 ∧ h.2.1 m43 = 12 := by obtain ⟨r9, e9, z1, z2, z3⟩ := hV.refn (t := 153) (n := 12) ha0 ka0 43 rfl (by decide) rfl (by decide); rw [← em43, e9]; exact ⟨z1, z2, z3⟩
  obtain ⟨m44, xm44⟩ : ∃ z, z = mm 44 := ⟨_, rfl⟩
  have em44 : q.2.2.1 a0 44 = m44 := by rw [xm44]; exact em 44 (by decide)
  obtain ⟨hm44, km44, lm44⟩ : m44 ∈ L ∧ h.1 m44 = 154 ∧ h.2.1 m44 = 12 := by obtain ⟨r9, e9, z1, z2, z3⟩ := hV.refn (t := 154) (n := 12) ha0 ka0 44 rfl (by decide) rfl (by decide); rw [← em44, e9]; exact ⟨z1, z2, z3⟩
  obtain ⟨m46, xm46⟩ : ∃ z, z = mm 46 := ⟨_, rfl⟩
  have em46 : q.2.2.1 a0 46 = m46 := by rw [xm46]; exact em 46 (by decide)
  obtain ⟨hm46, km46, lm46⟩ : m46 ∈ L ∧ h.1 m46 = 156 ∧ h.2.1 m46 = 144 := by obtain ⟨r9, e9, z1, z2, z3⟩ := hV.refn (t := 156) (n := 144) ha0 ka0 46 rfl (by decide) rfl (by decide); rw [← em46, e9]; exact ⟨z1, z2, z3⟩
  obtain ⟨m47, xm47⟩ : ∃ z, z = mm 47 := ⟨_, rfl⟩
  have em47 : q.2.2.1 a0 47 = m47 := by rw [xm47]; exact em 47 (by decide)
  obtain ⟨hm47, km47, lm47⟩ : m47 ∈ L ∧ h.1 m47 = 157 ∧ h.2.1 m47 = 4096 := by obtain ⟨r9, e9, z1, z2, z3⟩ := hV.refn (t := 157) (n := 4096) ha0 ka0 47 rfl (by decide) rfl (by decide); rw [← em47, e9]; exact ⟨z1, z2, z3⟩
  obtain ⟨m48, xm48⟩ : ∃ z, z = mm 48 := ⟨_, rfl⟩
  have em48 : q.2.2.1 a0 48 = m48 := by rw [xm48]; exact em 48 (by decide)
  obtain ⟨hm48, km48, lm48⟩ : m48 ∈ L ∧ h.1 m48 = 158 ∧ h.2.1 m48 = 12 := by obtain ⟨r9, e9, z1, z2, z3⟩ := hV.refn (t := 158) (n := 12) ha0 ka0 48 rfl (by decide) rfl (by decide); rw [← em48, e9]; exact ⟨z1, z2, z3⟩
  have mF : mv_F m18 m19 q := by rw [xm18, xm19]; exact mF0
  have mU : mv_U m17 q := by rw [xm17]; exact mU0
  have mS : mv_S m23 m26 m28 m29 q := by rw [xm23, xm26, xm28, xm29]; exact mS0
  have mL : mv_L m40 m41 m44 a0 q := by rw [xm40, xm41, xm44]; exact mL0
  have hF : sx_fr h L (fun _ => True) q q := sx_fr.rf
  obtain ⟨htb, ktb, ltb⟩ : tb ∈ L ∧ h.1 tb = 300 ∧ h.2.1 tb = 440 := by obtain ⟨r9, e9, z1, z2, z3⟩ := hV.refn (t := 300) (n := 440) ht0 kt0 0 rfl (by decide) (by rw [lt0]; rfl) (by decide); rw [← etb, e9]; exact ⟨z1, z2, z3⟩
  obtain ⟨hfa, kfa, lfa⟩ : fa ∈ L ∧ h.1 fa = 403 ∧ h.2.1 fa = 12 := by obtain ⟨r9, e9, z1, z2, z3⟩ := hV.refn (t := 403) (n := 12) hx0 kx0 9 rfl (by decide) rfl (by decide); rw [← efa, e9]; exact ⟨z1, z2, z3⟩
  have hT : ty_T (q.2.2.2.1 tb) (q.2.2.2.1 m1) (q.1 t0 1).toInt.toNat := by rw [xm1]; exact hT0
  have hR : lc_R h fa m44 x0 q := by rw [xm44]; exact hR0
  have gx14 : (0 : Int) ≤ (q.1 x0 14).toInt ∧ (q.1 x0 14).toInt ≤ 12 := hV.int hx0 kx0 14
  have gt1 : (0 : Int) ≤ (q.1 t0 1).toInt ∧ (q.1 t0 1).toInt ≤ 440 := by have z9 := hV.int ht0 kt0 1; rw [etb, ltb] at z9; exact z9
  obtain ⟨huu, kuu⟩ : uu ∈ L ∧ h.1 uu = 9 := by obtain ⟨r9, e9, z1, z2⟩ := hV.ref (t := 9) hx0 kx0 11 rfl (by decide); rw [← euu, e9]; exact ⟨z1, z2⟩
  obtain ⟨hsu, ksu⟩ : su ∈ L ∧ h.1 su = 9 := by obtain ⟨r9, e9, z1, z2⟩ := hV.ref (t := 9) hx0 kx0 12 rfl (by decide); rw [← esu, e9]; exact ⟨z1, z2⟩
  have nuu_su : ¬ uu = su := hdz.1
  obtain ⟨uc, euc⟩ : ∃ z, q.2.2.1 uu 1 = z := ⟨_, rfl⟩
  obtain ⟨huc, kuc, luc⟩ : uc ∈ L ∧ h.1 uc = 101 ∧ h.2.1 uc = 3 := by obtain ⟨r9, e9, z1, z2, z3⟩ := hV.refn (t := 101) (n := 3) huu kuu 1 rfl (by decide) rfl (by decide); rw [← euc, e9]; exact ⟨z1, z2, z3⟩
  obtain ⟨un, eun⟩ : ∃ z, q.2.2.1 uu 2 = z := ⟨_, rfl⟩
  obtain ⟨hun, kun, lun⟩ : un ∈ L ∧ h.1 un = 202 ∧ h.2.1 un = 15 := by obtain ⟨r9, e9, z1, z2, z3⟩ := hV.refn (t := 202) (n := 15) huu kuu 2 rfl (by decide) rfl (by decide); rw [← eun, e9]; exact ⟨z1, z2, z3⟩
  obtain ⟨uf, euf⟩ : ∃ z, q.2.2.1 uu 3 = z := ⟨_, rfl⟩
  obtain ⟨huf, kuf, luf⟩ : uf ∈ L ∧ h.1 uf = 102 ∧ h.2.1 uf = 15 := by obtain ⟨r9, e9, z1, z2, z3⟩ := hV.refn (t := 102) (n := 15) huu kuu 3 rfl (by decide) rfl (by decide); rw [← euf, e9]; exact ⟨z1, z2, z3⟩
  obtain ⟨uw, euw⟩ : ∃ z, q.2.2.1 uu 4 = z := ⟨_, rfl⟩
  obtain ⟨huw, kuw, luw⟩ : uw ∈ L ∧ h.1 uw = 103 ∧ h.2.1 uw = 15 := by obtain ⟨r9, e9, z1, z2, z3⟩ := hV.refn (t := 103) (n := 15) huu kuu 4 rfl (by decide) rfl (by decide); rw [← euw, e9]; exact ⟨z1, z2, z3⟩
  have hu : lc_u8 (q.1 uu 6) (q.1 a0 20) (q.2.2.2.1 uc) (q.2.2.2.1 m18) (q.2.2.2.1 uf) (q.2.2.2.1 m19) (q.2.2.2.1 uw) (q.2.2.2.2 un) (q.2.2.2.2 m17) := by rw [← euc, ← euf, ← euw, ← eun, xm17, xm18, xm19]; exact hu0
  obtain ⟨ho0, ko0, lo0⟩ : o0 ∈ L ∧ h.1 o0 = 7 ∧ h.2.1 o0 = 2 := by obtain ⟨r9, e9, z1, z2, z3⟩ := hV.refn (t := 7) (n := 2) hx0 kx0 1 rfl (by decide) rfl (by decide); rw [← eo0, e9]; exact ⟨z1, z2, z3⟩
  obtain ⟨hob, kob, lob⟩ : ob ∈ L ∧ h.1 ob = 300 ∧ h.2.1 ob = 59 := by obtain ⟨r9, e9, z1, z2, z3⟩ := hV.refn (t := 300) (n := 59) ho0 ko0 0 rfl (by decide) (by rw [lo0]; rfl) (by decide); rw [← eob, e9]; exact ⟨z1, z2, z3⟩
  have nt0_o0 : ¬ t0 = o0 := fun z9 => absurd (z9 ▸ lt0 : h.2.1 o0 = 1) (by rw [lo0]; decide)
  have ntb_ob : ¬ tb = ob := fun z9 => absurd (z9 ▸ ltb : h.2.1 ob = 440) (by rw [lob]; decide)
  have hout : lc_o (q.1 o0 1) (q.1 a0 22) (q.2.2.2.1 ob) (q.2.2.2.1 m21) := by rw [xm21]; exact hout0
  refine wa_aload_n B dL_law_337 rfl 3 rfl ?_
  refine wa_aload_n B dL_law_338 rfl 4 rfl ?_
  refine wa_iload B dL_law_339 0 rfl ?_
  refine wa_iconst B 1 dL_law_341 (by decide) ?_
  refine wa_iadd B dL_law_342 (fun v_1 ev_1 => ?_)
  subst ev_1
  have t_2 : (i + 1).toInt = i.toInt + 1 := by have b0 := zx_bd i; exact zx_add (show (-2147483648 : Int) ≤ i.toInt + 1 by omega) (show i.toInt + 1 < (2147483648 : Int) by omega)
  refine wa_sld B hX hbl hbA (i := (i + 1)) (show 0 ≤ (i + 1).toInt by omega) (show (i + 1).toInt < (N : Int) by omega) dL_law_343 ?_
  refine wa_aload_n B dL_law_344 rfl 1 rfl ?_
  refine wa_callW B (As := [.ref x0, .int ((xs ((i + 1) : Int32).toNatClampNeg)), .ref ot]) (rest := []) (kl6_octet l hlst dC dI h L hN q hV (a0 := x0) hx0 kx0 (t0 := t0) et0 (tb := tb) etb (fa := fa) efa (uu := uu) euu (o0 := o0) eo0 (ob := ob) eob ((xs ((i + 1) : Int32).toNatClampNeg)) (ot := ot) hot kot lot) (vx_cwSW 3 B.1.2.2.2.2 gL_law_L_octet rfl rfl rfl (by decide +kernel) ⟨Nat.le_of_ble_eq_true rfl, Nat.le_of_ble_eq_true rfl⟩) rfl rfl (Nat.le_of_ble_eq_true rfl) dL_law_345 hroom (fun r_4 q_3 w_5 => ?_)
  obtain ⟨hV_q_3, h2_q_3, h5_q_3, h6_q_3, h7_q_3, h8_q_3, h9_q_3, hA_q_3, hO_q_3⟩ := w_5
  have B := zl_moreB B
  have mN_q_3 : mv_N a0 q_3 := mv_N.eq (h2_q_3.I ha0 (show ¬ (sx_c6 h a0) from (sx_c6.n ka0 (by decide))) 8) (h2_q_3.J ha0 (show ¬ (sx_c6 h a0) from (sx_c6.n ka0 (by decide))) 11) mN
  have mF_q_3 : mv_F m18 m19 q_3 := mv_F.eq (h2_q_3.G hm18 (show ¬ (sx_c6 h m18) from (sx_c6.n km18 (by decide))) (by rw [km18]; decide)) (h2_q_3.G hm19 (show ¬ (sx_c6 h m19) from (sx_c6.n km19 (by decide))) (by rw [km19]; decide)) mF
  have mU_q_3 : mv_U m17 q_3 := mv_U.eq (h2_q_3.Lg hm17 (show ¬ (sx_c6 h m17) from (sx_c6.n km17 (by decide))) (by rw [km17]; decide)) mU
  have mS_q_3 : mv_S m23 m26 m28 m29 q_3 := mv_S.eq (h2_q_3.G hm23 (show ¬ (sx_c6 h m23) from (sx_c6.n km23 (by decide))) (by rw [km23]; decide)) (h2_q_3.G hm26 (show ¬ (sx_c6 h m26) from (sx_c6.n km26 (by decide))) (by rw [km26]; decide)) (h2_q_3.G hm28 (show ¬ (sx_c6 h m28) from (sx_c6.n km28 (by decide))) (by rw [km28]; decide)) (h2_q_3.G hm29 (show ¬ (sx_c6 h m29) from (sx_c6.n km29 (by decide))) (by rw [km29]; decide)) mS
  have mL_q_3 : mv_L m40 m41 m44 a0 q_3 := mv_L.eq (h2_q_3.G hm40 (show ¬ (sx_c6 h m40) from (sx_c6.n km40 (by decide))) (by rw [km40]; decide)) (h2_q_3.G hm41 (show ¬ (sx_c6 h m41) from (sx_c6.n km41 (by decide))) (by rw [km41]; decide)) (h2_q_3.G hm44 (show ¬ (sx_c6 h m44) from (sx_c6.n km44 (by decide))) (by rw [km44]; decide)) (h2_q_3.I ha0 (show ¬ (sx_c6 h a0) from (sx_c6.n ka0 (by decide))) 45) mL
  have hB_q_3 := h9_q_3.trans esu
  refine wa_istore B [(5, .int r_4), (4, .int i), (3, .ref ot), (2, .ref a0), (1, .ref x0), (0, .ref b)] dL_law_348 (by decide) rfl ?_
  refine wa_aload_n B dL_law_350 rfl 3 rfl ?_
  refine wa_aload_n B dL_law_351 rfl 5 rfl ?_
  refine wa_iload B dL_law_352 1 rfl ?_
  refine wa_iconst B 1 dL_law_354 (by decide) ?_
  refine wa_iadd B dL_law_355 (fun v_6 ev_6 => ?_)
  subst ev_6
  refine wa_sld B hX hbl hbA (i := (i + 1)) (show 0 ≤ (i + 1).toInt by omega) (show (i + 1).toInt < (N : Int) by omega) dL_law_356 ?_
  have z_7 : q_3.2.2.1 a0 21 = m21 := (h2_q_3.R ha0 (fun z9 => absurd z9.2 (by omega)) 21).trans (em21)
  have z_8 : q_3.1 a0 22 = q.1 a0 22 := h2_q_3.I ha0 (show ¬ (sx_c6 h a0) from (sx_c6.n ka0 (by decide))) 22
  have y_9 : (q_3.1 a0 22).toInt = (q.1 a0 22).toInt := by rw [z_8]
  have z_10 : q_3.2.2.2.1 m21 = q.2.2.2.1 m21 := h2_q_3.G hm21 (show ¬ (sx_c6 h m21) from (sx_c6.n km21 (by decide))) (by rw [km21]; decide)
  refine wa_callVi B (x := (RX12, TX12, 51)) (As := [.int ((xs ((i + 1) : Int32).toNatClampNeg))]) (rest := []) (k_X12_octet_c l dC dI h L hN q_3 hV_q_3 (a0 := a0) ha0 ka0 ((xs ((i + 1) : Int32).toNatClampNeg)) (m21 := m21) z_7  ) (cwV 1 B.1.2.2.2.2 gL_law_X12_octet rfl rfl rfl (by decide +kernel) ⟨Nat.le_of_ble_eq_true rfl, Nat.le_of_ble_eq_true rfl⟩) ha0 ka0 (by decide) rfl rfl rfl (Nat.le_of_ble_eq_true rfl) dL_law_357 (fun r_12 q_11 w_13 => ?_)
  obtain ⟨hV_q_11, h2_q_11, h3_q_11, hw_13⟩ := w_13
  have mN_q_11 : mv_N a0 q_11 := mv_N.eq (h3_q_11.1 8 (by decide)) (h3_q_11.2 11 (by decide)) mN_q_3
  have mF_q_11 : mv_F m18 m19 q_11 := mv_F.eq (h2_q_11.G hm18 (show ¬ (h.1 m18 = 12) from (fun z => absurd (z.symm.trans km18) (by decide))) (by rw [km18]; decide)) (h2_q_11.G hm19 (show ¬ (h.1 m19 = 12) from (fun z => absurd (z.symm.trans km19) (by decide))) (by rw [km19]; decide)) mF_q_3
  have mU_q_11 : mv_U m17 q_11 := mv_U.eq (h2_q_11.Lg hm17 (show ¬ (h.1 m17 = 12) from (fun z => absurd (z.symm.trans km17) (by decide))) (by rw [km17]; decide)) mU_q_3
  have mS_q_11 : mv_S m23 m26 m28 m29 q_11 := mv_S.eq (h2_q_11.G hm23 (show ¬ (h.1 m23 = 12) from (fun z => absurd (z.symm.trans km23) (by decide))) (by rw [km23]; decide)) (h2_q_11.G hm26 (show ¬ (h.1 m26 = 12) from (fun z => absurd (z.symm.trans km26) (by decide))) (by rw [km26]; decide)) (h2_q_11.G hm28 (show ¬ (h.1 m28 = 12) from (fun z => absurd (z.symm.trans km28) (by decide))) (by rw [km28]; decide)) (h2_q_11.G hm29 (show ¬ (h.1 m29 = 12) from (fun z => absurd (z.symm.trans km29) (by decide))) (by rw [km29]; decide)) mS_q_3
  have mL_q_11 : mv_L m40 m41 m44 a0 q_11 := mv_L.eq (h2_q_11.G hm40 (show ¬ (h.1 m40 = 12) from (fun z => absurd (z.symm.trans km40) (by decide))) (by rw [km40]; decide)) (h2_q_11.G hm41 (show ¬ (h.1 m41 = 12) from (fun z => absurd (z.symm.trans km41) (by decide))) (by rw [km41]; decide)) (h2_q_11.G hm44 (show ¬ (h.1 m44 = 12) from (fun z => absurd (z.symm.trans km44) (by decide))) (by rw [km44]; decide)) (h3_q_11.1 45 (by decide)) mL_q_3
  refine wa_istore B [(6, .int r_12), (5, .int r_4), (4, .int i), (3, .ref ot), (2, .ref a0), (1, .ref x0), (0, .ref b)] dL_law_360 (by decide) rfl ?_
  refine wa_goto B 775 dL_law_362 (by decide) ?_
  have z_14 : q_11.1 a0 2 = q.1 a0 2 := (h3_q_11.1 2 (by decide)).trans (h2_q_3.I ha0 (show ¬ (sx_c6 h a0) from (sx_c6.n ka0 (by decide))) 2)
  have y_15 : (q_11.1 a0 2).toInt = (q.1 a0 2).toInt := by rw [z_14]
  have z_16 : q_11.1 a0 45 = q.1 a0 45 := (h3_q_11.1 45 (by decide)).trans (h2_q_3.I ha0 (show ¬ (sx_c6 h a0) from (sx_c6.n ka0 (by decide))) 45)
  have y_17 : (q_11.1 a0 45).toInt = (q.1 a0 45).toInt := by rw [z_16]
  have z_18 : q_11.1 t0 1 = q_3.1 t0 1 := h2_q_11.I ht0 (show ¬ (h.1 t0 = 12) from (fun z => absurd (z.symm.trans kt0) (by decide))) 1
  have y_19 : (q_11.1 t0 1).toInt = (q_3.1 t0 1).toInt := by rw [z_18]
  have z_20 : q_11.1 x0 14 = q_3.1 x0 14 := h2_q_11.I hx0 (show ¬ (h.1 x0 = 12) from (fun z => absurd (z.symm.trans kx0) (by decide))) 14
  have y_21 : (q_11.1 x0 14).toInt = (q_3.1 x0 14).toInt := by rw [z_20]
  have z_22 : q_11.2.2.1 x0 0 = t0 := (h2_q_11.R hx0 (show ¬ ((h.1 x0 = 12) ∧ (h.1 x0 = 8 ∨ h.1 x0 = 11)) from fun z9 => (show ¬ (h.1 x0 = 12) from (fun z => absurd (z.symm.trans kx0) (by decide))) z9.1) 0).trans (h5_q_3)
  have z_23 : q_11.2.2.1 t0 0 = tb := (h2_q_11.R ht0 (fun z9 => absurd z9.2 (by omega)) 0).trans ((h2_q_3.R ht0 (fun z9 => absurd z9.2 (by omega)) 0).trans (etb))
  have z_24 : q_11.2.2.1 x0 9 = fa := (h2_q_11.R hx0 (show ¬ ((h.1 x0 = 12) ∧ (h.1 x0 = 8 ∨ h.1 x0 = 11)) from fun z9 => (show ¬ (h.1 x0 = 12) from (fun z => absurd (z.symm.trans kx0) (by decide))) z9.1) 9).trans (hA_q_3)
  have z_25 : q_11.2.2.2.1 tb = q.2.2.2.1 tb := (h2_q_11.G htb (show ¬ (h.1 tb = 12) from (fun z => absurd (z.symm.trans ktb) (by decide))) (by rw [ktb]; decide)).trans (h2_q_3.G htb (show ¬ (sx_c6 h tb) from (sx_c6.t ktb ltb)) (by rw [ktb]; decide))
  have z_26 : q_11.2.2.2.1 m1 = q.2.2.2.1 m1 := (h2_q_11.G hm1 (show ¬ (h.1 m1 = 12) from (fun z => absurd (z.symm.trans km1) (by decide))) (by rw [km1]; decide)).trans (h2_q_3.G hm1 (show ¬ (sx_c6 h m1) from (sx_c6.n km1 (by decide))) (by rw [km1]; decide))
  have hT9 : ty_T (q_11.2.2.2.1 tb) (q_11.2.2.2.1 m1) (q_11.1 t0 1).toInt.toNat := by rw [z_25, z_26]; exact hT.le (by omega)
  have z_27 : q_11.2.2.2.1 m44 = q.2.2.2.1 m44 := (h2_q_11.G hm44 (show ¬ (h.1 m44 = 12) from (fun z => absurd (z.symm.trans km44) (by decide))) (by rw [km44]; decide)).trans (h2_q_3.G hm44 (show ¬ (sx_c6 h m44) from (sx_c6.n km44 (by decide))) (by rw [km44]; decide))
  have hR9 : lc_R h fa m44 x0 q_11 := by
    intro f hf
    obtain ⟨e9, ee9, he9, ke9⟩ := hV.elem (t := 0) hfa kfa (by decide) rfl (j := f) (by omega)
    rw [ee9, show q_11.1 e9 3 = q_3.1 e9 3 from h2_q_11.I he9 (show ¬ (h.1 e9 = 12) from by omega) 3, show q_3.1 e9 3 = q.1 e9 3 from h2_q_3.I he9 (show ¬ (sx_c6 h e9) from by (try unfold sx_mk at *); (try unfold sx_ck at *); (try unfold sx_c6 at *); omega) 3, ← ee9, z_27]
    exact hR f (by omega)
  refine WA.sub [2, 3, 4, 5, 6] rfl ?_
  have hR_uu : q_11.2.2.1 uu = q.2.2.1 uu := by rw [show q_11.2.2.1 uu = q_3.2.2.1 uu from h2_q_11.2 uu huu (fun z9 => absurd z9.2 (by rw [kuu]; decide)), show q_3.2.2.1 uu = q.2.2.1 uu from h2_q_3.2 uu huu (fun z9 => absurd z9.2 (by rw [kuu]; decide))]
  have hR_su : q_11.2.2.1 su = q.2.2.1 su := by rw [show q_11.2.2.1 su = q_3.2.2.1 su from h2_q_11.2 su hsu (fun z9 => absurd z9.2 (by rw [ksu]; decide)), show q_3.2.2.1 su = q.2.2.1 su from h2_q_3.2 su hsu (fun z9 => absurd z9.2 (by rw [ksu]; decide))]
  have z_28 : q_11.1 o0 1 = q.1 o0 1 := (h2_q_11.I ho0 (show ¬ (h.1 o0 = 12) from (fun z => absurd (z.symm.trans ko0) (by decide))) 1).trans (h2_q_3.I ho0 (show ¬ (sx_c6 h o0) from (sx_c6.o ko0 lo0)) 1)
  have z_29 : q_11.1 a0 22 = (q.1 a0 22) := (h3_q_11.1 22 (by decide)).trans (z_8)
  have z_30 : q_11.2.2.2.1 ob = q.2.2.2.1 ob := (h2_q_11.G hob (show ¬ (h.1 ob = 12) from (fun z => absurd (z.symm.trans kob) (by decide))) (by rw [kob]; decide)).trans (h2_q_3.G hob (show ¬ (sx_c6 h ob) from (sx_c6.u kob lob)) (by rw [kob]; decide))
  have z_31 : q_11.2.2.2.1 m21 = (q.2.2.2.1 m21) := (h2_q_11.G hm21 (show ¬ (h.1 m21 = 12) from (fun z => absurd (z.symm.trans km21) (by decide))) (by rw [km21]; decide)).trans (z_10)
  have hout9 : lc_o (q_11.1 o0 1) (q_11.1 a0 22) (q_11.2.2.2.1 ob) (q_11.2.2.2.1 (mm 21)) := by rw [← xm21, z_28, z_29, z_30, z_31]; exact hout
  have z_32 : q_11.2.2.1 x0 1 = o0 := (h2_q_11.R hx0 (show ¬ ((h.1 x0 = 12) ∧ (h.1 x0 = 8 ∨ h.1 x0 = 11)) from fun z9 => (show ¬ (h.1 x0 = 12) from (fun z => absurd (z.symm.trans kx0) (by decide))) z9.1) 1).trans (hO_q_3)
  have z_33 : q_11.2.2.1 o0 0 = ob := (h2_q_11.R ho0 (fun z9 => absurd z9.2 (by omega)) 0).trans ((h2_q_3.R ho0 (fun z9 => absurd z9.2 (by omega)) 0).trans (eob))
  have z_34 : q_11.1 uu 6 = q.1 uu 6 := (h2_q_11.I huu (show ¬ (h.1 uu = 12) from (fun z => absurd (z.symm.trans kuu) (by decide))) 6).trans (h2_q_3.I huu (show ¬ (sx_c6 h uu) from (sx_c6.n kuu (by decide))) 6)
  have z_35 : q_11.1 a0 20 = q.1 a0 20 := (h3_q_11.1 20 (by decide)).trans (h2_q_3.I ha0 (show ¬ (sx_c6 h a0) from (sx_c6.n ka0 (by decide))) 20)
  have z_36 : q_11.2.2.2.1 uc = q.2.2.2.1 uc := (h2_q_11.G huc (show ¬ (h.1 uc = 12) from (fun z => absurd (z.symm.trans kuc) (by decide))) (by rw [kuc]; decide)).trans (h2_q_3.G huc (show ¬ (sx_c6 h uc) from (sx_c6.n kuc (by decide))) (by rw [kuc]; decide))
  have z_37 : q_11.2.2.2.1 m18 = q.2.2.2.1 m18 := (h2_q_11.G hm18 (show ¬ (h.1 m18 = 12) from (fun z => absurd (z.symm.trans km18) (by decide))) (by rw [km18]; decide)).trans (h2_q_3.G hm18 (show ¬ (sx_c6 h m18) from (sx_c6.n km18 (by decide))) (by rw [km18]; decide))
  have z_38 : q_11.2.2.2.1 uf = q.2.2.2.1 uf := (h2_q_11.G huf (show ¬ (h.1 uf = 12) from (fun z => absurd (z.symm.trans kuf) (by decide))) (by rw [kuf]; decide)).trans (h2_q_3.G huf (show ¬ (sx_c6 h uf) from (sx_c6.n kuf (by decide))) (by rw [kuf]; decide))
  have z_39 : q_11.2.2.2.1 m19 = q.2.2.2.1 m19 := (h2_q_11.G hm19 (show ¬ (h.1 m19 = 12) from (fun z => absurd (z.symm.trans km19) (by decide))) (by rw [km19]; decide)).trans (h2_q_3.G hm19 (show ¬ (sx_c6 h m19) from (sx_c6.n km19 (by decide))) (by rw [km19]; decide))
  have z_40 : q_11.2.2.2.1 uw = q.2.2.2.1 uw := (h2_q_11.G huw (show ¬ (h.1 uw = 12) from (fun z => absurd (z.symm.trans kuw) (by decide))) (by rw [kuw]; decide)).trans (h2_q_3.G huw (show ¬ (sx_c6 h uw) from (sx_c6.n kuw (by decide))) (by rw [kuw]; decide))
  have z_41 : q_11.2.2.2.2 un = q.2.2.2.2 un := (h2_q_11.Lg hun (show ¬ (h.1 un = 12) from (fun z => absurd (z.symm.trans kun) (by decide))) (by rw [kun]; decide)).trans (h2_q_3.Lg hun (show ¬ (sx_c6 h un) from (sx_c6.n kun (by decide))) (by rw [kun]; decide))
  have z_42 : q_11.2.2.2.2 m17 = q.2.2.2.2 m17 := (h2_q_11.Lg hm17 (show ¬ (h.1 m17 = 12) from (fun z => absurd (z.symm.trans km17) (by decide))) (by rw [km17]; decide)).trans (h2_q_3.Lg hm17 (show ¬ (sx_c6 h m17) from (sx_c6.n km17 (by decide))) (by rw [km17]; decide))
  have hu9 : lc_uq8 q_11 a0 uu (mm 17) (mm 18) (mm 19) := by unfold lc_uq8; rw [← xm17, ← xm18, ← xm19, hR_uu, euc, euf, euw, eun, z_34, z_35, z_36, z_37, z_38, z_39, z_40, z_41, z_42]; exact hu
  have z_43 : q_11.2.2.1 x0 11 = uu := (h2_q_11.R hx0 (show ¬ ((h.1 x0 = 12) ∧ (h.1 x0 = 8 ∨ h.1 x0 = 11)) from fun z9 => (show ¬ (h.1 x0 = 12) from (fun z => absurd (z.symm.trans kx0) (by decide))) z9.1) 11).trans (h8_q_3)
  have z_44 : q_11.2.2.1 x0 12 = su := (h2_q_11.R hx0 (show ¬ ((h.1 x0 = 12) ∧ (h.1 x0 = 8 ∨ h.1 x0 = 11)) from fun z9 => (show ¬ (h.1 x0 = 12) from (fun z => absurd (z.symm.trans kx0) (by decide))) z9.1) 12).trans (hB_q_3)
  exact hcont _ _ (Or.inr rfl) ⟨⟨⟨hV_q_11, mN_q_11, by rw [← xm18, ← xm19]; exact mF_q_11, by rw [← xm17]; exact mU_q_11, by rw [← xm23, ← xm26, ← xm28, ← xm29]; exact mS_q_11, by rw [← xm40, ← xm41, ← xm44]; exact mL_q_11, z_22, fun k hk => by rw [show q_11.2.2.1 a0 = q_3.2.2.1 a0 from h2_q_11.2 a0 ha0 (fun z9 => absurd z9.2 (by omega)), show q_3.2.2.1 a0 = q.2.2.1 a0 from h2_q_3.2 a0 ha0 (fun z9 => absurd z9.2 (by omega))]; exact em k hk, by omega, by omega⟩, z_23, z_24, by rw [← xm1]; exact hT9, by rw [← xm44]; exact hR9⟩, uu, su, o0, ob, z_43, z_44, hdz.eq hR_uu hR_su, hu9, ⟨z_32, z_33⟩, hout9⟩
set_option maxHeartbeats 4000000 in
set_option maxRecDepth 100000 in
theorem lc6_365 (l : Launch) (hlst : l.stackTraces = false) {Z : Zt} (dC : Nat → ClassId) (dI : Nat → Nat → Nat) (h : Sh) (L : List Nat) (hN : sx_nd L) (B : BX dC dI h L 7 cL_law RL wsL_law Z) {b N : Nat} {xs : Nat → Int32} (hX : va_X b N xs Z.2.2.1 Z.2.2.1.heap) (hbl : b < Z.2.2.1.heap.size) (hbA : ¬ AL L Z.2.2.1.heap.size b) {x0 a0 ot t0 tb fa : Nat} (hfd : lc_fd h fa) {mm : Nat → Nat} (hx0 : x0 ∈ L) (kx0 : h.1 x0 = 11) (ha0 : a0 ∈ L) (ka0 : h.1 a0 = 12) (hot : ot ∈ L) (kot : h.1 ot = 200) (lot : h.2.1 ot = 1) {i : Int32} (hi0 : 0 ≤ i.toInt) (hi1 : i.toInt + 6 ≤ (N : Int)) (hN2 : N ≤ 3072) (hroom : (zl_more Z).2.2.2.2.2.2.2.2.2.1 ≤ room_1.cells ∧ (zl_more Z).2.2.2.2.2.2.2.2.2.2 ≤ room_1.slots) {q : Sg} (hI : lc_I8 h L x0 a0 t0 tb fa mm q) (hcont : ∀ (Z2 : Zt) (q2 : Sg), (Z2 = Z ∨ Z2 = zl_more Z) → lc_I8 h L x0 a0 t0 tb fa mm q2 → WA l dC dI h L room_1 7 Z2 q2 775 [(4, .int i), (3, .ref ot), (2, .ref a0), (1, .ref x0), (0, .ref b)] []) : WA l dC dI h L room_1 7 Z q 365 [(4, .int i), (3, .ref ot), (2, .ref a0), (1, .ref x0), (0, .ref b)] [] := by
  obtain ⟨hI, uu, su, o0, ob, euu, esu, hdz, hu0, ⟨eo0, eob⟩, hout0⟩ := hI
  obtain ⟨hI, etb, efa, hT0, hR0⟩ := hI
  obtain ⟨hV, mN, mF0, mU0, mS0, mL0, et0, em, hte, hfe⟩ := hI
  obtain ⟨ht0, kt0, lt0⟩ : t0 ∈ L ∧ h.1 t0 = 7 ∧ h.2.1 t0 = 1 := by obtain ⟨r9, e9, z1, z2, z3⟩ := hV.refn (t := 7) (n := 1) hx0 kx0 0 rfl (by decide) rfl (by decide); rw [← et0, e9]; exact ⟨z1, z2, z3⟩
  obtain ⟨m1, xm1⟩ : ∃ z, z = mm 1 := ⟨_, rfl⟩
  have em1 : q.2.2.1 a0 1 = m1 := by rw [xm1]; exact em 1 (by decide)
  obtain ⟨hm1, km1, lm1⟩ : m1 ∈ L ∧ h.1 m1 = 111 ∧ h.2.1 m1 = 440 := by obtain ⟨r9, e9, z1, z2, z3⟩ := hV.refn (t := 111) (n := 440) ha0 ka0 1 rfl (by decide) rfl (by decide); rw [← em1, e9]; exact ⟨z1, z2, z3⟩
  obtain ⟨m3, xm3⟩ : ∃ z, z = mm 3 := ⟨_, rfl⟩
  have em3 : q.2.2.1 a0 3 = m3 := by rw [xm3]; exact em 3 (by decide)
  obtain ⟨hm3, km3, lm3⟩ : m3 ∈ L ∧ h.1 m3 = 113 ∧ h.2.1 m3 = 500 := by obtain ⟨r9, e9, z1, z2, z3⟩ := hV.refn (t := 113) (n := 500) ha0 ka0 3 rfl (by decide) rfl (by decide); rw [← em3, e9]; exact ⟨z1, z2, z3⟩
  obtain ⟨m16, xm16⟩ : ∃ z, z = mm 16 := ⟨_, rfl⟩
  have em16 : q.2.2.1 a0 16 = m16 := by rw [xm16]; exact em 16 (by decide)
  obtain ⟨hm16, km16, lm16⟩ : m16 ∈ L ∧ h.1 m16 = 226 ∧ h.2.1 m16 = 6 := by obtain ⟨r9, e9, z1, z2, z3⟩ := hV.refn (t := 226) (n := 6) ha0 ka0 16 rfl (by decide) rfl (by decide); rw [← em16, e9]; exact ⟨z1, z2, z3⟩
  obtain ⟨m17, xm17⟩ : ∃ z, z = mm 17 := ⟨_, rfl⟩
  have em17 : q.2.2.1 a0 17 = m17 := by rw [xm17]; exact em 17 (by decide)
  obtain ⟨hm17, km17, lm17⟩ : m17 ∈ L ∧ h.1 m17 = 227 ∧ h.2.1 m17 = 30 := by obtain ⟨r9, e9, z1, z2, z3⟩ := hV.refn (t := 227) (n := 30) ha0 ka0 17 rfl (by decide) rfl (by decide); rw [← em17, e9]; exact ⟨z1, z2, z3⟩
  obtain ⟨m18, xm18⟩ : ∃ z, z = mm 18 := ⟨_, rfl⟩
  have em18 : q.2.2.1 a0 18 = m18 := by rw [xm18]; exact em 18 (by decide)
  obtain ⟨hm18, km18, lm18⟩ : m18 ∈ L ∧ h.1 m18 = 128 ∧ h.2.1 m18 = 6 := by obtain ⟨r9, e9, z1, z2, z3⟩ := hV.refn (t := 128) (n := 6) ha0 ka0 18 rfl (by decide) rfl (by decide); rw [← em18, e9]; exact ⟨z1, z2, z3⟩
  obtain ⟨m19, xm19⟩ : ∃ z, z = mm 19 := ⟨_, rfl⟩
  have em19 : q.2.2.1 a0 19 = m19 := by rw [xm19]; exact em 19 (by decide)
  obtain ⟨hm19, km19, lm19⟩ : m19 ∈ L ∧ h.1 m19 = 129 ∧ h.2.1 m19 = 30 := by obtain ⟨r9, e9, z1, z2, z3⟩ := hV.refn (t := 129) (n := 30) ha0 ka0 19 rfl (by decide) rfl (by decide); rw [← em19, e9]; exact ⟨z1, z2, z3⟩
  obtain ⟨m21, xm21⟩ : ∃ z, z = mm 21 := ⟨_, rfl⟩
  have em21 : q.2.2.1 a0 21 = m21 := by rw [xm21]; exact em 21 (by decide)
  obtain ⟨hm21, km21, lm21⟩ : m21 ∈ L ∧ h.1 m21 = 131 ∧ h.2.1 m21 = 80 := by obtain ⟨r9, e9, z1, z2, z3⟩ := hV.refn (t := 131) (n := 80) ha0 ka0 21 rfl (by decide) rfl (by decide); rw [← em21, e9]; exact ⟨z1, z2, z3⟩
  obtain ⟨m23, xm23⟩ : ∃ z, z = mm 23 := ⟨_, rfl⟩
  have em23 : q.2.2.1 a0 23 = m23 := by rw [xm23]; exact em 23 (by decide)
  obtain ⟨hm23, km23, lm23⟩ : m23 ∈ L ∧ h.1 m23 = 133 ∧ h.2.1 m23 = 9 := by obtain ⟨r9, e9, z1, z2, z3⟩ := hV.refn (t := 133) (n := 9) ha0 ka0 23 rfl (by decide) rfl (by decide); rw [← em23, e9]; exact ⟨z1, z2, z3⟩
  obtain ⟨m24, xm24⟩ : ∃ z, z = mm 24 := ⟨_, rfl⟩
  have em24 : q.2.2.1 a0 24 = m24 := by rw [xm24]; exact em 24 (by decide)
  obtain ⟨hm24, km24, lm24⟩ : m24 ∈ L ∧ h.1 m24 = 134 ∧ h.2.1 m24 = 108 := by obtain ⟨r9, e9, z1, z2, z3⟩ := hV.refn (t := 134) (n := 108) ha0 ka0 24 rfl (by decide) rfl (by decide); rw [← em24, e9]; exact ⟨z1, z2, z3⟩
  obtain ⟨m25, xm25⟩ : ∃ z, z = mm 25 := ⟨_, rfl⟩
  have em25 : q.2.2.1 a0 25 = m25 := by rw [xm25]; exact em 25 (by decide)
  obtain ⟨hm25, km25, lm25⟩ : m25 ∈ L ∧ h.1 m25 = 135 ∧ h.2.1 m25 = 108 := by obtain ⟨r9, e9, z1, z2, z3⟩ := hV.refn (t := 135) (n := 108) ha0 ka0 25 rfl (by decide) rfl (by decide); rw [← em25, e9]; exact ⟨z1, z2, z3⟩
  obtain ⟨m26, xm26⟩ : ∃ z, z = mm 26 := ⟨_, rfl⟩
  have em26 : q.2.2.1 a0 26 = m26 := by rw [xm26]; exact em 26 (by decide)
  obtain ⟨hm26, km26, lm26⟩ : m26 ∈ L ∧ h.1 m26 = 136 ∧ h.2.1 m26 = 108 := by obtain ⟨r9, e9, z1, z2, z3⟩ := hV.refn (t := 136) (n := 108) ha0 ka0 26 rfl (by decide) rfl (by decide); rw [← em26, e9]; exact ⟨z1, z2, z3⟩
  obtain ⟨m27, xm27⟩ : ∃ z, z = mm 27 := ⟨_, rfl⟩
  have em27 : q.2.2.1 a0 27 = m27 := by rw [xm27]; exact em 27 (by decide)
  obtain ⟨hm27, km27, lm27⟩ : m27 ∈ L ∧ h.1 m27 = 137 ∧ h.2.1 m27 = 9 := by obtain ⟨r9, e9, z1, z2, z3⟩ := hV.refn (t := 137) (n := 9) ha0 ka0 27 rfl (by decide) rfl (by decide); rw [← em27, e9]; exact ⟨z1, z2, z3⟩
  obtain ⟨m28, xm28⟩ : ∃ z, z = mm 28 := ⟨_, rfl⟩
  have em28 : q.2.2.1 a0 28 = m28 := by rw [xm28]; exact em 28 (by decide)
  obtain ⟨hm28, km28, lm28⟩ : m28 ∈ L ∧ h.1 m28 = 138 ∧ h.2.1 m28 = 540 := by obtain ⟨r9, e9, z1, z2, z3⟩ := hV.refn (t := 138) (n := 540) ha0 ka0 28 rfl (by decide) rfl (by decide); rw [← em28, e9]; exact ⟨z1, z2, z3⟩
  obtain ⟨m29, xm29⟩ : ∃ z, z = mm 29 := ⟨_, rfl⟩
  have em29 : q.2.2.1 a0 29 = m29 := by rw [xm29]; exact em 29 (by decide)
  obtain ⟨hm29, km29, lm29⟩ : m29 ∈ L ∧ h.1 m29 = 139 ∧ h.2.1 m29 = 540 := by obtain ⟨r9, e9, z1, z2, z3⟩ := hV.refn (t := 139) (n := 540) ha0 ka0 29 rfl (by decide) rfl (by decide); rw [← em29, e9]; exact ⟨z1, z2, z3⟩
  obtain ⟨m30, xm30⟩ : ∃ z, z = mm 30 := ⟨_, rfl⟩
  have em30 : q.2.2.1 a0 30 = m30 := by rw [xm30]; exact em 30 (by decide)
  obtain ⟨hm30, km30, lm30⟩ : m30 ∈ L ∧ h.1 m30 = 140 ∧ h.2.1 m30 = 540 := by obtain ⟨r9, e9, z1, z2, z3⟩ := hV.refn (t := 140) (n := 540) ha0 ka0 30 rfl (by decide) rfl (by decide); rw [← em30, e9]; exact ⟨z1, z2, z3⟩
  obtain ⟨m34, xm34⟩ : ∃ z, z = mm 34 := ⟨_, rfl⟩
  have em34 : q.2.2.1 a0 34 = m34 := by rw [xm34]; exact em 34 (by decide)
  obtain ⟨hm34, km34, lm34⟩ : m34 ∈ L ∧ h.1 m34 = 144 ∧ h.2.1 m34 = 4 := by obtain ⟨r9, e9, z1, z2, z3⟩ := hV.refn (t := 144) (n := 4) ha0 ka0 34 rfl (by decide) rfl (by decide); rw [← em34, e9]; exact ⟨z1, z2, z3⟩
  obtain ⟨m35, xm35⟩ : ∃ z, z = mm 35 := ⟨_, rfl⟩
  have em35 : q.2.2.1 a0 35 = m35 := by rw [xm35]; exact em 35 (by decide)
  obtain ⟨hm35, km35, lm35⟩ : m35 ∈ L ∧ h.1 m35 = 245 ∧ h.2.1 m35 = 12 := by obtain ⟨r9, e9, z1, z2, z3⟩ := hV.refn (t := 245) (n := 12) ha0 ka0 35 rfl (by decide) rfl (by decide); rw [← em35, e9]; exact ⟨z1, z2, z3⟩
  obtain ⟨m40, xm40⟩ : ∃ z, z = mm 40 := ⟨_, rfl⟩
  have em40 : q.2.2.1 a0 40 = m40 := by rw [xm40]; exact em 40 (by decide)
  obtain ⟨hm40, km40, lm40⟩ : m40 ∈ L ∧ h.1 m40 = 150 ∧ h.2.1 m40 = 2400 := by obtain ⟨r9, e9, z1, z2, z3⟩ := hV.refn (t := 150) (n := 2400) ha0 ka0 40 rfl (by decide) rfl (by decide); rw [← em40, e9]; exact ⟨z1, z2, z3⟩
  obtain ⟨m41, xm41⟩ : ∃ z, z = mm 41 := ⟨_, rfl⟩
  have em41 : q.2.2.1 a0 41 = m41 := by rw [xm41]; exact em 41 (by decide)
  obtain ⟨hm41, km41, lm41⟩ : m41 ∈ L ∧ h.1 m41 = 151 ∧ h.2.1 m41 = 12 := by obtain ⟨r9, e9, z1, z2, z3⟩ := hV.refn (t := 151) (n := 12) ha0 ka0 41 rfl (by decide) rfl (by decide); rw [← em41, e9]; exact ⟨z1, z2, z3⟩
  obtain ⟨m42, xm42⟩ : ∃ z, z = mm 42 := ⟨_, rfl⟩
  have em42 : q.2.2.1 a0 42 = m42 := by rw [xm42]; exact em 42 (by decide)
  obtain ⟨hm42, km42, lm42⟩ : m42 ∈ L ∧ h.1 m42 = 152 ∧ h.2.1 m42 = 12 := by obtain ⟨r9, e9, z1, z2, z3⟩ := hV.refn (t := 152) (n := 12) ha0 ka0 42 rfl (by decide) rfl (by decide); rw [← em42, e9]; exact ⟨z1, z2, z3⟩
  obtain ⟨m43, xm43⟩ : ∃ z, z = mm 43 := ⟨_, rfl⟩
  have em43 : q.2.2.1 a0 43 = m43 := by rw [xm43]; exact em 43 (by decide)
  obtain ⟨hm43, km43, lm43⟩ : m43 ∈ L ∧ h.1 m43 = 153 ∧ h.2.1 m43 = 12 := by obtain ⟨r9, e9, z1, z2, z3⟩ := hV.refn (t := 153) (n := 12) ha0 ka0 43 rfl (by decide) rfl (by decide); rw [← em43, e9]; exact ⟨z1, z2, z3⟩
  obtain ⟨m44, xm44⟩ : ∃ z, z = mm 44 := ⟨_, rfl⟩
  have em44 : q.2.2.1 a0 44 = m44 := by rw [xm44]; exact em 44 (by decide)
  obtain ⟨hm44, km44, lm44⟩ : m44 ∈ L ∧ h.1 m44 = 154 ∧ h.2.1 m44 = 12 := by obtain ⟨r9, e9, z1, z2, z3⟩ := hV.refn (t := 154) (n := 12) ha0 ka0 44 rfl (by decide) rfl (by decide); rw [← em44, e9]; exact ⟨z1, z2, z3⟩
  obtain ⟨m46, xm46⟩ : ∃ z, z = mm 46 := ⟨_, rfl⟩
  have em46 : q.2.2.1 a0 46 = m46 := by rw [xm46]; exact em 46 (by decide)
  obtain ⟨hm46, km46, lm46⟩ : m46 ∈ L ∧ h.1 m46 = 156 ∧ h.2.1 m46 = 144 := by obtain ⟨r9, e9, z1, z2, z3⟩ := hV.refn (t := 156) (n := 144) ha0 ka0 46 rfl (by decide) rfl (by decide); rw [← em46, e9]; exact ⟨z1, z2, z3⟩
  obtain ⟨m47, xm47⟩ : ∃ z, z = mm 47 := ⟨_, rfl⟩
  have em47 : q.2.2.1 a0 47 = m47 := by rw [xm47]; exact em 47 (by decide)
  obtain ⟨hm47, km47, lm47⟩ : m47 ∈ L ∧ h.1 m47 = 157 ∧ h.2.1 m47 = 4096 := by obtain ⟨r9, e9, z1, z2, z3⟩ := hV.refn (t := 157) (n := 4096) ha0 ka0 47 rfl (by decide) rfl (by decide); rw [← em47, e9]; exact ⟨z1, z2, z3⟩
  obtain ⟨m48, xm48⟩ : ∃ z, z = mm 48 := ⟨_, rfl⟩
  have em48 : q.2.2.1 a0 48 = m48 := by rw [xm48]; exact em 48 (by decide)
  obtain ⟨hm48, km48, lm48⟩ : m48 ∈ L ∧ h.1 m48 = 158 ∧ h.2.1 m48 = 12 := by obtain ⟨r9, e9, z1, z2, z3⟩ := hV.refn (t := 158) (n := 12) ha0 ka0 48 rfl (by decide) rfl (by decide); rw [← em48, e9]; exact ⟨z1, z2, z3⟩
  have mF : mv_F m18 m19 q := by rw [xm18, xm19]; exact mF0
  have mU : mv_U m17 q := by rw [xm17]; exact mU0
  have mS : mv_S m23 m26 m28 m29 q := by rw [xm23, xm26, xm28, xm29]; exact mS0
  have mL : mv_L m40 m41 m44 a0 q := by rw [xm40, xm41, xm44]; exact mL0
  have hF : sx_fr h L (fun _ => True) q q := sx_fr.rf
  obtain ⟨htb, ktb, ltb⟩ : tb ∈ L ∧ h.1 tb = 300 ∧ h.2.1 tb = 440 := by obtain ⟨r9, e9, z1, z2, z3⟩ := hV.refn (t := 300) (n := 440) ht0 kt0 0 rfl (by decide) (by rw [lt0]; rfl) (by decide); rw [← etb, e9]; exact ⟨z1, z2, z3⟩
  obtain ⟨hfa, kfa, lfa⟩ : fa ∈ L ∧ h.1 fa = 403 ∧ h.2.1 fa = 12 := by obtain ⟨r9, e9, z1, z2, z3⟩ := hV.refn (t := 403) (n := 12) hx0 kx0 9 rfl (by decide) rfl (by decide); rw [← efa, e9]; exact ⟨z1, z2, z3⟩
  have hT : ty_T (q.2.2.2.1 tb) (q.2.2.2.1 m1) (q.1 t0 1).toInt.toNat := by rw [xm1]; exact hT0
  have hR : lc_R h fa m44 x0 q := by rw [xm44]; exact hR0
  have gx14 : (0 : Int) ≤ (q.1 x0 14).toInt ∧ (q.1 x0 14).toInt ≤ 12 := hV.int hx0 kx0 14
  have gt1 : (0 : Int) ≤ (q.1 t0 1).toInt ∧ (q.1 t0 1).toInt ≤ 440 := by have z9 := hV.int ht0 kt0 1; rw [etb, ltb] at z9; exact z9
  obtain ⟨huu, kuu⟩ : uu ∈ L ∧ h.1 uu = 9 := by obtain ⟨r9, e9, z1, z2⟩ := hV.ref (t := 9) hx0 kx0 11 rfl (by decide); rw [← euu, e9]; exact ⟨z1, z2⟩
  obtain ⟨hsu, ksu⟩ : su ∈ L ∧ h.1 su = 9 := by obtain ⟨r9, e9, z1, z2⟩ := hV.ref (t := 9) hx0 kx0 12 rfl (by decide); rw [← esu, e9]; exact ⟨z1, z2⟩
  have nuu_su : ¬ uu = su := hdz.1
  obtain ⟨uc, euc⟩ : ∃ z, q.2.2.1 uu 1 = z := ⟨_, rfl⟩
  obtain ⟨huc, kuc, luc⟩ : uc ∈ L ∧ h.1 uc = 101 ∧ h.2.1 uc = 3 := by obtain ⟨r9, e9, z1, z2, z3⟩ := hV.refn (t := 101) (n := 3) huu kuu 1 rfl (by decide) rfl (by decide); rw [← euc, e9]; exact ⟨z1, z2, z3⟩
  obtain ⟨un, eun⟩ : ∃ z, q.2.2.1 uu 2 = z := ⟨_, rfl⟩
  obtain ⟨hun, kun, lun⟩ : un ∈ L ∧ h.1 un = 202 ∧ h.2.1 un = 15 := by obtain ⟨r9, e9, z1, z2, z3⟩ := hV.refn (t := 202) (n := 15) huu kuu 2 rfl (by decide) rfl (by decide); rw [← eun, e9]; exact ⟨z1, z2, z3⟩
  obtain ⟨uf, euf⟩ : ∃ z, q.2.2.1 uu 3 = z := ⟨_, rfl⟩
  obtain ⟨huf, kuf, luf⟩ : uf ∈ L ∧ h.1 uf = 102 ∧ h.2.1 uf = 15 := by obtain ⟨r9, e9, z1, z2, z3⟩ := hV.refn (t := 102) (n := 15) huu kuu 3 rfl (by decide) rfl (by decide); rw [← euf, e9]; exact ⟨z1, z2, z3⟩
  obtain ⟨uw, euw⟩ : ∃ z, q.2.2.1 uu 4 = z := ⟨_, rfl⟩
  obtain ⟨huw, kuw, luw⟩ : uw ∈ L ∧ h.1 uw = 103 ∧ h.2.1 uw = 15 := by obtain ⟨r9, e9, z1, z2, z3⟩ := hV.refn (t := 103) (n := 15) huu kuu 4 rfl (by decide) rfl (by decide); rw [← euw, e9]; exact ⟨z1, z2, z3⟩
  have hu : lc_u8 (q.1 uu 6) (q.1 a0 20) (q.2.2.2.1 uc) (q.2.2.2.1 m18) (q.2.2.2.1 uf) (q.2.2.2.1 m19) (q.2.2.2.1 uw) (q.2.2.2.2 un) (q.2.2.2.2 m17) := by rw [← euc, ← euf, ← euw, ← eun, xm17, xm18, xm19]; exact hu0
  obtain ⟨ho0, ko0, lo0⟩ : o0 ∈ L ∧ h.1 o0 = 7 ∧ h.2.1 o0 = 2 := by obtain ⟨r9, e9, z1, z2, z3⟩ := hV.refn (t := 7) (n := 2) hx0 kx0 1 rfl (by decide) rfl (by decide); rw [← eo0, e9]; exact ⟨z1, z2, z3⟩
  obtain ⟨hob, kob, lob⟩ : ob ∈ L ∧ h.1 ob = 300 ∧ h.2.1 ob = 59 := by obtain ⟨r9, e9, z1, z2, z3⟩ := hV.refn (t := 300) (n := 59) ho0 ko0 0 rfl (by decide) (by rw [lo0]; rfl) (by decide); rw [← eob, e9]; exact ⟨z1, z2, z3⟩
  have nt0_o0 : ¬ t0 = o0 := fun z9 => absurd (z9 ▸ lt0 : h.2.1 o0 = 1) (by rw [lo0]; decide)
  have ntb_ob : ¬ tb = ob := fun z9 => absurd (z9 ▸ ltb : h.2.1 ob = 440) (by rw [lob]; decide)
  have hout : lc_o (q.1 o0 1) (q.1 a0 22) (q.2.2.2.1 ob) (q.2.2.2.1 m21) := by rw [xm21]; exact hout0
  refine wa_aload_n B dL_law_365 rfl 3 rfl ?_
  refine wa_callVi B (x := (RX11, TX11, 16)) (As := []) (rest := []) (k_X11_tablet_c l dC dI h L hN q hV (a0 := x0) hx0 kx0 (t0 := t0) et0 (tb := tb) etb (fa := fa) efa (uu := uu) euu (o0 := o0) eo0 (ob := ob) eob  ) (cwV 0 B.1.2.2.2.2 gL_law_X11_tablet rfl rfl rfl (by decide +kernel) ⟨Nat.le_of_ble_eq_true rfl, Nat.le_of_ble_eq_true rfl⟩) hx0 kx0 (by decide) rfl rfl rfl (Nat.le_of_ble_eq_true rfl) dL_law_366 (fun r_2 q_1 w_3 => ?_)
  obtain ⟨hV_q_1, h2_q_1, hw_3⟩ := w_3
  have mN_q_1 : mv_N a0 q_1 := mv_N.eq (h2_q_1.I ha0 (show ¬ (sx_c6 h a0) from (sx_c6.n ka0 (by decide))) 8) (h2_q_1.J ha0 (show ¬ (sx_c6 h a0) from (sx_c6.n ka0 (by decide))) 11) mN
  have mF_q_1 : mv_F m18 m19 q_1 := mv_F.eq (h2_q_1.G hm18 (show ¬ (sx_c6 h m18) from (sx_c6.n km18 (by decide))) (by rw [km18]; decide)) (h2_q_1.G hm19 (show ¬ (sx_c6 h m19) from (sx_c6.n km19 (by decide))) (by rw [km19]; decide)) mF
  have mU_q_1 : mv_U m17 q_1 := mv_U.eq (h2_q_1.Lg hm17 (show ¬ (sx_c6 h m17) from (sx_c6.n km17 (by decide))) (by rw [km17]; decide)) mU
  have mS_q_1 : mv_S m23 m26 m28 m29 q_1 := mv_S.eq (h2_q_1.G hm23 (show ¬ (sx_c6 h m23) from (sx_c6.n km23 (by decide))) (by rw [km23]; decide)) (h2_q_1.G hm26 (show ¬ (sx_c6 h m26) from (sx_c6.n km26 (by decide))) (by rw [km26]; decide)) (h2_q_1.G hm28 (show ¬ (sx_c6 h m28) from (sx_c6.n km28 (by decide))) (by rw [km28]; decide)) (h2_q_1.G hm29 (show ¬ (sx_c6 h m29) from (sx_c6.n km29 (by decide))) (by rw [km29]; decide)) mS
  have mL_q_1 : mv_L m40 m41 m44 a0 q_1 := mv_L.eq (h2_q_1.G hm40 (show ¬ (sx_c6 h m40) from (sx_c6.n km40 (by decide))) (by rw [km40]; decide)) (h2_q_1.G hm41 (show ¬ (sx_c6 h m41) from (sx_c6.n km41 (by decide))) (by rw [km41]; decide)) (h2_q_1.G hm44 (show ¬ (sx_c6 h m44) from (sx_c6.n km44 (by decide))) (by rw [km44]; decide)) (h2_q_1.I ha0 (show ¬ (sx_c6 h a0) from (sx_c6.n ka0 (by decide))) 45) mL
  have hB_q_1 := hw_3.2.2.2.2.1.trans esu
  refine wa_pop B dL_law_369 rfl ?_
  refine wa_aload_n B dL_law_370 rfl 2 rfl ?_
  have z_4 : q_1.2.2.1 a0 23 = m23 := (h2_q_1.R ha0 (fun z9 => absurd z9.2 (by omega)) 23).trans (em23)
  have z_5 : q_1.2.2.1 a0 26 = m26 := (h2_q_1.R ha0 (fun z9 => absurd z9.2 (by omega)) 26).trans (em26)
  have z_6 : q_1.2.2.1 a0 27 = m27 := (h2_q_1.R ha0 (fun z9 => absurd z9.2 (by omega)) 27).trans (em27)
  have z_7 : q_1.2.2.1 a0 28 = m28 := (h2_q_1.R ha0 (fun z9 => absurd z9.2 (by omega)) 28).trans (em28)
  have z_8 : q_1.2.2.1 a0 29 = m29 := (h2_q_1.R ha0 (fun z9 => absurd z9.2 (by omega)) 29).trans (em29)
  have z_9 : q_1.2.2.1 a0 30 = m30 := (h2_q_1.R ha0 (fun z9 => absurd z9.2 (by omega)) 30).trans (em30)
  have z_10 : q_1.2.2.1 a0 18 = m18 := (h2_q_1.R ha0 (fun z9 => absurd z9.2 (by omega)) 18).trans (em18)
  have z_11 : q_1.2.2.1 a0 19 = m19 := (h2_q_1.R ha0 (fun z9 => absurd z9.2 (by omega)) 19).trans (em19)
  have z_12 : q_1.2.2.1 a0 24 = m24 := (h2_q_1.R ha0 (fun z9 => absurd z9.2 (by omega)) 24).trans (em24)
  have z_13 : q_1.2.2.1 a0 25 = m25 := (h2_q_1.R ha0 (fun z9 => absurd z9.2 (by omega)) 25).trans (em25)
  refine wa_callVi B (x := (RX12, TX12, 51)) (As := []) (rest := []) (k_X12_tablet l dC dI h L hN q_1 hV_q_1 (a0 := a0) ha0 ka0 (m23 := m23) z_4 (m26 := m26) z_5 (m27 := m27) z_6 (m28 := m28) z_7 (m29 := m29) z_8 (m30 := m30) z_9 (m18 := m18) z_10 (m19 := m19) z_11 (m24 := m24) z_12 (m25 := m25) z_13 mN_q_1 mS_q_1 ) (cwV 0 B.1.2.2.2.2 gL_law_X12_tablet rfl rfl rfl (by decide +kernel) ⟨Nat.le_of_ble_eq_true rfl, Nat.le_of_ble_eq_true rfl⟩) ha0 ka0 (by decide) rfl rfl rfl (Nat.le_of_ble_eq_true rfl) dL_law_371 (fun r_15 q_14 w_16 => ?_)
  obtain ⟨hV_q_14, h2_q_14, h3_q_14, mN_q_14, mS_q_14, hw_16⟩ := w_16
  have mF_q_14 : mv_F m18 m19 q_14 := mv_F.eq (h2_q_14.G hm18 (show ¬ (h.1 m18 = 12 ∨ h.1 m18 = 113 ∨ h.1 m18 = 133 ∨ h.1 m18 = 134 ∨ h.1 m18 = 135 ∨ h.1 m18 = 138 ∨ h.1 m18 = 139 ∨ h.1 m18 = 140 ∨ h.1 m18 = 136 ∨ h.1 m18 = 137) from (fun z => z.elim (fun z => absurd (z.symm.trans km18) (by decide)) (fun z => z.elim (fun z => absurd (z.symm.trans km18) (by decide)) (fun z => z.elim (fun z => absurd (z.symm.trans km18) (by decide)) (fun z => z.elim (fun z => absurd (z.symm.trans km18) (by decide)) (fun z => z.elim (fun z => absurd (z.symm.trans km18) (by decide)) (fun z => z.elim (fun z => absurd (z.symm.trans km18) (by decide)) (fun z => z.elim (fun z => absurd (z.symm.trans km18) (by decide)) (fun z => z.elim (fun z => absurd (z.symm.trans km18) (by decide)) (fun z => z.elim (fun z => absurd (z.symm.trans km18) (by decide)) (fun z => absurd (z.symm.trans km18) (by decide)))))))))))) (by rw [km18]; decide)) (h2_q_14.G hm19 (show ¬ (h.1 m19 = 12 ∨ h.1 m19 = 113 ∨ h.1 m19 = 133 ∨ h.1 m19 = 134 ∨ h.1 m19 = 135 ∨ h.1 m19 = 138 ∨ h.1 m19 = 139 ∨ h.1 m19 = 140 ∨ h.1 m19 = 136 ∨ h.1 m19 = 137) from (fun z => z.elim (fun z => absurd (z.symm.trans km19) (by decide)) (fun z => z.elim (fun z => absurd (z.symm.trans km19) (by decide)) (fun z => z.elim (fun z => absurd (z.symm.trans km19) (by decide)) (fun z => z.elim (fun z => absurd (z.symm.trans km19) (by decide)) (fun z => z.elim (fun z => absurd (z.symm.trans km19) (by decide)) (fun z => z.elim (fun z => absurd (z.symm.trans km19) (by decide)) (fun z => z.elim (fun z => absurd (z.symm.trans km19) (by decide)) (fun z => z.elim (fun z => absurd (z.symm.trans km19) (by decide)) (fun z => z.elim (fun z => absurd (z.symm.trans km19) (by decide)) (fun z => absurd (z.symm.trans km19) (by decide)))))))))))) (by rw [km19]; decide)) mF_q_1
  have mU_q_14 : mv_U m17 q_14 := mv_U.eq (h2_q_14.Lg hm17 (show ¬ (h.1 m17 = 12 ∨ h.1 m17 = 113 ∨ h.1 m17 = 133 ∨ h.1 m17 = 134 ∨ h.1 m17 = 135 ∨ h.1 m17 = 138 ∨ h.1 m17 = 139 ∨ h.1 m17 = 140 ∨ h.1 m17 = 136 ∨ h.1 m17 = 137) from (fun z => z.elim (fun z => absurd (z.symm.trans km17) (by decide)) (fun z => z.elim (fun z => absurd (z.symm.trans km17) (by decide)) (fun z => z.elim (fun z => absurd (z.symm.trans km17) (by decide)) (fun z => z.elim (fun z => absurd (z.symm.trans km17) (by decide)) (fun z => z.elim (fun z => absurd (z.symm.trans km17) (by decide)) (fun z => z.elim (fun z => absurd (z.symm.trans km17) (by decide)) (fun z => z.elim (fun z => absurd (z.symm.trans km17) (by decide)) (fun z => z.elim (fun z => absurd (z.symm.trans km17) (by decide)) (fun z => z.elim (fun z => absurd (z.symm.trans km17) (by decide)) (fun z => absurd (z.symm.trans km17) (by decide)))))))))))) (by rw [km17]; decide)) mU_q_1
  have mL_q_14 : mv_L m40 m41 m44 a0 q_14 := mv_L.eq (h2_q_14.G hm40 (show ¬ (h.1 m40 = 12 ∨ h.1 m40 = 113 ∨ h.1 m40 = 133 ∨ h.1 m40 = 134 ∨ h.1 m40 = 135 ∨ h.1 m40 = 138 ∨ h.1 m40 = 139 ∨ h.1 m40 = 140 ∨ h.1 m40 = 136 ∨ h.1 m40 = 137) from (fun z => z.elim (fun z => absurd (z.symm.trans km40) (by decide)) (fun z => z.elim (fun z => absurd (z.symm.trans km40) (by decide)) (fun z => z.elim (fun z => absurd (z.symm.trans km40) (by decide)) (fun z => z.elim (fun z => absurd (z.symm.trans km40) (by decide)) (fun z => z.elim (fun z => absurd (z.symm.trans km40) (by decide)) (fun z => z.elim (fun z => absurd (z.symm.trans km40) (by decide)) (fun z => z.elim (fun z => absurd (z.symm.trans km40) (by decide)) (fun z => z.elim (fun z => absurd (z.symm.trans km40) (by decide)) (fun z => z.elim (fun z => absurd (z.symm.trans km40) (by decide)) (fun z => absurd (z.symm.trans km40) (by decide)))))))))))) (by rw [km40]; decide)) (h2_q_14.G hm41 (show ¬ (h.1 m41 = 12 ∨ h.1 m41 = 113 ∨ h.1 m41 = 133 ∨ h.1 m41 = 134 ∨ h.1 m41 = 135 ∨ h.1 m41 = 138 ∨ h.1 m41 = 139 ∨ h.1 m41 = 140 ∨ h.1 m41 = 136 ∨ h.1 m41 = 137) from (fun z => z.elim (fun z => absurd (z.symm.trans km41) (by decide)) (fun z => z.elim (fun z => absurd (z.symm.trans km41) (by decide)) (fun z => z.elim (fun z => absurd (z.symm.trans km41) (by decide)) (fun z => z.elim (fun z => absurd (z.symm.trans km41) (by decide)) (fun z => z.elim (fun z => absurd (z.symm.trans km41) (by decide)) (fun z => z.elim (fun z => absurd (z.symm.trans km41) (by decide)) (fun z => z.elim (fun z => absurd (z.symm.trans km41) (by decide)) (fun z => z.elim (fun z => absurd (z.symm.trans km41) (by decide)) (fun z => z.elim (fun z => absurd (z.symm.trans km41) (by decide)) (fun z => absurd (z.symm.trans km41) (by decide)))))))))))) (by rw [km41]; decide)) (h2_q_14.G hm44 (show ¬ (h.1 m44 = 12 ∨ h.1 m44 = 113 ∨ h.1 m44 = 133 ∨ h.1 m44 = 134 ∨ h.1 m44 = 135 ∨ h.1 m44 = 138 ∨ h.1 m44 = 139 ∨ h.1 m44 = 140 ∨ h.1 m44 = 136 ∨ h.1 m44 = 137) from (fun z => z.elim (fun z => absurd (z.symm.trans km44) (by decide)) (fun z => z.elim (fun z => absurd (z.symm.trans km44) (by decide)) (fun z => z.elim (fun z => absurd (z.symm.trans km44) (by decide)) (fun z => z.elim (fun z => absurd (z.symm.trans km44) (by decide)) (fun z => z.elim (fun z => absurd (z.symm.trans km44) (by decide)) (fun z => z.elim (fun z => absurd (z.symm.trans km44) (by decide)) (fun z => z.elim (fun z => absurd (z.symm.trans km44) (by decide)) (fun z => z.elim (fun z => absurd (z.symm.trans km44) (by decide)) (fun z => z.elim (fun z => absurd (z.symm.trans km44) (by decide)) (fun z => absurd (z.symm.trans km44) (by decide)))))))))))) (by rw [km44]; decide)) (h3_q_14.1 45 (by decide)) mL_q_1
  refine wa_pop B dL_law_374 rfl ?_
  refine wa_goto B 775 dL_law_375 (by decide) ?_
  have z_17 : q_14.1 a0 45 = q.1 a0 45 := (h3_q_14.1 45 (by decide)).trans (h2_q_1.I ha0 (show ¬ (sx_c6 h a0) from (sx_c6.n ka0 (by decide))) 45)
  have y_18 : (q_14.1 a0 45).toInt = (q.1 a0 45).toInt := by rw [z_17]
  have z_19 : q_14.1 t0 1 = q_1.1 t0 1 := h2_q_14.I ht0 (show ¬ (h.1 t0 = 12 ∨ h.1 t0 = 113 ∨ h.1 t0 = 133 ∨ h.1 t0 = 134 ∨ h.1 t0 = 135 ∨ h.1 t0 = 138 ∨ h.1 t0 = 139 ∨ h.1 t0 = 140 ∨ h.1 t0 = 136 ∨ h.1 t0 = 137) from (fun z => z.elim (fun z => absurd (z.symm.trans kt0) (by decide)) (fun z => z.elim (fun z => absurd (z.symm.trans kt0) (by decide)) (fun z => z.elim (fun z => absurd (z.symm.trans kt0) (by decide)) (fun z => z.elim (fun z => absurd (z.symm.trans kt0) (by decide)) (fun z => z.elim (fun z => absurd (z.symm.trans kt0) (by decide)) (fun z => z.elim (fun z => absurd (z.symm.trans kt0) (by decide)) (fun z => z.elim (fun z => absurd (z.symm.trans kt0) (by decide)) (fun z => z.elim (fun z => absurd (z.symm.trans kt0) (by decide)) (fun z => z.elim (fun z => absurd (z.symm.trans kt0) (by decide)) (fun z => absurd (z.symm.trans kt0) (by decide)))))))))))) 1
  have y_20 : (q_14.1 t0 1).toInt = (q_1.1 t0 1).toInt := by rw [z_19]
  have z_21 : q_14.1 x0 14 = q_1.1 x0 14 := h2_q_14.I hx0 (show ¬ (h.1 x0 = 12 ∨ h.1 x0 = 113 ∨ h.1 x0 = 133 ∨ h.1 x0 = 134 ∨ h.1 x0 = 135 ∨ h.1 x0 = 138 ∨ h.1 x0 = 139 ∨ h.1 x0 = 140 ∨ h.1 x0 = 136 ∨ h.1 x0 = 137) from (fun z => z.elim (fun z => absurd (z.symm.trans kx0) (by decide)) (fun z => z.elim (fun z => absurd (z.symm.trans kx0) (by decide)) (fun z => z.elim (fun z => absurd (z.symm.trans kx0) (by decide)) (fun z => z.elim (fun z => absurd (z.symm.trans kx0) (by decide)) (fun z => z.elim (fun z => absurd (z.symm.trans kx0) (by decide)) (fun z => z.elim (fun z => absurd (z.symm.trans kx0) (by decide)) (fun z => z.elim (fun z => absurd (z.symm.trans kx0) (by decide)) (fun z => z.elim (fun z => absurd (z.symm.trans kx0) (by decide)) (fun z => z.elim (fun z => absurd (z.symm.trans kx0) (by decide)) (fun z => absurd (z.symm.trans kx0) (by decide)))))))))))) 14
  have y_22 : (q_14.1 x0 14).toInt = (q_1.1 x0 14).toInt := by rw [z_21]
  have z_23 : q_14.2.2.1 x0 0 = t0 := (h2_q_14.R hx0 (show ¬ ((h.1 x0 = 12 ∨ h.1 x0 = 113 ∨ h.1 x0 = 133 ∨ h.1 x0 = 134 ∨ h.1 x0 = 135 ∨ h.1 x0 = 138 ∨ h.1 x0 = 139 ∨ h.1 x0 = 140 ∨ h.1 x0 = 136 ∨ h.1 x0 = 137) ∧ (h.1 x0 = 8 ∨ h.1 x0 = 11)) from fun z9 => (show ¬ (h.1 x0 = 12 ∨ h.1 x0 = 113 ∨ h.1 x0 = 133 ∨ h.1 x0 = 134 ∨ h.1 x0 = 135 ∨ h.1 x0 = 138 ∨ h.1 x0 = 139 ∨ h.1 x0 = 140 ∨ h.1 x0 = 136 ∨ h.1 x0 = 137) from (fun z => z.elim (fun z => absurd (z.symm.trans kx0) (by decide)) (fun z => z.elim (fun z => absurd (z.symm.trans kx0) (by decide)) (fun z => z.elim (fun z => absurd (z.symm.trans kx0) (by decide)) (fun z => z.elim (fun z => absurd (z.symm.trans kx0) (by decide)) (fun z => z.elim (fun z => absurd (z.symm.trans kx0) (by decide)) (fun z => z.elim (fun z => absurd (z.symm.trans kx0) (by decide)) (fun z => z.elim (fun z => absurd (z.symm.trans kx0) (by decide)) (fun z => z.elim (fun z => absurd (z.symm.trans kx0) (by decide)) (fun z => z.elim (fun z => absurd (z.symm.trans kx0) (by decide)) (fun z => absurd (z.symm.trans kx0) (by decide)))))))))))) z9.1) 0).trans (hw_3.1)
  have z_24 : q_14.2.2.1 t0 0 = tb := (h2_q_14.R ht0 (fun z9 => absurd z9.2 (by omega)) 0).trans ((h2_q_1.R ht0 (fun z9 => absurd z9.2 (by omega)) 0).trans (etb))
  have z_25 : q_14.2.2.1 x0 9 = fa := (h2_q_14.R hx0 (show ¬ ((h.1 x0 = 12 ∨ h.1 x0 = 113 ∨ h.1 x0 = 133 ∨ h.1 x0 = 134 ∨ h.1 x0 = 135 ∨ h.1 x0 = 138 ∨ h.1 x0 = 139 ∨ h.1 x0 = 140 ∨ h.1 x0 = 136 ∨ h.1 x0 = 137) ∧ (h.1 x0 = 8 ∨ h.1 x0 = 11)) from fun z9 => (show ¬ (h.1 x0 = 12 ∨ h.1 x0 = 113 ∨ h.1 x0 = 133 ∨ h.1 x0 = 134 ∨ h.1 x0 = 135 ∨ h.1 x0 = 138 ∨ h.1 x0 = 139 ∨ h.1 x0 = 140 ∨ h.1 x0 = 136 ∨ h.1 x0 = 137) from (fun z => z.elim (fun z => absurd (z.symm.trans kx0) (by decide)) (fun z => z.elim (fun z => absurd (z.symm.trans kx0) (by decide)) (fun z => z.elim (fun z => absurd (z.symm.trans kx0) (by decide)) (fun z => z.elim (fun z => absurd (z.symm.trans kx0) (by decide)) (fun z => z.elim (fun z => absurd (z.symm.trans kx0) (by decide)) (fun z => z.elim (fun z => absurd (z.symm.trans kx0) (by decide)) (fun z => z.elim (fun z => absurd (z.symm.trans kx0) (by decide)) (fun z => z.elim (fun z => absurd (z.symm.trans kx0) (by decide)) (fun z => z.elim (fun z => absurd (z.symm.trans kx0) (by decide)) (fun z => absurd (z.symm.trans kx0) (by decide)))))))))))) z9.1) 9).trans (hw_3.2.2.2.2.2.1)
  have z_26 : q_14.2.2.2.1 tb = q.2.2.2.1 tb := (h2_q_14.G htb (show ¬ (h.1 tb = 12 ∨ h.1 tb = 113 ∨ h.1 tb = 133 ∨ h.1 tb = 134 ∨ h.1 tb = 135 ∨ h.1 tb = 138 ∨ h.1 tb = 139 ∨ h.1 tb = 140 ∨ h.1 tb = 136 ∨ h.1 tb = 137) from (fun z => z.elim (fun z => absurd (z.symm.trans ktb) (by decide)) (fun z => z.elim (fun z => absurd (z.symm.trans ktb) (by decide)) (fun z => z.elim (fun z => absurd (z.symm.trans ktb) (by decide)) (fun z => z.elim (fun z => absurd (z.symm.trans ktb) (by decide)) (fun z => z.elim (fun z => absurd (z.symm.trans ktb) (by decide)) (fun z => z.elim (fun z => absurd (z.symm.trans ktb) (by decide)) (fun z => z.elim (fun z => absurd (z.symm.trans ktb) (by decide)) (fun z => z.elim (fun z => absurd (z.symm.trans ktb) (by decide)) (fun z => z.elim (fun z => absurd (z.symm.trans ktb) (by decide)) (fun z => absurd (z.symm.trans ktb) (by decide)))))))))))) (by rw [ktb]; decide)).trans (h2_q_1.G htb (show ¬ (sx_c6 h tb) from (sx_c6.t ktb ltb)) (by rw [ktb]; decide))
  have z_27 : q_14.2.2.2.1 m1 = q.2.2.2.1 m1 := (h2_q_14.G hm1 (show ¬ (h.1 m1 = 12 ∨ h.1 m1 = 113 ∨ h.1 m1 = 133 ∨ h.1 m1 = 134 ∨ h.1 m1 = 135 ∨ h.1 m1 = 138 ∨ h.1 m1 = 139 ∨ h.1 m1 = 140 ∨ h.1 m1 = 136 ∨ h.1 m1 = 137) from (fun z => z.elim (fun z => absurd (z.symm.trans km1) (by decide)) (fun z => z.elim (fun z => absurd (z.symm.trans km1) (by decide)) (fun z => z.elim (fun z => absurd (z.symm.trans km1) (by decide)) (fun z => z.elim (fun z => absurd (z.symm.trans km1) (by decide)) (fun z => z.elim (fun z => absurd (z.symm.trans km1) (by decide)) (fun z => z.elim (fun z => absurd (z.symm.trans km1) (by decide)) (fun z => z.elim (fun z => absurd (z.symm.trans km1) (by decide)) (fun z => z.elim (fun z => absurd (z.symm.trans km1) (by decide)) (fun z => z.elim (fun z => absurd (z.symm.trans km1) (by decide)) (fun z => absurd (z.symm.trans km1) (by decide)))))))))))) (by rw [km1]; decide)).trans (h2_q_1.G hm1 (show ¬ (sx_c6 h m1) from (sx_c6.n km1 (by decide))) (by rw [km1]; decide))
  have hT9 : ty_T (q_14.2.2.2.1 tb) (q_14.2.2.2.1 m1) (q_14.1 t0 1).toInt.toNat := by rw [z_26, z_27]; exact hT.le (by omega)
  have z_28 : q_14.2.2.2.1 m44 = q.2.2.2.1 m44 := (h2_q_14.G hm44 (show ¬ (h.1 m44 = 12 ∨ h.1 m44 = 113 ∨ h.1 m44 = 133 ∨ h.1 m44 = 134 ∨ h.1 m44 = 135 ∨ h.1 m44 = 138 ∨ h.1 m44 = 139 ∨ h.1 m44 = 140 ∨ h.1 m44 = 136 ∨ h.1 m44 = 137) from (fun z => z.elim (fun z => absurd (z.symm.trans km44) (by decide)) (fun z => z.elim (fun z => absurd (z.symm.trans km44) (by decide)) (fun z => z.elim (fun z => absurd (z.symm.trans km44) (by decide)) (fun z => z.elim (fun z => absurd (z.symm.trans km44) (by decide)) (fun z => z.elim (fun z => absurd (z.symm.trans km44) (by decide)) (fun z => z.elim (fun z => absurd (z.symm.trans km44) (by decide)) (fun z => z.elim (fun z => absurd (z.symm.trans km44) (by decide)) (fun z => z.elim (fun z => absurd (z.symm.trans km44) (by decide)) (fun z => z.elim (fun z => absurd (z.symm.trans km44) (by decide)) (fun z => absurd (z.symm.trans km44) (by decide)))))))))))) (by rw [km44]; decide)).trans (h2_q_1.G hm44 (show ¬ (sx_c6 h m44) from (sx_c6.n km44 (by decide))) (by rw [km44]; decide))
  have hR9 : lc_R h fa m44 x0 q_14 := by
    intro f hf
    obtain ⟨e9, ee9, he9, ke9⟩ := hV.elem (t := 0) hfa kfa (by decide) rfl (j := f) (by omega)
    rw [ee9, show q_14.1 e9 3 = q_1.1 e9 3 from h2_q_14.I he9 (show ¬ (h.1 e9 = 12 ∨ h.1 e9 = 113 ∨ h.1 e9 = 133 ∨ h.1 e9 = 134 ∨ h.1 e9 = 135 ∨ h.1 e9 = 138 ∨ h.1 e9 = 139 ∨ h.1 e9 = 140 ∨ h.1 e9 = 136 ∨ h.1 e9 = 137) from by omega) 3, show q_1.1 e9 3 = q.1 e9 3 from h2_q_1.I he9 (show ¬ (sx_c6 h e9) from by (try unfold sx_mk at *); (try unfold sx_ck at *); (try unfold sx_c6 at *); omega) 3, ← ee9, z_28]
    exact hR f (by omega)
  have hR_uu : q_14.2.2.1 uu = q.2.2.1 uu := by rw [show q_14.2.2.1 uu = q_1.2.2.1 uu from h2_q_14.2 uu huu (fun z9 => absurd z9.2 (by rw [kuu]; decide)), show q_1.2.2.1 uu = q.2.2.1 uu from h2_q_1.2 uu huu (fun z9 => absurd z9.2 (by rw [kuu]; decide))]
  have hR_su : q_14.2.2.1 su = q.2.2.1 su := by rw [show q_14.2.2.1 su = q_1.2.2.1 su from h2_q_14.2 su hsu (fun z9 => absurd z9.2 (by rw [ksu]; decide)), show q_1.2.2.1 su = q.2.2.1 su from h2_q_1.2 su hsu (fun z9 => absurd z9.2 (by rw [ksu]; decide))]
  have z_29 : q_14.1 o0 1 = q.1 o0 1 := (h2_q_14.I ho0 (show ¬ (h.1 o0 = 12 ∨ h.1 o0 = 113 ∨ h.1 o0 = 133 ∨ h.1 o0 = 134 ∨ h.1 o0 = 135 ∨ h.1 o0 = 138 ∨ h.1 o0 = 139 ∨ h.1 o0 = 140 ∨ h.1 o0 = 136 ∨ h.1 o0 = 137) from (fun z => z.elim (fun z => absurd (z.symm.trans ko0) (by decide)) (fun z => z.elim (fun z => absurd (z.symm.trans ko0) (by decide)) (fun z => z.elim (fun z => absurd (z.symm.trans ko0) (by decide)) (fun z => z.elim (fun z => absurd (z.symm.trans ko0) (by decide)) (fun z => z.elim (fun z => absurd (z.symm.trans ko0) (by decide)) (fun z => z.elim (fun z => absurd (z.symm.trans ko0) (by decide)) (fun z => z.elim (fun z => absurd (z.symm.trans ko0) (by decide)) (fun z => z.elim (fun z => absurd (z.symm.trans ko0) (by decide)) (fun z => z.elim (fun z => absurd (z.symm.trans ko0) (by decide)) (fun z => absurd (z.symm.trans ko0) (by decide)))))))))))) 1).trans (h2_q_1.I ho0 (show ¬ (sx_c6 h o0) from (sx_c6.o ko0 lo0)) 1)
  have z_30 : q_14.1 a0 22 = q.1 a0 22 := (h3_q_14.1 22 (by decide)).trans (h2_q_1.I ha0 (show ¬ (sx_c6 h a0) from (sx_c6.n ka0 (by decide))) 22)
  have z_31 : q_14.2.2.2.1 ob = q.2.2.2.1 ob := (h2_q_14.G hob (show ¬ (h.1 ob = 12 ∨ h.1 ob = 113 ∨ h.1 ob = 133 ∨ h.1 ob = 134 ∨ h.1 ob = 135 ∨ h.1 ob = 138 ∨ h.1 ob = 139 ∨ h.1 ob = 140 ∨ h.1 ob = 136 ∨ h.1 ob = 137) from (fun z => z.elim (fun z => absurd (z.symm.trans kob) (by decide)) (fun z => z.elim (fun z => absurd (z.symm.trans kob) (by decide)) (fun z => z.elim (fun z => absurd (z.symm.trans kob) (by decide)) (fun z => z.elim (fun z => absurd (z.symm.trans kob) (by decide)) (fun z => z.elim (fun z => absurd (z.symm.trans kob) (by decide)) (fun z => z.elim (fun z => absurd (z.symm.trans kob) (by decide)) (fun z => z.elim (fun z => absurd (z.symm.trans kob) (by decide)) (fun z => z.elim (fun z => absurd (z.symm.trans kob) (by decide)) (fun z => z.elim (fun z => absurd (z.symm.trans kob) (by decide)) (fun z => absurd (z.symm.trans kob) (by decide)))))))))))) (by rw [kob]; decide)).trans (h2_q_1.G hob (show ¬ (sx_c6 h ob) from (sx_c6.u kob lob)) (by rw [kob]; decide))
  have z_32 : q_14.2.2.2.1 m21 = q.2.2.2.1 m21 := (h2_q_14.G hm21 (show ¬ (h.1 m21 = 12 ∨ h.1 m21 = 113 ∨ h.1 m21 = 133 ∨ h.1 m21 = 134 ∨ h.1 m21 = 135 ∨ h.1 m21 = 138 ∨ h.1 m21 = 139 ∨ h.1 m21 = 140 ∨ h.1 m21 = 136 ∨ h.1 m21 = 137) from (fun z => z.elim (fun z => absurd (z.symm.trans km21) (by decide)) (fun z => z.elim (fun z => absurd (z.symm.trans km21) (by decide)) (fun z => z.elim (fun z => absurd (z.symm.trans km21) (by decide)) (fun z => z.elim (fun z => absurd (z.symm.trans km21) (by decide)) (fun z => z.elim (fun z => absurd (z.symm.trans km21) (by decide)) (fun z => z.elim (fun z => absurd (z.symm.trans km21) (by decide)) (fun z => z.elim (fun z => absurd (z.symm.trans km21) (by decide)) (fun z => z.elim (fun z => absurd (z.symm.trans km21) (by decide)) (fun z => z.elim (fun z => absurd (z.symm.trans km21) (by decide)) (fun z => absurd (z.symm.trans km21) (by decide)))))))))))) (by rw [km21]; decide)).trans (h2_q_1.G hm21 (show ¬ (sx_c6 h m21) from (sx_c6.n km21 (by decide))) (by rw [km21]; decide))
  have hout9 : lc_o (q_14.1 o0 1) (q_14.1 a0 22) (q_14.2.2.2.1 ob) (q_14.2.2.2.1 (mm 21)) := by rw [← xm21, z_29, z_30, z_31, z_32]; exact hout
  have z_33 : q_14.2.2.1 x0 1 = o0 := (h2_q_14.R hx0 (show ¬ ((h.1 x0 = 12 ∨ h.1 x0 = 113 ∨ h.1 x0 = 133 ∨ h.1 x0 = 134 ∨ h.1 x0 = 135 ∨ h.1 x0 = 138 ∨ h.1 x0 = 139 ∨ h.1 x0 = 140 ∨ h.1 x0 = 136 ∨ h.1 x0 = 137) ∧ (h.1 x0 = 8 ∨ h.1 x0 = 11)) from fun z9 => (show ¬ (h.1 x0 = 12 ∨ h.1 x0 = 113 ∨ h.1 x0 = 133 ∨ h.1 x0 = 134 ∨ h.1 x0 = 135 ∨ h.1 x0 = 138 ∨ h.1 x0 = 139 ∨ h.1 x0 = 140 ∨ h.1 x0 = 136 ∨ h.1 x0 = 137) from (fun z => z.elim (fun z => absurd (z.symm.trans kx0) (by decide)) (fun z => z.elim (fun z => absurd (z.symm.trans kx0) (by decide)) (fun z => z.elim (fun z => absurd (z.symm.trans kx0) (by decide)) (fun z => z.elim (fun z => absurd (z.symm.trans kx0) (by decide)) (fun z => z.elim (fun z => absurd (z.symm.trans kx0) (by decide)) (fun z => z.elim (fun z => absurd (z.symm.trans kx0) (by decide)) (fun z => z.elim (fun z => absurd (z.symm.trans kx0) (by decide)) (fun z => z.elim (fun z => absurd (z.symm.trans kx0) (by decide)) (fun z => z.elim (fun z => absurd (z.symm.trans kx0) (by decide)) (fun z => absurd (z.symm.trans kx0) (by decide)))))))))))) z9.1) 1).trans (hw_3.2.2.2.2.2.2)
  have z_34 : q_14.2.2.1 o0 0 = ob := (h2_q_14.R ho0 (fun z9 => absurd z9.2 (by omega)) 0).trans ((h2_q_1.R ho0 (fun z9 => absurd z9.2 (by omega)) 0).trans (eob))
  have z_35 : q_14.1 uu 6 = q.1 uu 6 := (h2_q_14.I huu (show ¬ (h.1 uu = 12 ∨ h.1 uu = 113 ∨ h.1 uu = 133 ∨ h.1 uu = 134 ∨ h.1 uu = 135 ∨ h.1 uu = 138 ∨ h.1 uu = 139 ∨ h.1 uu = 140 ∨ h.1 uu = 136 ∨ h.1 uu = 137) from (fun z => z.elim (fun z => absurd (z.symm.trans kuu) (by decide)) (fun z => z.elim (fun z => absurd (z.symm.trans kuu) (by decide)) (fun z => z.elim (fun z => absurd (z.symm.trans kuu) (by decide)) (fun z => z.elim (fun z => absurd (z.symm.trans kuu) (by decide)) (fun z => z.elim (fun z => absurd (z.symm.trans kuu) (by decide)) (fun z => z.elim (fun z => absurd (z.symm.trans kuu) (by decide)) (fun z => z.elim (fun z => absurd (z.symm.trans kuu) (by decide)) (fun z => z.elim (fun z => absurd (z.symm.trans kuu) (by decide)) (fun z => z.elim (fun z => absurd (z.symm.trans kuu) (by decide)) (fun z => absurd (z.symm.trans kuu) (by decide)))))))))))) 6).trans (h2_q_1.I huu (show ¬ (sx_c6 h uu) from (sx_c6.n kuu (by decide))) 6)
  have z_36 : q_14.1 a0 20 = q.1 a0 20 := (h3_q_14.1 20 (by decide)).trans (h2_q_1.I ha0 (show ¬ (sx_c6 h a0) from (sx_c6.n ka0 (by decide))) 20)
  have z_37 : q_14.2.2.2.1 uc = q.2.2.2.1 uc := (h2_q_14.G huc (show ¬ (h.1 uc = 12 ∨ h.1 uc = 113 ∨ h.1 uc = 133 ∨ h.1 uc = 134 ∨ h.1 uc = 135 ∨ h.1 uc = 138 ∨ h.1 uc = 139 ∨ h.1 uc = 140 ∨ h.1 uc = 136 ∨ h.1 uc = 137) from (fun z => z.elim (fun z => absurd (z.symm.trans kuc) (by decide)) (fun z => z.elim (fun z => absurd (z.symm.trans kuc) (by decide)) (fun z => z.elim (fun z => absurd (z.symm.trans kuc) (by decide)) (fun z => z.elim (fun z => absurd (z.symm.trans kuc) (by decide)) (fun z => z.elim (fun z => absurd (z.symm.trans kuc) (by decide)) (fun z => z.elim (fun z => absurd (z.symm.trans kuc) (by decide)) (fun z => z.elim (fun z => absurd (z.symm.trans kuc) (by decide)) (fun z => z.elim (fun z => absurd (z.symm.trans kuc) (by decide)) (fun z => z.elim (fun z => absurd (z.symm.trans kuc) (by decide)) (fun z => absurd (z.symm.trans kuc) (by decide)))))))))))) (by rw [kuc]; decide)).trans (h2_q_1.G huc (show ¬ (sx_c6 h uc) from (sx_c6.n kuc (by decide))) (by rw [kuc]; decide))
  have z_38 : q_14.2.2.2.1 m18 = q.2.2.2.1 m18 := (h2_q_14.G hm18 (show ¬ (h.1 m18 = 12 ∨ h.1 m18 = 113 ∨ h.1 m18 = 133 ∨ h.1 m18 = 134 ∨ h.1 m18 = 135 ∨ h.1 m18 = 138 ∨ h.1 m18 = 139 ∨ h.1 m18 = 140 ∨ h.1 m18 = 136 ∨ h.1 m18 = 137) from (fun z => z.elim (fun z => absurd (z.symm.trans km18) (by decide)) (fun z => z.elim (fun z => absurd (z.symm.trans km18) (by decide)) (fun z => z.elim (fun z => absurd (z.symm.trans km18) (by decide)) (fun z => z.elim (fun z => absurd (z.symm.trans km18) (by decide)) (fun z => z.elim (fun z => absurd (z.symm.trans km18) (by decide)) (fun z => z.elim (fun z => absurd (z.symm.trans km18) (by decide)) (fun z => z.elim (fun z => absurd (z.symm.trans km18) (by decide)) (fun z => z.elim (fun z => absurd (z.symm.trans km18) (by decide)) (fun z => z.elim (fun z => absurd (z.symm.trans km18) (by decide)) (fun z => absurd (z.symm.trans km18) (by decide)))))))))))) (by rw [km18]; decide)).trans (h2_q_1.G hm18 (show ¬ (sx_c6 h m18) from (sx_c6.n km18 (by decide))) (by rw [km18]; decide))
  have z_39 : q_14.2.2.2.1 uf = q.2.2.2.1 uf := (h2_q_14.G huf (show ¬ (h.1 uf = 12 ∨ h.1 uf = 113 ∨ h.1 uf = 133 ∨ h.1 uf = 134 ∨ h.1 uf = 135 ∨ h.1 uf = 138 ∨ h.1 uf = 139 ∨ h.1 uf = 140 ∨ h.1 uf = 136 ∨ h.1 uf = 137) from (fun z => z.elim (fun z => absurd (z.symm.trans kuf) (by decide)) (fun z => z.elim (fun z => absurd (z.symm.trans kuf) (by decide)) (fun z => z.elim (fun z => absurd (z.symm.trans kuf) (by decide)) (fun z => z.elim (fun z => absurd (z.symm.trans kuf) (by decide)) (fun z => z.elim (fun z => absurd (z.symm.trans kuf) (by decide)) (fun z => z.elim (fun z => absurd (z.symm.trans kuf) (by decide)) (fun z => z.elim (fun z => absurd (z.symm.trans kuf) (by decide)) (fun z => z.elim (fun z => absurd (z.symm.trans kuf) (by decide)) (fun z => z.elim (fun z => absurd (z.symm.trans kuf) (by decide)) (fun z => absurd (z.symm.trans kuf) (by decide)))))))))))) (by rw [kuf]; decide)).trans (h2_q_1.G huf (show ¬ (sx_c6 h uf) from (sx_c6.n kuf (by decide))) (by rw [kuf]; decide))
  have z_40 : q_14.2.2.2.1 m19 = q.2.2.2.1 m19 := (h2_q_14.G hm19 (show ¬ (h.1 m19 = 12 ∨ h.1 m19 = 113 ∨ h.1 m19 = 133 ∨ h.1 m19 = 134 ∨ h.1 m19 = 135 ∨ h.1 m19 = 138 ∨ h.1 m19 = 139 ∨ h.1 m19 = 140 ∨ h.1 m19 = 136 ∨ h.1 m19 = 137) from (fun z => z.elim (fun z => absurd (z.symm.trans km19) (by decide)) (fun z => z.elim (fun z => absurd (z.symm.trans km19) (by decide)) (fun z => z.elim (fun z => absurd (z.symm.trans km19) (by decide)) (fun z => z.elim (fun z => absurd (z.symm.trans km19) (by decide)) (fun z => z.elim (fun z => absurd (z.symm.trans km19) (by decide)) (fun z => z.elim (fun z => absurd (z.symm.trans km19) (by decide)) (fun z => z.elim (fun z => absurd (z.symm.trans km19) (by decide)) (fun z => z.elim (fun z => absurd (z.symm.trans km19) (by decide)) (fun z => z.elim (fun z => absurd (z.symm.trans km19) (by decide)) (fun z => absurd (z.symm.trans km19) (by decide)))))))))))) (by rw [km19]; decide)).trans (h2_q_1.G hm19 (show ¬ (sx_c6 h m19) from (sx_c6.n km19 (by decide))) (by rw [km19]; decide))
  have z_41 : q_14.2.2.2.1 uw = q.2.2.2.1 uw := (h2_q_14.G huw (show ¬ (h.1 uw = 12 ∨ h.1 uw = 113 ∨ h.1 uw = 133 ∨ h.1 uw = 134 ∨ h.1 uw = 135 ∨ h.1 uw = 138 ∨ h.1 uw = 139 ∨ h.1 uw = 140 ∨ h.1 uw = 136 ∨ h.1 uw = 137) from (fun z => z.elim (fun z => absurd (z.symm.trans kuw) (by decide)) (fun z => z.elim (fun z => absurd (z.symm.trans kuw) (by decide)) (fun z => z.elim (fun z => absurd (z.symm.trans kuw) (by decide)) (fun z => z.elim (fun z => absurd (z.symm.trans kuw) (by decide)) (fun z => z.elim (fun z => absurd (z.symm.trans kuw) (by decide)) (fun z => z.elim (fun z => absurd (z.symm.trans kuw) (by decide)) (fun z => z.elim (fun z => absurd (z.symm.trans kuw) (by decide)) (fun z => z.elim (fun z => absurd (z.symm.trans kuw) (by decide)) (fun z => z.elim (fun z => absurd (z.symm.trans kuw) (by decide)) (fun z => absurd (z.symm.trans kuw) (by decide)))))))))))) (by rw [kuw]; decide)).trans (h2_q_1.G huw (show ¬ (sx_c6 h uw) from (sx_c6.n kuw (by decide))) (by rw [kuw]; decide))
  have z_42 : q_14.2.2.2.2 un = q.2.2.2.2 un := (h2_q_14.Lg hun (show ¬ (h.1 un = 12 ∨ h.1 un = 113 ∨ h.1 un = 133 ∨ h.1 un = 134 ∨ h.1 un = 135 ∨ h.1 un = 138 ∨ h.1 un = 139 ∨ h.1 un = 140 ∨ h.1 un = 136 ∨ h.1 un = 137) from (fun z => z.elim (fun z => absurd (z.symm.trans kun) (by decide)) (fun z => z.elim (fun z => absurd (z.symm.trans kun) (by decide)) (fun z => z.elim (fun z => absurd (z.symm.trans kun) (by decide)) (fun z => z.elim (fun z => absurd (z.symm.trans kun) (by decide)) (fun z => z.elim (fun z => absurd (z.symm.trans kun) (by decide)) (fun z => z.elim (fun z => absurd (z.symm.trans kun) (by decide)) (fun z => z.elim (fun z => absurd (z.symm.trans kun) (by decide)) (fun z => z.elim (fun z => absurd (z.symm.trans kun) (by decide)) (fun z => z.elim (fun z => absurd (z.symm.trans kun) (by decide)) (fun z => absurd (z.symm.trans kun) (by decide)))))))))))) (by rw [kun]; decide)).trans (h2_q_1.Lg hun (show ¬ (sx_c6 h un) from (sx_c6.n kun (by decide))) (by rw [kun]; decide))
  have z_43 : q_14.2.2.2.2 m17 = q.2.2.2.2 m17 := (h2_q_14.Lg hm17 (show ¬ (h.1 m17 = 12 ∨ h.1 m17 = 113 ∨ h.1 m17 = 133 ∨ h.1 m17 = 134 ∨ h.1 m17 = 135 ∨ h.1 m17 = 138 ∨ h.1 m17 = 139 ∨ h.1 m17 = 140 ∨ h.1 m17 = 136 ∨ h.1 m17 = 137) from (fun z => z.elim (fun z => absurd (z.symm.trans km17) (by decide)) (fun z => z.elim (fun z => absurd (z.symm.trans km17) (by decide)) (fun z => z.elim (fun z => absurd (z.symm.trans km17) (by decide)) (fun z => z.elim (fun z => absurd (z.symm.trans km17) (by decide)) (fun z => z.elim (fun z => absurd (z.symm.trans km17) (by decide)) (fun z => z.elim (fun z => absurd (z.symm.trans km17) (by decide)) (fun z => z.elim (fun z => absurd (z.symm.trans km17) (by decide)) (fun z => z.elim (fun z => absurd (z.symm.trans km17) (by decide)) (fun z => z.elim (fun z => absurd (z.symm.trans km17) (by decide)) (fun z => absurd (z.symm.trans km17) (by decide)))))))))))) (by rw [km17]; decide)).trans (h2_q_1.Lg hm17 (show ¬ (sx_c6 h m17) from (sx_c6.n km17 (by decide))) (by rw [km17]; decide))
  have hu9 : lc_uq8 q_14 a0 uu (mm 17) (mm 18) (mm 19) := by unfold lc_uq8; rw [← xm17, ← xm18, ← xm19, hR_uu, euc, euf, euw, eun, z_35, z_36, z_37, z_38, z_39, z_40, z_41, z_42, z_43]; exact hu
  have z_44 : q_14.2.2.1 x0 11 = uu := (h2_q_14.R hx0 (show ¬ ((h.1 x0 = 12 ∨ h.1 x0 = 113 ∨ h.1 x0 = 133 ∨ h.1 x0 = 134 ∨ h.1 x0 = 135 ∨ h.1 x0 = 138 ∨ h.1 x0 = 139 ∨ h.1 x0 = 140 ∨ h.1 x0 = 136 ∨ h.1 x0 = 137) ∧ (h.1 x0 = 8 ∨ h.1 x0 = 11)) from fun z9 => (show ¬ (h.1 x0 = 12 ∨ h.1 x0 = 113 ∨ h.1 x0 = 133 ∨ h.1 x0 = 134 ∨ h.1 x0 = 135 ∨ h.1 x0 = 138 ∨ h.1 x0 = 139 ∨ h.1 x0 = 140 ∨ h.1 x0 = 136 ∨ h.1 x0 = 137) from (fun z => z.elim (fun z => absurd (z.symm.trans kx0) (by decide)) (fun z => z.elim (fun z => absurd (z.symm.trans kx0) (by decide)) (fun z => z.elim (fun z => absurd (z.symm.trans kx0) (by decide)) (fun z => z.elim (fun z => absurd (z.symm.trans kx0) (by decide)) (fun z => z.elim (fun z => absurd (z.symm.trans kx0) (by decide)) (fun z => z.elim (fun z => absurd (z.symm.trans kx0) (by decide)) (fun z => z.elim (fun z => absurd (z.symm.trans kx0) (by decide)) (fun z => z.elim (fun z => absurd (z.symm.trans kx0) (by decide)) (fun z => z.elim (fun z => absurd (z.symm.trans kx0) (by decide)) (fun z => absurd (z.symm.trans kx0) (by decide)))))))))))) z9.1) 11).trans (hw_3.2.2.2.1)
  have z_45 : q_14.2.2.1 x0 12 = su := (h2_q_14.R hx0 (show ¬ ((h.1 x0 = 12 ∨ h.1 x0 = 113 ∨ h.1 x0 = 133 ∨ h.1 x0 = 134 ∨ h.1 x0 = 135 ∨ h.1 x0 = 138 ∨ h.1 x0 = 139 ∨ h.1 x0 = 140 ∨ h.1 x0 = 136 ∨ h.1 x0 = 137) ∧ (h.1 x0 = 8 ∨ h.1 x0 = 11)) from fun z9 => (show ¬ (h.1 x0 = 12 ∨ h.1 x0 = 113 ∨ h.1 x0 = 133 ∨ h.1 x0 = 134 ∨ h.1 x0 = 135 ∨ h.1 x0 = 138 ∨ h.1 x0 = 139 ∨ h.1 x0 = 140 ∨ h.1 x0 = 136 ∨ h.1 x0 = 137) from (fun z => z.elim (fun z => absurd (z.symm.trans kx0) (by decide)) (fun z => z.elim (fun z => absurd (z.symm.trans kx0) (by decide)) (fun z => z.elim (fun z => absurd (z.symm.trans kx0) (by decide)) (fun z => z.elim (fun z => absurd (z.symm.trans kx0) (by decide)) (fun z => z.elim (fun z => absurd (z.symm.trans kx0) (by decide)) (fun z => z.elim (fun z => absurd (z.symm.trans kx0) (by decide)) (fun z => z.elim (fun z => absurd (z.symm.trans kx0) (by decide)) (fun z => z.elim (fun z => absurd (z.symm.trans kx0) (by decide)) (fun z => z.elim (fun z => absurd (z.symm.trans kx0) (by decide)) (fun z => absurd (z.symm.trans kx0) (by decide)))))))))))) z9.1) 12).trans (hB_q_1)
  exact hcont _ _ (Or.inl rfl) ⟨⟨⟨hV_q_14, mN_q_14, by rw [← xm18, ← xm19]; exact mF_q_14, by rw [← xm17]; exact mU_q_14, by rw [← xm23, ← xm26, ← xm28, ← xm29]; exact mS_q_14, by rw [← xm40, ← xm41, ← xm44]; exact mL_q_14, z_23, fun k hk => by rw [show q_14.2.2.1 a0 = q_1.2.2.1 a0 from h2_q_14.2 a0 ha0 (fun z9 => absurd z9.2 (by omega)), show q_1.2.2.1 a0 = q.2.2.1 a0 from h2_q_1.2 a0 ha0 (fun z9 => absurd z9.2 (by omega))]; exact em k hk, by omega, by omega⟩, z_24, z_25, by rw [← xm1]; exact hT9, by rw [← xm44]; exact hR9⟩, uu, su, o0, ob, z_44, z_45, hdz.eq hR_uu hR_su, hu9, ⟨z_33, z_34⟩, hout9⟩
set_option maxHeartbeats 4000000 in
set_option maxRecDepth 100000 in
theorem lc6_378 (l : Launch) (hlst : l.stackTraces = false) {Z : Zt} (dC : Nat → ClassId) (dI : Nat → Nat → Nat) (h : Sh) (L : List Nat) (hN : sx_nd L) (B : BX dC dI h L 7 cL_law RL wsL_law Z) {b N : Nat} {xs : Nat → Int32} (hX : va_X b N xs Z.2.2.1 Z.2.2.1.heap) (hbl : b < Z.2.2.1.heap.size) (hbA : ¬ AL L Z.2.2.1.heap.size b) {x0 a0 ot t0 tb fa : Nat} (hfd : lc_fd h fa) {mm : Nat → Nat} (hx0 : x0 ∈ L) (kx0 : h.1 x0 = 11) (ha0 : a0 ∈ L) (ka0 : h.1 a0 = 12) (hot : ot ∈ L) (kot : h.1 ot = 200) (lot : h.2.1 ot = 1) {i : Int32} (hi0 : 0 ≤ i.toInt) (hi1 : i.toInt + 6 ≤ (N : Int)) (hN2 : N ≤ 3072) (hroom : (zl_more Z).2.2.2.2.2.2.2.2.2.1 ≤ room_1.cells ∧ (zl_more Z).2.2.2.2.2.2.2.2.2.2 ≤ room_1.slots) {q : Sg} (hI : lc_I8 h L x0 a0 t0 tb fa mm q) (hcont : ∀ (Z2 : Zt) (q2 : Sg), (Z2 = Z ∨ Z2 = zl_more Z) → lc_I8 h L x0 a0 t0 tb fa mm q2 → WA l dC dI h L room_1 7 Z2 q2 775 [(4, .int i), (3, .ref ot), (2, .ref a0), (1, .ref x0), (0, .ref b)] []) : WA l dC dI h L room_1 7 Z q 378 [(4, .int i), (3, .ref ot), (2, .ref a0), (1, .ref x0), (0, .ref b)] [] := by
  obtain ⟨hI, uu, su, o0, ob, euu, esu, hdz, hu0, ⟨eo0, eob⟩, hout0⟩ := hI
  obtain ⟨hI, etb, efa, hT0, hR0⟩ := hI
  obtain ⟨hV, mN, mF0, mU0, mS0, mL0, et0, em, hte, hfe⟩ := hI
  obtain ⟨ht0, kt0, lt0⟩ : t0 ∈ L ∧ h.1 t0 = 7 ∧ h.2.1 t0 = 1 := by obtain ⟨r9, e9, z1, z2, z3⟩ := hV.refn (t := 7) (n := 1) hx0 kx0 0 rfl (by decide) rfl (by decide); rw [← et0, e9]; exact ⟨z1, z2, z3⟩
  obtain ⟨m1, xm1⟩ : ∃ z, z = mm 1 := ⟨_, rfl⟩
  have em1 : q.2.2.1 a0 1 = m1 := by rw [xm1]; exact em 1 (by decide)
  obtain ⟨hm1, km1, lm1⟩ : m1 ∈ L ∧ h.1 m1 = 111 ∧ h.2.1 m1 = 440 := by obtain ⟨r9, e9, z1, z2, z3⟩ := hV.refn (t := 111) (n := 440) ha0 ka0 1 rfl (by decide) rfl (by decide); rw [← em1, e9]; exact ⟨z1, z2, z3⟩
  obtain ⟨m3, xm3⟩ : ∃ z, z = mm 3 := ⟨_, rfl⟩
  have em3 : q.2.2.1 a0 3 = m3 := by rw [xm3]; exact em 3 (by decide)
  obtain ⟨hm3, km3, lm3⟩ : m3 ∈ L ∧ h.1 m3 = 113 ∧ h.2.1 m3 = 500 := by obtain ⟨r9, e9, z1, z2, z3⟩ := hV.refn (t := 113) (n := 500) ha0 ka0 3 rfl (by decide) rfl (by decide); rw [← em3, e9]; exact ⟨z1, z2, z3⟩
  obtain ⟨m16, xm16⟩ : ∃ z, z = mm 16 := ⟨_, rfl⟩
  have em16 : q.2.2.1 a0 16 = m16 := by rw [xm16]; exact em 16 (by decide)
  obtain ⟨hm16, km16, lm16⟩ : m16 ∈ L ∧ h.1 m16 = 226 ∧ h.2.1 m16 = 6 := by obtain ⟨r9, e9, z1, z2, z3⟩ := hV.refn (t := 226) (n := 6) ha0 ka0 16 rfl (by decide) rfl (by decide); rw [← em16, e9]; exact ⟨z1, z2, z3⟩
  obtain ⟨m17, xm17⟩ : ∃ z, z = mm 17 := ⟨_, rfl⟩
  have em17 : q.2.2.1 a0 17 = m17 := by rw [xm17]; exact em 17 (by decide)
  obtain ⟨hm17, km17, lm17⟩ : m17 ∈ L ∧ h.1 m17 = 227 ∧ h.2.1 m17 = 30 := by obtain ⟨r9, e9, z1, z2, z3⟩ := hV.refn (t := 227) (n := 30) ha0 ka0 17 rfl (by decide) rfl (by decide); rw [← em17, e9]; exact ⟨z1, z2, z3⟩
  obtain ⟨m18, xm18⟩ : ∃ z, z = mm 18 := ⟨_, rfl⟩
  have em18 : q.2.2.1 a0 18 = m18 := by rw [xm18]; exact em 18 (by decide)
  obtain ⟨hm18, km18, lm18⟩ : m18 ∈ L ∧ h.1 m18 = 128 ∧ h.2.1 m18 = 6 := by obtain ⟨r9, e9, z1, z2, z3⟩ := hV.refn (t := 128) (n := 6) ha0 ka0 18 rfl (by decide) rfl (by decide); rw [← em18, e9]; exact ⟨z1, z2, z3⟩
  obtain ⟨m19, xm19⟩ : ∃ z, z = mm 19 := ⟨_, rfl⟩
  have em19 : q.2.2.1 a0 19 = m19 := by rw [xm19]; exact em 19 (by decide)
  obtain ⟨hm19, km19, lm19⟩ : m19 ∈ L ∧ h.1 m19 = 129 ∧ h.2.1 m19 = 30 := by obtain ⟨r9, e9, z1, z2, z3⟩ := hV.refn (t := 129) (n := 30) ha0 ka0 19 rfl (by decide) rfl (by decide); rw [← em19, e9]; exact ⟨z1, z2, z3⟩
  obtain ⟨m21, xm21⟩ : ∃ z, z = mm 21 := ⟨_, rfl⟩
  have em21 : q.2.2.1 a0 21 = m21 := by rw [xm21]; exact em 21 (by decide)
  obtain ⟨hm21, km21, lm21⟩ : m21 ∈ L ∧ h.1 m21 = 131 ∧ h.2.1 m21 = 80 := by obtain ⟨r9, e9, z1, z2, z3⟩ := hV.refn (t := 131) (n := 80) ha0 ka0 21 rfl (by decide) rfl (by decide); rw [← em21, e9]; exact ⟨z1, z2, z3⟩
  obtain ⟨m23, xm23⟩ : ∃ z, z = mm 23 := ⟨_, rfl⟩
  have em23 : q.2.2.1 a0 23 = m23 := by rw [xm23]; exact em 23 (by decide)
  obtain ⟨hm23, km23, lm23⟩ : m23 ∈ L ∧ h.1 m23 = 133 ∧ h.2.1 m23 = 9 := by obtain ⟨r9, e9, z1, z2, z3⟩ := hV.refn (t := 133) (n := 9) ha0 ka0 23 rfl (by decide) rfl (by decide); rw [← em23, e9]; exact ⟨z1, z2, z3⟩
  obtain ⟨m24, xm24⟩ : ∃ z, z = mm 24 := ⟨_, rfl⟩
  have em24 : q.2.2.1 a0 24 = m24 := by rw [xm24]; exact em 24 (by decide)
  obtain ⟨hm24, km24, lm24⟩ : m24 ∈ L ∧ h.1 m24 = 134 ∧ h.2.1 m24 = 108 := by obtain ⟨r9, e9, z1, z2, z3⟩ := hV.refn (t := 134) (n := 108) ha0 ka0 24 rfl (by decide) rfl (by decide); rw [← em24, e9]; exact ⟨z1, z2, z3⟩
  obtain ⟨m25, xm25⟩ : ∃ z, z = mm 25 := ⟨_, rfl⟩
  have em25 : q.2.2.1 a0 25 = m25 := by rw [xm25]; exact em 25 (by decide)
  obtain ⟨hm25, km25, lm25⟩ : m25 ∈ L ∧ h.1 m25 = 135 ∧ h.2.1 m25 = 108 := by obtain ⟨r9, e9, z1, z2, z3⟩ := hV.refn (t := 135) (n := 108) ha0 ka0 25 rfl (by decide) rfl (by decide); rw [← em25, e9]; exact ⟨z1, z2, z3⟩
  obtain ⟨m26, xm26⟩ : ∃ z, z = mm 26 := ⟨_, rfl⟩
  have em26 : q.2.2.1 a0 26 = m26 := by rw [xm26]; exact em 26 (by decide)
  obtain ⟨hm26, km26, lm26⟩ : m26 ∈ L ∧ h.1 m26 = 136 ∧ h.2.1 m26 = 108 := by obtain ⟨r9, e9, z1, z2, z3⟩ := hV.refn (t := 136) (n := 108) ha0 ka0 26 rfl (by decide) rfl (by decide); rw [← em26, e9]; exact ⟨z1, z2, z3⟩
  obtain ⟨m27, xm27⟩ : ∃ z, z = mm 27 := ⟨_, rfl⟩
  have em27 : q.2.2.1 a0 27 = m27 := by rw [xm27]; exact em 27 (by decide)
  obtain ⟨hm27, km27, lm27⟩ : m27 ∈ L ∧ h.1 m27 = 137 ∧ h.2.1 m27 = 9 := by obtain ⟨r9, e9, z1, z2, z3⟩ := hV.refn (t := 137) (n := 9) ha0 ka0 27 rfl (by decide) rfl (by decide); rw [← em27, e9]; exact ⟨z1, z2, z3⟩
  obtain ⟨m28, xm28⟩ : ∃ z, z = mm 28 := ⟨_, rfl⟩
  have em28 : q.2.2.1 a0 28 = m28 := by rw [xm28]; exact em 28 (by decide)
  obtain ⟨hm28, km28, lm28⟩ : m28 ∈ L ∧ h.1 m28 = 138 ∧ h.2.1 m28 = 540 := by obtain ⟨r9, e9, z1, z2, z3⟩ := hV.refn (t := 138) (n := 540) ha0 ka0 28 rfl (by decide) rfl (by decide); rw [← em28, e9]; exact ⟨z1, z2, z3⟩
  obtain ⟨m29, xm29⟩ : ∃ z, z = mm 29 := ⟨_, rfl⟩
  have em29 : q.2.2.1 a0 29 = m29 := by rw [xm29]; exact em 29 (by decide)
  obtain ⟨hm29, km29, lm29⟩ : m29 ∈ L ∧ h.1 m29 = 139 ∧ h.2.1 m29 = 540 := by obtain ⟨r9, e9, z1, z2, z3⟩ := hV.refn (t := 139) (n := 540) ha0 ka0 29 rfl (by decide) rfl (by decide); rw [← em29, e9]; exact ⟨z1, z2, z3⟩
  obtain ⟨m30, xm30⟩ : ∃ z, z = mm 30 := ⟨_, rfl⟩
  have em30 : q.2.2.1 a0 30 = m30 := by rw [xm30]; exact em 30 (by decide)
  obtain ⟨hm30, km30, lm30⟩ : m30 ∈ L ∧ h.1 m30 = 140 ∧ h.2.1 m30 = 540 := by obtain ⟨r9, e9, z1, z2, z3⟩ := hV.refn (t := 140) (n := 540) ha0 ka0 30 rfl (by decide) rfl (by decide); rw [← em30, e9]; exact ⟨z1, z2, z3⟩
  obtain ⟨m34, xm34⟩ : ∃ z, z = mm 34 := ⟨_, rfl⟩
  have em34 : q.2.2.1 a0 34 = m34 := by rw [xm34]; exact em 34 (by decide)
  obtain ⟨hm34, km34, lm34⟩ : m34 ∈ L ∧ h.1 m34 = 144 ∧ h.2.1 m34 = 4 := by obtain ⟨r9, e9, z1, z2, z3⟩ := hV.refn (t := 144) (n := 4) ha0 ka0 34 rfl (by decide) rfl (by decide); rw [← em34, e9]; exact ⟨z1, z2, z3⟩
  obtain ⟨m35, xm35⟩ : ∃ z, z = mm 35 := ⟨_, rfl⟩
  have em35 : q.2.2.1 a0 35 = m35 := by rw [xm35]; exact em 35 (by decide)
  obtain ⟨hm35, km35, lm35⟩ : m35 ∈ L ∧ h.1 m35 = 245 ∧ h.2.1 m35 = 12 := by obtain ⟨r9, e9, z1, z2, z3⟩ := hV.refn (t := 245) (n := 12) ha0 ka0 35 rfl (by decide) rfl (by decide); rw [← em35, e9]; exact ⟨z1, z2, z3⟩
  obtain ⟨m40, xm40⟩ : ∃ z, z = mm 40 := ⟨_, rfl⟩
  have em40 : q.2.2.1 a0 40 = m40 := by rw [xm40]; exact em 40 (by decide)
  obtain ⟨hm40, km40, lm40⟩ : m40 ∈ L ∧ h.1 m40 = 150 ∧ h.2.1 m40 = 2400 := by obtain ⟨r9, e9, z1, z2, z3⟩ := hV.refn (t := 150) (n := 2400) ha0 ka0 40 rfl (by decide) rfl (by decide); rw [← em40, e9]; exact ⟨z1, z2, z3⟩
  obtain ⟨m41, xm41⟩ : ∃ z, z = mm 41 := ⟨_, rfl⟩
  have em41 : q.2.2.1 a0 41 = m41 := by rw [xm41]; exact em 41 (by decide)
  obtain ⟨hm41, km41, lm41⟩ : m41 ∈ L ∧ h.1 m41 = 151 ∧ h.2.1 m41 = 12 := by obtain ⟨r9, e9, z1, z2, z3⟩ := hV.refn (t := 151) (n := 12) ha0 ka0 41 rfl (by decide) rfl (by decide); rw [← em41, e9]; exact ⟨z1, z2, z3⟩
  obtain ⟨m42, xm42⟩ : ∃ z, z = mm 42 := ⟨_, rfl⟩
  have em42 : q.2.2.1 a0 42 = m42 := by rw [xm42]; exact em 42 (by decide)
  obtain ⟨hm42, km42, lm42⟩ : m42 ∈ L ∧ h.1 m42 = 152 ∧ h.2.1 m42 = 12 := by obtain ⟨r9, e9, z1, z2, z3⟩ := hV.refn (t := 152) (n := 12) ha0 ka0 42 rfl (by decide) rfl (by decide); rw [← em42, e9]; exact ⟨z1, z2, z3⟩
  obtain ⟨m43, xm43⟩ : ∃ z, z = mm 43 := ⟨_, rfl⟩
  have em43 : q.2.2.1 a0 43 = m43 := by rw [xm43]; exact em 43 (by decide)
  obtain ⟨hm43, km43, lm43⟩ : m43 ∈ L ∧ h.1 m43 = 153 ∧ h.2.1 m43 = 12 := by obtain ⟨r9, e9, z1, z2, z3⟩ := hV.refn (t := 153) (n := 12) ha0 ka0 43 rfl (by decide) rfl (by decide); rw [← em43, e9]; exact ⟨z1, z2, z3⟩
  obtain ⟨m44, xm44⟩ : ∃ z, z = mm 44 := ⟨_, rfl⟩
  have em44 : q.2.2.1 a0 44 = m44 := by rw [xm44]; exact em 44 (by decide)
  obtain ⟨hm44, km44, lm44⟩ : m44 ∈ L ∧ h.1 m44 = 154 ∧ h.2.1 m44 = 12 := by obtain ⟨r9, e9, z1, z2, z3⟩ := hV.refn (t := 154) (n := 12) ha0 ka0 44 rfl (by decide) rfl (by decide); rw [← em44, e9]; exact ⟨z1, z2, z3⟩
  obtain ⟨m46, xm46⟩ : ∃ z, z = mm 46 := ⟨_, rfl⟩
  have em46 : q.2.2.1 a0 46 = m46 := by rw [xm46]; exact em 46 (by decide)
  obtain ⟨hm46, km46, lm46⟩ : m46 ∈ L ∧ h.1 m46 = 156 ∧ h.2.1 m46 = 144 := by obtain ⟨r9, e9, z1, z2, z3⟩ := hV.refn (t := 156) (n := 144) ha0 ka0 46 rfl (by decide) rfl (by decide); rw [← em46, e9]; exact ⟨z1, z2, z3⟩
  obtain ⟨m47, xm47⟩ : ∃ z, z = mm 47 := ⟨_, rfl⟩
  have em47 : q.2.2.1 a0 47 = m47 := by rw [xm47]; exact em 47 (by decide)
  obtain ⟨hm47, km47, lm47⟩ : m47 ∈ L ∧ h.1 m47 = 157 ∧ h.2.1 m47 = 4096 := by obtain ⟨r9, e9, z1, z2, z3⟩ := hV.refn (t := 157) (n := 4096) ha0 ka0 47 rfl (by decide) rfl (by decide); rw [← em47, e9]; exact ⟨z1, z2, z3⟩
  obtain ⟨m48, xm48⟩ : ∃ z, z = mm 48 := ⟨_, rfl⟩
  have em48 : q.2.2.1 a0 48 = m48 := by rw [xm48]; exact em 48 (by decide)
  obtain ⟨hm48, km48, lm48⟩ : m48 ∈ L ∧ h.1 m48 = 158 ∧ h.2.1 m48 = 12 := by obtain ⟨r9, e9, z1, z2, z3⟩ := hV.refn (t := 158) (n := 12) ha0 ka0 48 rfl (by decide) rfl (by decide); rw [← em48, e9]; exact ⟨z1, z2, z3⟩
  have mF : mv_F m18 m19 q := by rw [xm18, xm19]; exact mF0
  have mU : mv_U m17 q := by rw [xm17]; exact mU0
  have mS : mv_S m23 m26 m28 m29 q := by rw [xm23, xm26, xm28, xm29]; exact mS0
  have mL : mv_L m40 m41 m44 a0 q := by rw [xm40, xm41, xm44]; exact mL0
  have hF : sx_fr h L (fun _ => True) q q := sx_fr.rf
  obtain ⟨htb, ktb, ltb⟩ : tb ∈ L ∧ h.1 tb = 300 ∧ h.2.1 tb = 440 := by obtain ⟨r9, e9, z1, z2, z3⟩ := hV.refn (t := 300) (n := 440) ht0 kt0 0 rfl (by decide) (by rw [lt0]; rfl) (by decide); rw [← etb, e9]; exact ⟨z1, z2, z3⟩
  obtain ⟨hfa, kfa, lfa⟩ : fa ∈ L ∧ h.1 fa = 403 ∧ h.2.1 fa = 12 := by obtain ⟨r9, e9, z1, z2, z3⟩ := hV.refn (t := 403) (n := 12) hx0 kx0 9 rfl (by decide) rfl (by decide); rw [← efa, e9]; exact ⟨z1, z2, z3⟩
  have hT : ty_T (q.2.2.2.1 tb) (q.2.2.2.1 m1) (q.1 t0 1).toInt.toNat := by rw [xm1]; exact hT0
  have hR : lc_R h fa m44 x0 q := by rw [xm44]; exact hR0
  have gx14 : (0 : Int) ≤ (q.1 x0 14).toInt ∧ (q.1 x0 14).toInt ≤ 12 := hV.int hx0 kx0 14
  have gt1 : (0 : Int) ≤ (q.1 t0 1).toInt ∧ (q.1 t0 1).toInt ≤ 440 := by have z9 := hV.int ht0 kt0 1; rw [etb, ltb] at z9; exact z9
  obtain ⟨huu, kuu⟩ : uu ∈ L ∧ h.1 uu = 9 := by obtain ⟨r9, e9, z1, z2⟩ := hV.ref (t := 9) hx0 kx0 11 rfl (by decide); rw [← euu, e9]; exact ⟨z1, z2⟩
  obtain ⟨hsu, ksu⟩ : su ∈ L ∧ h.1 su = 9 := by obtain ⟨r9, e9, z1, z2⟩ := hV.ref (t := 9) hx0 kx0 12 rfl (by decide); rw [← esu, e9]; exact ⟨z1, z2⟩
  have nuu_su : ¬ uu = su := hdz.1
  obtain ⟨uc, euc⟩ : ∃ z, q.2.2.1 uu 1 = z := ⟨_, rfl⟩
  obtain ⟨huc, kuc, luc⟩ : uc ∈ L ∧ h.1 uc = 101 ∧ h.2.1 uc = 3 := by obtain ⟨r9, e9, z1, z2, z3⟩ := hV.refn (t := 101) (n := 3) huu kuu 1 rfl (by decide) rfl (by decide); rw [← euc, e9]; exact ⟨z1, z2, z3⟩
  obtain ⟨un, eun⟩ : ∃ z, q.2.2.1 uu 2 = z := ⟨_, rfl⟩
  obtain ⟨hun, kun, lun⟩ : un ∈ L ∧ h.1 un = 202 ∧ h.2.1 un = 15 := by obtain ⟨r9, e9, z1, z2, z3⟩ := hV.refn (t := 202) (n := 15) huu kuu 2 rfl (by decide) rfl (by decide); rw [← eun, e9]; exact ⟨z1, z2, z3⟩
  obtain ⟨uf, euf⟩ : ∃ z, q.2.2.1 uu 3 = z := ⟨_, rfl⟩
  obtain ⟨huf, kuf, luf⟩ : uf ∈ L ∧ h.1 uf = 102 ∧ h.2.1 uf = 15 := by obtain ⟨r9, e9, z1, z2, z3⟩ := hV.refn (t := 102) (n := 15) huu kuu 3 rfl (by decide) rfl (by decide); rw [← euf, e9]; exact ⟨z1, z2, z3⟩
  obtain ⟨uw, euw⟩ : ∃ z, q.2.2.1 uu 4 = z := ⟨_, rfl⟩
  obtain ⟨huw, kuw, luw⟩ : uw ∈ L ∧ h.1 uw = 103 ∧ h.2.1 uw = 15 := by obtain ⟨r9, e9, z1, z2, z3⟩ := hV.refn (t := 103) (n := 15) huu kuu 4 rfl (by decide) rfl (by decide); rw [← euw, e9]; exact ⟨z1, z2, z3⟩
  have hu : lc_u8 (q.1 uu 6) (q.1 a0 20) (q.2.2.2.1 uc) (q.2.2.2.1 m18) (q.2.2.2.1 uf) (q.2.2.2.1 m19) (q.2.2.2.1 uw) (q.2.2.2.2 un) (q.2.2.2.2 m17) := by rw [← euc, ← euf, ← euw, ← eun, xm17, xm18, xm19]; exact hu0
  obtain ⟨ho0, ko0, lo0⟩ : o0 ∈ L ∧ h.1 o0 = 7 ∧ h.2.1 o0 = 2 := by obtain ⟨r9, e9, z1, z2, z3⟩ := hV.refn (t := 7) (n := 2) hx0 kx0 1 rfl (by decide) rfl (by decide); rw [← eo0, e9]; exact ⟨z1, z2, z3⟩
  obtain ⟨hob, kob, lob⟩ : ob ∈ L ∧ h.1 ob = 300 ∧ h.2.1 ob = 59 := by obtain ⟨r9, e9, z1, z2, z3⟩ := hV.refn (t := 300) (n := 59) ho0 ko0 0 rfl (by decide) (by rw [lo0]; rfl) (by decide); rw [← eob, e9]; exact ⟨z1, z2, z3⟩
  have nt0_o0 : ¬ t0 = o0 := fun z9 => absurd (z9 ▸ lt0 : h.2.1 o0 = 1) (by rw [lo0]; decide)
  have ntb_ob : ¬ tb = ob := fun z9 => absurd (z9 ▸ ltb : h.2.1 ob = 440) (by rw [lob]; decide)
  have hout : lc_o (q.1 o0 1) (q.1 a0 22) (q.2.2.2.1 ob) (q.2.2.2.1 m21) := by rw [xm21]; exact hout0
  refine wa_aload_n B dL_law_378 rfl 3 rfl ?_
  refine wa_aload_n B dL_law_379 rfl 4 rfl ?_
  refine wa_iload B dL_law_380 0 rfl ?_
  refine wa_iconst B 1 dL_law_382 (by decide) ?_
  refine wa_iadd B dL_law_383 (fun v_1 ev_1 => ?_)
  subst ev_1
  have t_2 : (i + 1).toInt = i.toInt + 1 := by have b0 := zx_bd i; exact zx_add (show (-2147483648 : Int) ≤ i.toInt + 1 by omega) (show i.toInt + 1 < (2147483648 : Int) by omega)
  refine wa_sld B hX hbl hbA (i := (i + 1)) (show 0 ≤ (i + 1).toInt by omega) (show (i + 1).toInt < (N : Int) by omega) dL_law_384 ?_
  refine wa_aload_n B dL_law_385 rfl 4 rfl ?_
  refine wa_iload B dL_law_386 0 rfl ?_
  refine wa_iconst B 2 dL_law_388 (by decide) ?_
  refine wa_iadd B dL_law_389 (fun v_3 ev_3 => ?_)
  subst ev_3
  have t_4 : (i + 2).toInt = i.toInt + 2 := by have b0 := zx_bd i; exact zx_add (show (-2147483648 : Int) ≤ i.toInt + 2 by omega) (show i.toInt + 2 < (2147483648 : Int) by omega)
  refine wa_sld B hX hbl hbA (i := (i + 2)) (show 0 ≤ (i + 2).toInt by omega) (show (i + 2).toInt < (N : Int) by omega) dL_law_390 ?_
  refine wa_aload_n B dL_law_391 rfl 4 rfl ?_
  refine wa_iload B dL_law_392 0 rfl ?_
  refine wa_iconst B 3 dL_law_394 (by decide) ?_
  refine wa_iadd B dL_law_395 (fun v_5 ev_5 => ?_)
  subst ev_5
  have t_6 : (i + 3).toInt = i.toInt + 3 := by have b0 := zx_bd i; exact zx_add (show (-2147483648 : Int) ≤ i.toInt + 3 by omega) (show i.toInt + 3 < (2147483648 : Int) by omega)
  refine wa_sld B hX hbl hbA (i := (i + 3)) (show 0 ≤ (i + 3).toInt by omega) (show (i + 3).toInt < (N : Int) by omega) dL_law_396 ?_
  refine wa_aload_n B dL_law_397 rfl 1 rfl ?_
  refine wa_callW B (As := [.ref x0, .int ((xs ((i + 1) : Int32).toNatClampNeg)), .int ((xs ((i + 2) : Int32).toNatClampNeg)), .int ((xs ((i + 3) : Int32).toNatClampNeg)), .ref ot]) (rest := []) (kl6_line l hlst dC dI h L hN q hV (a0 := x0) hx0 kx0 (t0 := t0) et0 (tb := tb) etb (fa := fa) efa (uu := uu) euu (o0 := o0) eo0 (ob := ob) eob ((xs ((i + 1) : Int32).toNatClampNeg)) ((xs ((i + 2) : Int32).toNatClampNeg)) ((xs ((i + 3) : Int32).toNatClampNeg)) (ot := ot) hot kot lot) (vx_cwSW 5 B.1.2.2.2.2 gL_law_L_line rfl rfl rfl (by decide +kernel) ⟨Nat.le_of_ble_eq_true rfl, Nat.le_of_ble_eq_true rfl⟩) rfl rfl (Nat.le_of_ble_eq_true rfl) dL_law_398 hroom (fun r_8 q_7 w_9 => ?_)
  obtain ⟨hV_q_7, h2_q_7, h5_q_7, h6_q_7, h7_q_7, h8_q_7, h9_q_7, hA_q_7, hO_q_7⟩ := w_9
  have B := zl_moreB B
  have mN_q_7 : mv_N a0 q_7 := mv_N.eq (h2_q_7.I ha0 (show ¬ (sx_c6 h a0) from (sx_c6.n ka0 (by decide))) 8) (h2_q_7.J ha0 (show ¬ (sx_c6 h a0) from (sx_c6.n ka0 (by decide))) 11) mN
  have mF_q_7 : mv_F m18 m19 q_7 := mv_F.eq (h2_q_7.G hm18 (show ¬ (sx_c6 h m18) from (sx_c6.n km18 (by decide))) (by rw [km18]; decide)) (h2_q_7.G hm19 (show ¬ (sx_c6 h m19) from (sx_c6.n km19 (by decide))) (by rw [km19]; decide)) mF
  have mU_q_7 : mv_U m17 q_7 := mv_U.eq (h2_q_7.Lg hm17 (show ¬ (sx_c6 h m17) from (sx_c6.n km17 (by decide))) (by rw [km17]; decide)) mU
  have mS_q_7 : mv_S m23 m26 m28 m29 q_7 := mv_S.eq (h2_q_7.G hm23 (show ¬ (sx_c6 h m23) from (sx_c6.n km23 (by decide))) (by rw [km23]; decide)) (h2_q_7.G hm26 (show ¬ (sx_c6 h m26) from (sx_c6.n km26 (by decide))) (by rw [km26]; decide)) (h2_q_7.G hm28 (show ¬ (sx_c6 h m28) from (sx_c6.n km28 (by decide))) (by rw [km28]; decide)) (h2_q_7.G hm29 (show ¬ (sx_c6 h m29) from (sx_c6.n km29 (by decide))) (by rw [km29]; decide)) mS
  have mL_q_7 : mv_L m40 m41 m44 a0 q_7 := mv_L.eq (h2_q_7.G hm40 (show ¬ (sx_c6 h m40) from (sx_c6.n km40 (by decide))) (by rw [km40]; decide)) (h2_q_7.G hm41 (show ¬ (sx_c6 h m41) from (sx_c6.n km41 (by decide))) (by rw [km41]; decide)) (h2_q_7.G hm44 (show ¬ (sx_c6 h m44) from (sx_c6.n km44 (by decide))) (by rw [km44]; decide)) (h2_q_7.I ha0 (show ¬ (sx_c6 h a0) from (sx_c6.n ka0 (by decide))) 45) mL
  have hB_q_7 := h9_q_7.trans esu
  refine wa_istore B [(5, .int r_8), (4, .int i), (3, .ref ot), (2, .ref a0), (1, .ref x0), (0, .ref b)] dL_law_401 (by decide) rfl ?_
  refine wa_aload_n B dL_law_403 rfl 3 rfl ?_
  refine wa_aload_n B dL_law_404 rfl 5 rfl ?_
  refine wa_iload B dL_law_405 1 rfl ?_
  refine wa_iconst B 1 dL_law_407 (by decide) ?_
  refine wa_iadd B dL_law_408 (fun v_10 ev_10 => ?_)
  subst ev_10
  refine wa_sld B hX hbl hbA (i := (i + 1)) (show 0 ≤ (i + 1).toInt by omega) (show (i + 1).toInt < (N : Int) by omega) dL_law_409 ?_
  refine wa_aload_n B dL_law_410 rfl 5 rfl ?_
  refine wa_iload B dL_law_411 1 rfl ?_
  refine wa_iconst B 2 dL_law_413 (by decide) ?_
  refine wa_iadd B dL_law_414 (fun v_11 ev_11 => ?_)
  subst ev_11
  refine wa_sld B hX hbl hbA (i := (i + 2)) (show 0 ≤ (i + 2).toInt by omega) (show (i + 2).toInt < (N : Int) by omega) dL_law_415 ?_
  refine wa_aload_n B dL_law_416 rfl 5 rfl ?_
  refine wa_iload B dL_law_417 1 rfl ?_
  refine wa_iconst B 3 dL_law_419 (by decide) ?_
  refine wa_iadd B dL_law_420 (fun v_12 ev_12 => ?_)
  subst ev_12
  refine wa_sld B hX hbl hbA (i := (i + 3)) (show 0 ≤ (i + 3).toInt by omega) (show (i + 3).toInt < (N : Int) by omega) dL_law_421 ?_
  refine wa_callVi B (x := (RX12, TX12, 51)) (As := [.int ((xs ((i + 1) : Int32).toNatClampNeg)), .int ((xs ((i + 2) : Int32).toNatClampNeg)), .int ((xs ((i + 3) : Int32).toNatClampNeg))]) (rest := []) (k_X12_line l dC dI h L hN q_7 hV_q_7 (a0 := a0) ha0 ka0 ((xs ((i + 1) : Int32).toNatClampNeg)) ((xs ((i + 2) : Int32).toNatClampNeg)) ((xs ((i + 3) : Int32).toNatClampNeg))  ) (cwV 3 B.1.2.2.2.2 gL_law_X12_line rfl rfl rfl (by decide +kernel) ⟨Nat.le_of_ble_eq_true rfl, Nat.le_of_ble_eq_true rfl⟩) ha0 ka0 (by decide) rfl rfl rfl (Nat.le_of_ble_eq_true rfl) dL_law_422 (fun r_14 q_13 w_15 => ?_)
  obtain ⟨hV_q_13, h2_q_13, h3_q_13⟩ := w_15
  have mN_q_13 : mv_N a0 q_13 := mv_N.eq (h3_q_13.1 8 (by decide)) (h3_q_13.2 11 (by decide)) mN_q_7
  have mF_q_13 : mv_F m18 m19 q_13 := mv_F.eq (h2_q_13.G hm18 (show ¬ (h.1 m18 = 12) from (fun z => absurd (z.symm.trans km18) (by decide))) (by rw [km18]; decide)) (h2_q_13.G hm19 (show ¬ (h.1 m19 = 12) from (fun z => absurd (z.symm.trans km19) (by decide))) (by rw [km19]; decide)) mF_q_7
  have mU_q_13 : mv_U m17 q_13 := mv_U.eq (h2_q_13.Lg hm17 (show ¬ (h.1 m17 = 12) from (fun z => absurd (z.symm.trans km17) (by decide))) (by rw [km17]; decide)) mU_q_7
  have mS_q_13 : mv_S m23 m26 m28 m29 q_13 := mv_S.eq (h2_q_13.G hm23 (show ¬ (h.1 m23 = 12) from (fun z => absurd (z.symm.trans km23) (by decide))) (by rw [km23]; decide)) (h2_q_13.G hm26 (show ¬ (h.1 m26 = 12) from (fun z => absurd (z.symm.trans km26) (by decide))) (by rw [km26]; decide)) (h2_q_13.G hm28 (show ¬ (h.1 m28 = 12) from (fun z => absurd (z.symm.trans km28) (by decide))) (by rw [km28]; decide)) (h2_q_13.G hm29 (show ¬ (h.1 m29 = 12) from (fun z => absurd (z.symm.trans km29) (by decide))) (by rw [km29]; decide)) mS_q_7
  have mL_q_13 : mv_L m40 m41 m44 a0 q_13 := mv_L.eq (h2_q_13.G hm40 (show ¬ (h.1 m40 = 12) from (fun z => absurd (z.symm.trans km40) (by decide))) (by rw [km40]; decide)) (h2_q_13.G hm41 (show ¬ (h.1 m41 = 12) from (fun z => absurd (z.symm.trans km41) (by decide))) (by rw [km41]; decide)) (h2_q_13.G hm44 (show ¬ (h.1 m44 = 12) from (fun z => absurd (z.symm.trans km44) (by decide))) (by rw [km44]; decide)) (h3_q_13.1 45 (by decide)) mL_q_7
  refine wa_istore B [(6, .int r_14), (5, .int r_8), (4, .int i), (3, .ref ot), (2, .ref a0), (1, .ref x0), (0, .ref b)] dL_law_425 (by decide) rfl ?_
  refine wa_goto B 775 dL_law_427 (by decide) ?_
  have z_16 : q_13.1 a0 2 = q.1 a0 2 := (h3_q_13.1 2 (by decide)).trans (h2_q_7.I ha0 (show ¬ (sx_c6 h a0) from (sx_c6.n ka0 (by decide))) 2)
  have y_17 : (q_13.1 a0 2).toInt = (q.1 a0 2).toInt := by rw [z_16]
  have z_18 : q_13.1 a0 45 = q.1 a0 45 := (h3_q_13.1 45 (by decide)).trans (h2_q_7.I ha0 (show ¬ (sx_c6 h a0) from (sx_c6.n ka0 (by decide))) 45)
  have y_19 : (q_13.1 a0 45).toInt = (q.1 a0 45).toInt := by rw [z_18]
  have z_20 : q_13.1 t0 1 = q_7.1 t0 1 := h2_q_13.I ht0 (show ¬ (h.1 t0 = 12) from (fun z => absurd (z.symm.trans kt0) (by decide))) 1
  have y_21 : (q_13.1 t0 1).toInt = (q_7.1 t0 1).toInt := by rw [z_20]
  have z_22 : q_13.1 x0 14 = q_7.1 x0 14 := h2_q_13.I hx0 (show ¬ (h.1 x0 = 12) from (fun z => absurd (z.symm.trans kx0) (by decide))) 14
  have y_23 : (q_13.1 x0 14).toInt = (q_7.1 x0 14).toInt := by rw [z_22]
  have z_24 : q_13.2.2.1 x0 0 = t0 := (h2_q_13.R hx0 (show ¬ ((h.1 x0 = 12) ∧ (h.1 x0 = 8 ∨ h.1 x0 = 11)) from fun z9 => (show ¬ (h.1 x0 = 12) from (fun z => absurd (z.symm.trans kx0) (by decide))) z9.1) 0).trans (h5_q_7)
  have z_25 : q_13.2.2.1 t0 0 = tb := (h2_q_13.R ht0 (fun z9 => absurd z9.2 (by omega)) 0).trans ((h2_q_7.R ht0 (fun z9 => absurd z9.2 (by omega)) 0).trans (etb))
  have z_26 : q_13.2.2.1 x0 9 = fa := (h2_q_13.R hx0 (show ¬ ((h.1 x0 = 12) ∧ (h.1 x0 = 8 ∨ h.1 x0 = 11)) from fun z9 => (show ¬ (h.1 x0 = 12) from (fun z => absurd (z.symm.trans kx0) (by decide))) z9.1) 9).trans (hA_q_7)
  have z_27 : q_13.2.2.2.1 tb = q.2.2.2.1 tb := (h2_q_13.G htb (show ¬ (h.1 tb = 12) from (fun z => absurd (z.symm.trans ktb) (by decide))) (by rw [ktb]; decide)).trans (h2_q_7.G htb (show ¬ (sx_c6 h tb) from (sx_c6.t ktb ltb)) (by rw [ktb]; decide))
  have z_28 : q_13.2.2.2.1 m1 = q.2.2.2.1 m1 := (h2_q_13.G hm1 (show ¬ (h.1 m1 = 12) from (fun z => absurd (z.symm.trans km1) (by decide))) (by rw [km1]; decide)).trans (h2_q_7.G hm1 (show ¬ (sx_c6 h m1) from (sx_c6.n km1 (by decide))) (by rw [km1]; decide))
  have hT9 : ty_T (q_13.2.2.2.1 tb) (q_13.2.2.2.1 m1) (q_13.1 t0 1).toInt.toNat := by rw [z_27, z_28]; exact hT.le (by omega)
  have z_29 : q_13.2.2.2.1 m44 = q.2.2.2.1 m44 := (h2_q_13.G hm44 (show ¬ (h.1 m44 = 12) from (fun z => absurd (z.symm.trans km44) (by decide))) (by rw [km44]; decide)).trans (h2_q_7.G hm44 (show ¬ (sx_c6 h m44) from (sx_c6.n km44 (by decide))) (by rw [km44]; decide))
  have hR9 : lc_R h fa m44 x0 q_13 := by
    intro f hf
    obtain ⟨e9, ee9, he9, ke9⟩ := hV.elem (t := 0) hfa kfa (by decide) rfl (j := f) (by omega)
    rw [ee9, show q_13.1 e9 3 = q_7.1 e9 3 from h2_q_13.I he9 (show ¬ (h.1 e9 = 12) from by omega) 3, show q_7.1 e9 3 = q.1 e9 3 from h2_q_7.I he9 (show ¬ (sx_c6 h e9) from by (try unfold sx_mk at *); (try unfold sx_ck at *); (try unfold sx_c6 at *); omega) 3, ← ee9, z_29]
    exact hR f (by omega)
  refine WA.sub [2, 3, 4, 5, 6] rfl ?_
  have hR_uu : q_13.2.2.1 uu = q.2.2.1 uu := by rw [show q_13.2.2.1 uu = q_7.2.2.1 uu from h2_q_13.2 uu huu (fun z9 => absurd z9.2 (by rw [kuu]; decide)), show q_7.2.2.1 uu = q.2.2.1 uu from h2_q_7.2 uu huu (fun z9 => absurd z9.2 (by rw [kuu]; decide))]
  have hR_su : q_13.2.2.1 su = q.2.2.1 su := by rw [show q_13.2.2.1 su = q_7.2.2.1 su from h2_q_13.2 su hsu (fun z9 => absurd z9.2 (by rw [ksu]; decide)), show q_7.2.2.1 su = q.2.2.1 su from h2_q_7.2 su hsu (fun z9 => absurd z9.2 (by rw [ksu]; decide))]
  have z_30 : q_13.1 o0 1 = q.1 o0 1 := (h2_q_13.I ho0 (show ¬ (h.1 o0 = 12) from (fun z => absurd (z.symm.trans ko0) (by decide))) 1).trans (h2_q_7.I ho0 (show ¬ (sx_c6 h o0) from (sx_c6.o ko0 lo0)) 1)
  have z_31 : q_13.1 a0 22 = q.1 a0 22 := (h3_q_13.1 22 (by decide)).trans (h2_q_7.I ha0 (show ¬ (sx_c6 h a0) from (sx_c6.n ka0 (by decide))) 22)
  have z_32 : q_13.2.2.2.1 ob = q.2.2.2.1 ob := (h2_q_13.G hob (show ¬ (h.1 ob = 12) from (fun z => absurd (z.symm.trans kob) (by decide))) (by rw [kob]; decide)).trans (h2_q_7.G hob (show ¬ (sx_c6 h ob) from (sx_c6.u kob lob)) (by rw [kob]; decide))
  have z_33 : q_13.2.2.2.1 m21 = q.2.2.2.1 m21 := (h2_q_13.G hm21 (show ¬ (h.1 m21 = 12) from (fun z => absurd (z.symm.trans km21) (by decide))) (by rw [km21]; decide)).trans (h2_q_7.G hm21 (show ¬ (sx_c6 h m21) from (sx_c6.n km21 (by decide))) (by rw [km21]; decide))
  have hout9 : lc_o (q_13.1 o0 1) (q_13.1 a0 22) (q_13.2.2.2.1 ob) (q_13.2.2.2.1 (mm 21)) := by rw [← xm21, z_30, z_31, z_32, z_33]; exact hout
  have z_34 : q_13.2.2.1 x0 1 = o0 := (h2_q_13.R hx0 (show ¬ ((h.1 x0 = 12) ∧ (h.1 x0 = 8 ∨ h.1 x0 = 11)) from fun z9 => (show ¬ (h.1 x0 = 12) from (fun z => absurd (z.symm.trans kx0) (by decide))) z9.1) 1).trans (hO_q_7)
  have z_35 : q_13.2.2.1 o0 0 = ob := (h2_q_13.R ho0 (fun z9 => absurd z9.2 (by omega)) 0).trans ((h2_q_7.R ho0 (fun z9 => absurd z9.2 (by omega)) 0).trans (eob))
  have z_36 : q_13.1 uu 6 = q.1 uu 6 := (h2_q_13.I huu (show ¬ (h.1 uu = 12) from (fun z => absurd (z.symm.trans kuu) (by decide))) 6).trans (h2_q_7.I huu (show ¬ (sx_c6 h uu) from (sx_c6.n kuu (by decide))) 6)
  have z_37 : q_13.1 a0 20 = q.1 a0 20 := (h3_q_13.1 20 (by decide)).trans (h2_q_7.I ha0 (show ¬ (sx_c6 h a0) from (sx_c6.n ka0 (by decide))) 20)
  have z_38 : q_13.2.2.2.1 uc = q.2.2.2.1 uc := (h2_q_13.G huc (show ¬ (h.1 uc = 12) from (fun z => absurd (z.symm.trans kuc) (by decide))) (by rw [kuc]; decide)).trans (h2_q_7.G huc (show ¬ (sx_c6 h uc) from (sx_c6.n kuc (by decide))) (by rw [kuc]; decide))
  have z_39 : q_13.2.2.2.1 m18 = q.2.2.2.1 m18 := (h2_q_13.G hm18 (show ¬ (h.1 m18 = 12) from (fun z => absurd (z.symm.trans km18) (by decide))) (by rw [km18]; decide)).trans (h2_q_7.G hm18 (show ¬ (sx_c6 h m18) from (sx_c6.n km18 (by decide))) (by rw [km18]; decide))
  have z_40 : q_13.2.2.2.1 uf = q.2.2.2.1 uf := (h2_q_13.G huf (show ¬ (h.1 uf = 12) from (fun z => absurd (z.symm.trans kuf) (by decide))) (by rw [kuf]; decide)).trans (h2_q_7.G huf (show ¬ (sx_c6 h uf) from (sx_c6.n kuf (by decide))) (by rw [kuf]; decide))
  have z_41 : q_13.2.2.2.1 m19 = q.2.2.2.1 m19 := (h2_q_13.G hm19 (show ¬ (h.1 m19 = 12) from (fun z => absurd (z.symm.trans km19) (by decide))) (by rw [km19]; decide)).trans (h2_q_7.G hm19 (show ¬ (sx_c6 h m19) from (sx_c6.n km19 (by decide))) (by rw [km19]; decide))
  have z_42 : q_13.2.2.2.1 uw = q.2.2.2.1 uw := (h2_q_13.G huw (show ¬ (h.1 uw = 12) from (fun z => absurd (z.symm.trans kuw) (by decide))) (by rw [kuw]; decide)).trans (h2_q_7.G huw (show ¬ (sx_c6 h uw) from (sx_c6.n kuw (by decide))) (by rw [kuw]; decide))
  have z_43 : q_13.2.2.2.2 un = q.2.2.2.2 un := (h2_q_13.Lg hun (show ¬ (h.1 un = 12) from (fun z => absurd (z.symm.trans kun) (by decide))) (by rw [kun]; decide)).trans (h2_q_7.Lg hun (show ¬ (sx_c6 h un) from (sx_c6.n kun (by decide))) (by rw [kun]; decide))
  have z_44 : q_13.2.2.2.2 m17 = q.2.2.2.2 m17 := (h2_q_13.Lg hm17 (show ¬ (h.1 m17 = 12) from (fun z => absurd (z.symm.trans km17) (by decide))) (by rw [km17]; decide)).trans (h2_q_7.Lg hm17 (show ¬ (sx_c6 h m17) from (sx_c6.n km17 (by decide))) (by rw [km17]; decide))
  have hu9 : lc_uq8 q_13 a0 uu (mm 17) (mm 18) (mm 19) := by unfold lc_uq8; rw [← xm17, ← xm18, ← xm19, hR_uu, euc, euf, euw, eun, z_36, z_37, z_38, z_39, z_40, z_41, z_42, z_43, z_44]; exact hu
  have z_45 : q_13.2.2.1 x0 11 = uu := (h2_q_13.R hx0 (show ¬ ((h.1 x0 = 12) ∧ (h.1 x0 = 8 ∨ h.1 x0 = 11)) from fun z9 => (show ¬ (h.1 x0 = 12) from (fun z => absurd (z.symm.trans kx0) (by decide))) z9.1) 11).trans (h8_q_7)
  have z_46 : q_13.2.2.1 x0 12 = su := (h2_q_13.R hx0 (show ¬ ((h.1 x0 = 12) ∧ (h.1 x0 = 8 ∨ h.1 x0 = 11)) from fun z9 => (show ¬ (h.1 x0 = 12) from (fun z => absurd (z.symm.trans kx0) (by decide))) z9.1) 12).trans (hB_q_7)
  exact hcont _ _ (Or.inr rfl) ⟨⟨⟨hV_q_13, mN_q_13, by rw [← xm18, ← xm19]; exact mF_q_13, by rw [← xm17]; exact mU_q_13, by rw [← xm23, ← xm26, ← xm28, ← xm29]; exact mS_q_13, by rw [← xm40, ← xm41, ← xm44]; exact mL_q_13, z_24, fun k hk => by rw [show q_13.2.2.1 a0 = q_7.2.2.1 a0 from h2_q_13.2 a0 ha0 (fun z9 => absurd z9.2 (by omega)), show q_7.2.2.1 a0 = q.2.2.1 a0 from h2_q_7.2 a0 ha0 (fun z9 => absurd z9.2 (by omega))]; exact em k hk, by omega, by omega⟩, z_25, z_26, by rw [← xm1]; exact hT9, by rw [← xm44]; exact hR9⟩, uu, su, o0, ob, z_45, z_46, hdz.eq hR_uu hR_su, hu9, ⟨z_34, z_35⟩, hout9⟩
set_option maxHeartbeats 4000000 in
set_option maxRecDepth 100000 in
theorem lc6_430 (l : Launch) (hlst : l.stackTraces = false) {Z : Zt} (dC : Nat → ClassId) (dI : Nat → Nat → Nat) (h : Sh) (L : List Nat) (hN : sx_nd L) (B : BX dC dI h L 7 cL_law RL wsL_law Z) {b N : Nat} {xs : Nat → Int32} (hX : va_X b N xs Z.2.2.1 Z.2.2.1.heap) (hbl : b < Z.2.2.1.heap.size) (hbA : ¬ AL L Z.2.2.1.heap.size b) {x0 a0 ot t0 tb fa : Nat} (hfd : lc_fd h fa) {mm : Nat → Nat} (hx0 : x0 ∈ L) (kx0 : h.1 x0 = 11) (ha0 : a0 ∈ L) (ka0 : h.1 a0 = 12) (hot : ot ∈ L) (kot : h.1 ot = 200) (lot : h.2.1 ot = 1) {i : Int32} (hi0 : 0 ≤ i.toInt) (hi1 : i.toInt + 6 ≤ (N : Int)) (hN2 : N ≤ 3072) (hroom : (zl_more Z).2.2.2.2.2.2.2.2.2.1 ≤ room_1.cells ∧ (zl_more Z).2.2.2.2.2.2.2.2.2.2 ≤ room_1.slots) {q : Sg} (hI : lc_I8 h L x0 a0 t0 tb fa mm q) (hcont : ∀ (Z2 : Zt) (q2 : Sg), (Z2 = Z ∨ Z2 = zl_more Z) → lc_I8 h L x0 a0 t0 tb fa mm q2 → WA l dC dI h L room_1 7 Z2 q2 775 [(4, .int i), (3, .ref ot), (2, .ref a0), (1, .ref x0), (0, .ref b)] []) : WA l dC dI h L room_1 7 Z q 430 [(4, .int i), (3, .ref ot), (2, .ref a0), (1, .ref x0), (0, .ref b)] [] := by
  obtain ⟨hI, uu, su, o0, ob, euu, esu, hdz, hu0, ⟨eo0, eob⟩, hout0⟩ := hI
  obtain ⟨hI, etb, efa, hT0, hR0⟩ := hI
  obtain ⟨hV, mN, mF0, mU0, mS0, mL0, et0, em, hte, hfe⟩ := hI
  obtain ⟨ht0, kt0, lt0⟩ : t0 ∈ L ∧ h.1 t0 = 7 ∧ h.2.1 t0 = 1 := by obtain ⟨r9, e9, z1, z2, z3⟩ := hV.refn (t := 7) (n := 1) hx0 kx0 0 rfl (by decide) rfl (by decide); rw [← et0, e9]; exact ⟨z1, z2, z3⟩
  obtain ⟨m1, xm1⟩ : ∃ z, z = mm 1 := ⟨_, rfl⟩
  have em1 : q.2.2.1 a0 1 = m1 := by rw [xm1]; exact em 1 (by decide)
  obtain ⟨hm1, km1, lm1⟩ : m1 ∈ L ∧ h.1 m1 = 111 ∧ h.2.1 m1 = 440 := by obtain ⟨r9, e9, z1, z2, z3⟩ := hV.refn (t := 111) (n := 440) ha0 ka0 1 rfl (by decide) rfl (by decide); rw [← em1, e9]; exact ⟨z1, z2, z3⟩
  obtain ⟨m3, xm3⟩ : ∃ z, z = mm 3 := ⟨_, rfl⟩
  have em3 : q.2.2.1 a0 3 = m3 := by rw [xm3]; exact em 3 (by decide)
  obtain ⟨hm3, km3, lm3⟩ : m3 ∈ L ∧ h.1 m3 = 113 ∧ h.2.1 m3 = 500 := by obtain ⟨r9, e9, z1, z2, z3⟩ := hV.refn (t := 113) (n := 500) ha0 ka0 3 rfl (by decide) rfl (by decide); rw [← em3, e9]; exact ⟨z1, z2, z3⟩
  obtain ⟨m16, xm16⟩ : ∃ z, z = mm 16 := ⟨_, rfl⟩
  have em16 : q.2.2.1 a0 16 = m16 := by rw [xm16]; exact em 16 (by decide)
  obtain ⟨hm16, km16, lm16⟩ : m16 ∈ L ∧ h.1 m16 = 226 ∧ h.2.1 m16 = 6 := by obtain ⟨r9, e9, z1, z2, z3⟩ := hV.refn (t := 226) (n := 6) ha0 ka0 16 rfl (by decide) rfl (by decide); rw [← em16, e9]; exact ⟨z1, z2, z3⟩
  obtain ⟨m17, xm17⟩ : ∃ z, z = mm 17 := ⟨_, rfl⟩
  have em17 : q.2.2.1 a0 17 = m17 := by rw [xm17]; exact em 17 (by decide)
  obtain ⟨hm17, km17, lm17⟩ : m17 ∈ L ∧ h.1 m17 = 227 ∧ h.2.1 m17 = 30 := by obtain ⟨r9, e9, z1, z2, z3⟩ := hV.refn (t := 227) (n := 30) ha0 ka0 17 rfl (by decide) rfl (by decide); rw [← em17, e9]; exact ⟨z1, z2, z3⟩
  obtain ⟨m18, xm18⟩ : ∃ z, z = mm 18 := ⟨_, rfl⟩
  have em18 : q.2.2.1 a0 18 = m18 := by rw [xm18]; exact em 18 (by decide)
  obtain ⟨hm18, km18, lm18⟩ : m18 ∈ L ∧ h.1 m18 = 128 ∧ h.2.1 m18 = 6 := by obtain ⟨r9, e9, z1, z2, z3⟩ := hV.refn (t := 128) (n := 6) ha0 ka0 18 rfl (by decide) rfl (by decide); rw [← em18, e9]; exact ⟨z1, z2, z3⟩
  obtain ⟨m19, xm19⟩ : ∃ z, z = mm 19 := ⟨_, rfl⟩
  have em19 : q.2.2.1 a0 19 = m19 := by rw [xm19]; exact em 19 (by decide)
  obtain ⟨hm19, km19, lm19⟩ : m19 ∈ L ∧ h.1 m19 = 129 ∧ h.2.1 m19 = 30 := by obtain ⟨r9, e9, z1, z2, z3⟩ := hV.refn (t := 129) (n := 30) ha0 ka0 19 rfl (by decide) rfl (by decide); rw [← em19, e9]; exact ⟨z1, z2, z3⟩
  obtain ⟨m21, xm21⟩ : ∃ z, z = mm 21 := ⟨_, rfl⟩
  have em21 : q.2.2.1 a0 21 = m21 := by rw [xm21]; exact em 21 (by decide)
  obtain ⟨hm21, km21, lm21⟩ : m21 ∈ L ∧ h.1 m21 = 131 ∧ h.2.1 m21 = 80 := by obtain ⟨r9, e9, z1, z2, z3⟩ := hV.refn (t := 131) (n := 80) ha0 ka0 21 rfl (by decide) rfl (by decide); rw [← em21, e9]; exact ⟨z1, z2, z3⟩
  obtain ⟨m23, xm23⟩ : ∃ z, z = mm 23 := ⟨_, rfl⟩
  have em23 : q.2.2.1 a0 23 = m23 := by rw [xm23]; exact em 23 (by decide)
  obtain ⟨hm23, km23, lm23⟩ : m23 ∈ L ∧ h.1 m23 = 133 ∧ h.2.1 m23 = 9 := by obtain ⟨r9, e9, z1, z2, z3⟩ := hV.refn (t := 133) (n := 9) ha0 ka0 23 rfl (by decide) rfl (by decide); rw [← em23, e9]; exact ⟨z1, z2, z3⟩
  obtain ⟨m24, xm24⟩ : ∃ z, z = mm 24 := ⟨_, rfl⟩
  have em24 : q.2.2.1 a0 24 = m24 := by rw [xm24]; exact em 24 (by decide)
  obtain ⟨hm24, km24, lm24⟩ : m24 ∈ L ∧ h.1 m24 = 134 ∧ h.2.1 m24 = 108 := by obtain ⟨r9, e9, z1, z2, z3⟩ := hV.refn (t := 134) (n := 108) ha0 ka0 24 rfl (by decide) rfl (by decide); rw [← em24, e9]; exact ⟨z1, z2, z3⟩
  obtain ⟨m25, xm25⟩ : ∃ z, z = mm 25 := ⟨_, rfl⟩
  have em25 : q.2.2.1 a0 25 = m25 := by rw [xm25]; exact em 25 (by decide)
  obtain ⟨hm25, km25, lm25⟩ : m25 ∈ L ∧ h.1 m25 = 135 ∧ h.2.1 m25 = 108 := by obtain ⟨r9, e9, z1, z2, z3⟩ := hV.refn (t := 135) (n := 108) ha0 ka0 25 rfl (by decide) rfl (by decide); rw [← em25, e9]; exact ⟨z1, z2, z3⟩
  obtain ⟨m26, xm26⟩ : ∃ z, z = mm 26 := ⟨_, rfl⟩
  have em26 : q.2.2.1 a0 26 = m26 := by rw [xm26]; exact em 26 (by decide)
  obtain ⟨hm26, km26, lm26⟩ : m26 ∈ L ∧ h.1 m26 = 136 ∧ h.2.1 m26 = 108 := by obtain ⟨r9, e9, z1, z2, z3⟩ := hV.refn (t := 136) (n := 108) ha0 ka0 26 rfl (by decide) rfl (by decide); rw [← em26, e9]; exact ⟨z1, z2, z3⟩
  obtain ⟨m27, xm27⟩ : ∃ z, z = mm 27 := ⟨_, rfl⟩
  have em27 : q.2.2.1 a0 27 = m27 := by rw [xm27]; exact em 27 (by decide)
  obtain ⟨hm27, km27, lm27⟩ : m27 ∈ L ∧ h.1 m27 = 137 ∧ h.2.1 m27 = 9 := by obtain ⟨r9, e9, z1, z2, z3⟩ := hV.refn (t := 137) (n := 9) ha0 ka0 27 rfl (by decide) rfl (by decide); rw [← em27, e9]; exact ⟨z1, z2, z3⟩
  obtain ⟨m28, xm28⟩ : ∃ z, z = mm 28 := ⟨_, rfl⟩
  have em28 : q.2.2.1 a0 28 = m28 := by rw [xm28]; exact em 28 (by decide)
  obtain ⟨hm28, km28, lm28⟩ : m28 ∈ L ∧ h.1 m28 = 138 ∧ h.2.1 m28 = 540 := by obtain ⟨r9, e9, z1, z2, z3⟩ := hV.refn (t := 138) (n := 540) ha0 ka0 28 rfl (by decide) rfl (by decide); rw [← em28, e9]; exact ⟨z1, z2, z3⟩
  obtain ⟨m29, xm29⟩ : ∃ z, z = mm 29 := ⟨_, rfl⟩
  have em29 : q.2.2.1 a0 29 = m29 := by rw [xm29]; exact em 29 (by decide)
  obtain ⟨hm29, km29, lm29⟩ : m29 ∈ L ∧ h.1 m29 = 139 ∧ h.2.1 m29 = 540 := by obtain ⟨r9, e9, z1, z2, z3⟩ := hV.refn (t := 139) (n := 540) ha0 ka0 29 rfl (by decide) rfl (by decide); rw [← em29, e9]; exact ⟨z1, z2, z3⟩
  obtain ⟨m30, xm30⟩ : ∃ z, z = mm 30 := ⟨_, rfl⟩
  have em30 : q.2.2.1 a0 30 = m30 := by rw [xm30]; exact em 30 (by decide)
  obtain ⟨hm30, km30, lm30⟩ : m30 ∈ L ∧ h.1 m30 = 140 ∧ h.2.1 m30 = 540 := by obtain ⟨r9, e9, z1, z2, z3⟩ := hV.refn (t := 140) (n := 540) ha0 ka0 30 rfl (by decide) rfl (by decide); rw [← em30, e9]; exact ⟨z1, z2, z3⟩
  obtain ⟨m34, xm34⟩ : ∃ z, z = mm 34 := ⟨_, rfl⟩
  have em34 : q.2.2.1 a0 34 = m34 := by rw [xm34]; exact em 34 (by decide)
  obtain ⟨hm34, km34, lm34⟩ : m34 ∈ L ∧ h.1 m34 = 144 ∧ h.2.1 m34 = 4 := by obtain ⟨r9, e9, z1, z2, z3⟩ := hV.refn (t := 144) (n := 4) ha0 ka0 34 rfl (by decide) rfl (by decide); rw [← em34, e9]; exact ⟨z1, z2, z3⟩
  obtain ⟨m35, xm35⟩ : ∃ z, z = mm 35 := ⟨_, rfl⟩
  have em35 : q.2.2.1 a0 35 = m35 := by rw [xm35]; exact em 35 (by decide)
  obtain ⟨hm35, km35, lm35⟩ : m35 ∈ L ∧ h.1 m35 = 245 ∧ h.2.1 m35 = 12 := by obtain ⟨r9, e9, z1, z2, z3⟩ := hV.refn (t := 245) (n := 12) ha0 ka0 35 rfl (by decide) rfl (by decide); rw [← em35, e9]; exact ⟨z1, z2, z3⟩
  obtain ⟨m40, xm40⟩ : ∃ z, z = mm 40 := ⟨_, rfl⟩
  have em40 : q.2.2.1 a0 40 = m40 := by rw [xm40]; exact em 40 (by decide)
  obtain ⟨hm40, km40, lm40⟩ : m40 ∈ L ∧ h.1 m40 = 150 ∧ h.2.1 m40 = 2400 := by obtain ⟨r9, e9, z1, z2, z3⟩ := hV.refn (t := 150) (n := 2400) ha0 ka0 40 rfl (by decide) rfl (by decide); rw [← em40, e9]; exact ⟨z1, z2, z3⟩
  obtain ⟨m41, xm41⟩ : ∃ z, z = mm 41 := ⟨_, rfl⟩
  have em41 : q.2.2.1 a0 41 = m41 := by rw [xm41]; exact em 41 (by decide)
  obtain ⟨hm41, km41, lm41⟩ : m41 ∈ L ∧ h.1 m41 = 151 ∧ h.2.1 m41 = 12 := by obtain ⟨r9, e9, z1, z2, z3⟩ := hV.refn (t := 151) (n := 12) ha0 ka0 41 rfl (by decide) rfl (by decide); rw [← em41, e9]; exact ⟨z1, z2, z3⟩
  obtain ⟨m42, xm42⟩ : ∃ z, z = mm 42 := ⟨_, rfl⟩
  have em42 : q.2.2.1 a0 42 = m42 := by rw [xm42]; exact em 42 (by decide)
  obtain ⟨hm42, km42, lm42⟩ : m42 ∈ L ∧ h.1 m42 = 152 ∧ h.2.1 m42 = 12 := by obtain ⟨r9, e9, z1, z2, z3⟩ := hV.refn (t := 152) (n := 12) ha0 ka0 42 rfl (by decide) rfl (by decide); rw [← em42, e9]; exact ⟨z1, z2, z3⟩
  obtain ⟨m43, xm43⟩ : ∃ z, z = mm 43 := ⟨_, rfl⟩
  have em43 : q.2.2.1 a0 43 = m43 := by rw [xm43]; exact em 43 (by decide)
  obtain ⟨hm43, km43, lm43⟩ : m43 ∈ L ∧ h.1 m43 = 153 ∧ h.2.1 m43 = 12 := by obtain ⟨r9, e9, z1, z2, z3⟩ := hV.refn (t := 153) (n := 12) ha0 ka0 43 rfl (by decide) rfl (by decide); rw [← em43, e9]; exact ⟨z1, z2, z3⟩
  obtain ⟨m44, xm44⟩ : ∃ z, z = mm 44 := ⟨_, rfl⟩
  have em44 : q.2.2.1 a0 44 = m44 := by rw [xm44]; exact em 44 (by decide)
  obtain ⟨hm44, km44, lm44⟩ : m44 ∈ L ∧ h.1 m44 = 154 ∧ h.2.1 m44 = 12 := by obtain ⟨r9, e9, z1, z2, z3⟩ := hV.refn (t := 154) (n := 12) ha0 ka0 44 rfl (by decide) rfl (by decide); rw [← em44, e9]; exact ⟨z1, z2, z3⟩
  obtain ⟨m46, xm46⟩ : ∃ z, z = mm 46 := ⟨_, rfl⟩
  have em46 : q.2.2.1 a0 46 = m46 := by rw [xm46]; exact em 46 (by decide)
  obtain ⟨hm46, km46, lm46⟩ : m46 ∈ L ∧ h.1 m46 = 156 ∧ h.2.1 m46 = 144 := by obtain ⟨r9, e9, z1, z2, z3⟩ := hV.refn (t := 156) (n := 144) ha0 ka0 46 rfl (by decide) rfl (by decide); rw [← em46, e9]; exact ⟨z1, z2, z3⟩
  obtain ⟨m47, xm47⟩ : ∃ z, z = mm 47 := ⟨_, rfl⟩
  have em47 : q.2.2.1 a0 47 = m47 := by rw [xm47]; exact em 47 (by decide)
  obtain ⟨hm47, km47, lm47⟩ : m47 ∈ L ∧ h.1 m47 = 157 ∧ h.2.1 m47 = 4096 := by obtain ⟨r9, e9, z1, z2, z3⟩ := hV.refn (t := 157) (n := 4096) ha0 ka0 47 rfl (by decide) rfl (by decide); rw [← em47, e9]; exact ⟨z1, z2, z3⟩
  obtain ⟨m48, xm48⟩ : ∃ z, z = mm 48 := ⟨_, rfl⟩
  have em48 : q.2.2.1 a0 48 = m48 := by rw [xm48]; exact em 48 (by decide)
  obtain ⟨hm48, km48, lm48⟩ : m48 ∈ L ∧ h.1 m48 = 158 ∧ h.2.1 m48 = 12 := by obtain ⟨r9, e9, z1, z2, z3⟩ := hV.refn (t := 158) (n := 12) ha0 ka0 48 rfl (by decide) rfl (by decide); rw [← em48, e9]; exact ⟨z1, z2, z3⟩
  have mF : mv_F m18 m19 q := by rw [xm18, xm19]; exact mF0
  have mU : mv_U m17 q := by rw [xm17]; exact mU0
  have mS : mv_S m23 m26 m28 m29 q := by rw [xm23, xm26, xm28, xm29]; exact mS0
  have mL : mv_L m40 m41 m44 a0 q := by rw [xm40, xm41, xm44]; exact mL0
  have hF : sx_fr h L (fun _ => True) q q := sx_fr.rf
  obtain ⟨htb, ktb, ltb⟩ : tb ∈ L ∧ h.1 tb = 300 ∧ h.2.1 tb = 440 := by obtain ⟨r9, e9, z1, z2, z3⟩ := hV.refn (t := 300) (n := 440) ht0 kt0 0 rfl (by decide) (by rw [lt0]; rfl) (by decide); rw [← etb, e9]; exact ⟨z1, z2, z3⟩
  obtain ⟨hfa, kfa, lfa⟩ : fa ∈ L ∧ h.1 fa = 403 ∧ h.2.1 fa = 12 := by obtain ⟨r9, e9, z1, z2, z3⟩ := hV.refn (t := 403) (n := 12) hx0 kx0 9 rfl (by decide) rfl (by decide); rw [← efa, e9]; exact ⟨z1, z2, z3⟩
  have hT : ty_T (q.2.2.2.1 tb) (q.2.2.2.1 m1) (q.1 t0 1).toInt.toNat := by rw [xm1]; exact hT0
  have hR : lc_R h fa m44 x0 q := by rw [xm44]; exact hR0
  have gx14 : (0 : Int) ≤ (q.1 x0 14).toInt ∧ (q.1 x0 14).toInt ≤ 12 := hV.int hx0 kx0 14
  have gt1 : (0 : Int) ≤ (q.1 t0 1).toInt ∧ (q.1 t0 1).toInt ≤ 440 := by have z9 := hV.int ht0 kt0 1; rw [etb, ltb] at z9; exact z9
  obtain ⟨huu, kuu⟩ : uu ∈ L ∧ h.1 uu = 9 := by obtain ⟨r9, e9, z1, z2⟩ := hV.ref (t := 9) hx0 kx0 11 rfl (by decide); rw [← euu, e9]; exact ⟨z1, z2⟩
  obtain ⟨hsu, ksu⟩ : su ∈ L ∧ h.1 su = 9 := by obtain ⟨r9, e9, z1, z2⟩ := hV.ref (t := 9) hx0 kx0 12 rfl (by decide); rw [← esu, e9]; exact ⟨z1, z2⟩
  have nuu_su : ¬ uu = su := hdz.1
  obtain ⟨uc, euc⟩ : ∃ z, q.2.2.1 uu 1 = z := ⟨_, rfl⟩
  obtain ⟨huc, kuc, luc⟩ : uc ∈ L ∧ h.1 uc = 101 ∧ h.2.1 uc = 3 := by obtain ⟨r9, e9, z1, z2, z3⟩ := hV.refn (t := 101) (n := 3) huu kuu 1 rfl (by decide) rfl (by decide); rw [← euc, e9]; exact ⟨z1, z2, z3⟩
  obtain ⟨un, eun⟩ : ∃ z, q.2.2.1 uu 2 = z := ⟨_, rfl⟩
  obtain ⟨hun, kun, lun⟩ : un ∈ L ∧ h.1 un = 202 ∧ h.2.1 un = 15 := by obtain ⟨r9, e9, z1, z2, z3⟩ := hV.refn (t := 202) (n := 15) huu kuu 2 rfl (by decide) rfl (by decide); rw [← eun, e9]; exact ⟨z1, z2, z3⟩
  obtain ⟨uf, euf⟩ : ∃ z, q.2.2.1 uu 3 = z := ⟨_, rfl⟩
  obtain ⟨huf, kuf, luf⟩ : uf ∈ L ∧ h.1 uf = 102 ∧ h.2.1 uf = 15 := by obtain ⟨r9, e9, z1, z2, z3⟩ := hV.refn (t := 102) (n := 15) huu kuu 3 rfl (by decide) rfl (by decide); rw [← euf, e9]; exact ⟨z1, z2, z3⟩
  obtain ⟨uw, euw⟩ : ∃ z, q.2.2.1 uu 4 = z := ⟨_, rfl⟩
  obtain ⟨huw, kuw, luw⟩ : uw ∈ L ∧ h.1 uw = 103 ∧ h.2.1 uw = 15 := by obtain ⟨r9, e9, z1, z2, z3⟩ := hV.refn (t := 103) (n := 15) huu kuu 4 rfl (by decide) rfl (by decide); rw [← euw, e9]; exact ⟨z1, z2, z3⟩
  have hu : lc_u8 (q.1 uu 6) (q.1 a0 20) (q.2.2.2.1 uc) (q.2.2.2.1 m18) (q.2.2.2.1 uf) (q.2.2.2.1 m19) (q.2.2.2.1 uw) (q.2.2.2.2 un) (q.2.2.2.2 m17) := by rw [← euc, ← euf, ← euw, ← eun, xm17, xm18, xm19]; exact hu0
  obtain ⟨ho0, ko0, lo0⟩ : o0 ∈ L ∧ h.1 o0 = 7 ∧ h.2.1 o0 = 2 := by obtain ⟨r9, e9, z1, z2, z3⟩ := hV.refn (t := 7) (n := 2) hx0 kx0 1 rfl (by decide) rfl (by decide); rw [← eo0, e9]; exact ⟨z1, z2, z3⟩
  obtain ⟨hob, kob, lob⟩ : ob ∈ L ∧ h.1 ob = 300 ∧ h.2.1 ob = 59 := by obtain ⟨r9, e9, z1, z2, z3⟩ := hV.refn (t := 300) (n := 59) ho0 ko0 0 rfl (by decide) (by rw [lo0]; rfl) (by decide); rw [← eob, e9]; exact ⟨z1, z2, z3⟩
  have nt0_o0 : ¬ t0 = o0 := fun z9 => absurd (z9 ▸ lt0 : h.2.1 o0 = 1) (by rw [lo0]; decide)
  have ntb_ob : ¬ tb = ob := fun z9 => absurd (z9 ▸ ltb : h.2.1 ob = 440) (by rw [lob]; decide)
  have hout : lc_o (q.1 o0 1) (q.1 a0 22) (q.2.2.2.1 ob) (q.2.2.2.1 m21) := by rw [xm21]; exact hout0
  refine wa_aload_n B dL_law_430 rfl 3 rfl ?_
  refine wa_aload_n B dL_law_431 rfl 4 rfl ?_
  refine wa_iload B dL_law_432 0 rfl ?_
  refine wa_iconst B 1 dL_law_434 (by decide) ?_
  refine wa_iadd B dL_law_435 (fun v_1 ev_1 => ?_)
  subst ev_1
  have t_2 : (i + 1).toInt = i.toInt + 1 := by have b0 := zx_bd i; exact zx_add (show (-2147483648 : Int) ≤ i.toInt + 1 by omega) (show i.toInt + 1 < (2147483648 : Int) by omega)
  refine wa_sld B hX hbl hbA (i := (i + 1)) (show 0 ≤ (i + 1).toInt by omega) (show (i + 1).toInt < (N : Int) by omega) dL_law_436 ?_
  refine wa_callVi B (x := (RX11, TX11, 16)) (As := [.int ((xs ((i + 1) : Int32).toNatClampNeg))]) (rest := []) (k_X11_lines l dC dI h L hN q hV (a0 := x0) hx0 kx0 ((xs ((i + 1) : Int32).toNatClampNeg))  ) (cwV 1 B.1.2.2.2.2 gL_law_X11_lines rfl rfl rfl (by decide +kernel) ⟨Nat.le_of_ble_eq_true rfl, Nat.le_of_ble_eq_true rfl⟩) hx0 kx0 (by decide) rfl rfl rfl (Nat.le_of_ble_eq_true rfl) dL_law_437 (fun r_4 q_3 w_5 => ?_)
  subst w_5
  refine wa_pop B dL_law_440 rfl ?_
  refine wa_aload_n B dL_law_441 rfl 2 rfl ?_
  refine wa_aload_n B dL_law_442 rfl 4 rfl ?_
  refine wa_iload B dL_law_443 0 rfl ?_
  refine wa_iconst B 1 dL_law_445 (by decide) ?_
  refine wa_iadd B dL_law_446 (fun v_6 ev_6 => ?_)
  subst ev_6
  refine wa_sld B hX hbl hbA (i := (i + 1)) (show 0 ≤ (i + 1).toInt by omega) (show (i + 1).toInt < (N : Int) by omega) dL_law_447 ?_
  refine wa_callVi B (x := (RX12, TX12, 51)) (As := [.int ((xs ((i + 1) : Int32).toNatClampNeg))]) (rest := []) (k_X12_lines l dC dI h L hN q hV (a0 := a0) ha0 ka0 ((xs ((i + 1) : Int32).toNatClampNeg))  ) (cwV 1 B.1.2.2.2.2 gL_law_X12_lines rfl rfl rfl (by decide +kernel) ⟨Nat.le_of_ble_eq_true rfl, Nat.le_of_ble_eq_true rfl⟩) ha0 ka0 (by decide) rfl rfl rfl (Nat.le_of_ble_eq_true rfl) dL_law_448 (fun r_8 q_7 w_9 => ?_)
  obtain ⟨hV_q_7, h2_q_7, h3_q_7⟩ := w_9
  have mN_q_7 : mv_N a0 q_7 := mv_N.eq (h3_q_7.1 8 (by decide)) (h3_q_7.2 11 (by decide)) mN
  have mF_q_7 : mv_F m18 m19 q_7 := mv_F.eq (h2_q_7.G hm18 (show ¬ (h.1 m18 = 12) from (fun z => absurd (z.symm.trans km18) (by decide))) (by rw [km18]; decide)) (h2_q_7.G hm19 (show ¬ (h.1 m19 = 12) from (fun z => absurd (z.symm.trans km19) (by decide))) (by rw [km19]; decide)) mF
  have mU_q_7 : mv_U m17 q_7 := mv_U.eq (h2_q_7.Lg hm17 (show ¬ (h.1 m17 = 12) from (fun z => absurd (z.symm.trans km17) (by decide))) (by rw [km17]; decide)) mU
  have mS_q_7 : mv_S m23 m26 m28 m29 q_7 := mv_S.eq (h2_q_7.G hm23 (show ¬ (h.1 m23 = 12) from (fun z => absurd (z.symm.trans km23) (by decide))) (by rw [km23]; decide)) (h2_q_7.G hm26 (show ¬ (h.1 m26 = 12) from (fun z => absurd (z.symm.trans km26) (by decide))) (by rw [km26]; decide)) (h2_q_7.G hm28 (show ¬ (h.1 m28 = 12) from (fun z => absurd (z.symm.trans km28) (by decide))) (by rw [km28]; decide)) (h2_q_7.G hm29 (show ¬ (h.1 m29 = 12) from (fun z => absurd (z.symm.trans km29) (by decide))) (by rw [km29]; decide)) mS
  have mL_q_7 : mv_L m40 m41 m44 a0 q_7 := mv_L.eq (h2_q_7.G hm40 (show ¬ (h.1 m40 = 12) from (fun z => absurd (z.symm.trans km40) (by decide))) (by rw [km40]; decide)) (h2_q_7.G hm41 (show ¬ (h.1 m41 = 12) from (fun z => absurd (z.symm.trans km41) (by decide))) (by rw [km41]; decide)) (h2_q_7.G hm44 (show ¬ (h.1 m44 = 12) from (fun z => absurd (z.symm.trans km44) (by decide))) (by rw [km44]; decide)) (h3_q_7.1 45 (by decide)) mL
  refine wa_pop B dL_law_451 rfl ?_
  refine wa_goto B 775 dL_law_452 (by decide) ?_
  have z_10 : q_7.1 a0 2 = q.1 a0 2 := h3_q_7.1 2 (by decide)
  have y_11 : (q_7.1 a0 2).toInt = (q.1 a0 2).toInt := by rw [z_10]
  have z_12 : q_7.1 a0 45 = q.1 a0 45 := h3_q_7.1 45 (by decide)
  have y_13 : (q_7.1 a0 45).toInt = (q.1 a0 45).toInt := by rw [z_12]
  have z_14 : q_7.1 t0 1 = q.1 t0 1 := h2_q_7.I ht0 (show ¬ (h.1 t0 = 12) from (fun z => absurd (z.symm.trans kt0) (by decide))) 1
  have y_15 : (q_7.1 t0 1).toInt = (q.1 t0 1).toInt := by rw [z_14]
  have z_16 : q_7.1 x0 14 = q.1 x0 14 := h2_q_7.I hx0 (show ¬ (h.1 x0 = 12) from (fun z => absurd (z.symm.trans kx0) (by decide))) 14
  have y_17 : (q_7.1 x0 14).toInt = (q.1 x0 14).toInt := by rw [z_16]
  have z_18 : q_7.2.2.1 x0 0 = t0 := (h2_q_7.R hx0 (show ¬ ((h.1 x0 = 12) ∧ (h.1 x0 = 8 ∨ h.1 x0 = 11)) from fun z9 => (show ¬ (h.1 x0 = 12) from (fun z => absurd (z.symm.trans kx0) (by decide))) z9.1) 0).trans (et0)
  have z_19 : q_7.2.2.1 t0 0 = tb := (h2_q_7.R ht0 (fun z9 => absurd z9.2 (by omega)) 0).trans (etb)
  have z_20 : q_7.2.2.1 x0 9 = fa := (h2_q_7.R hx0 (show ¬ ((h.1 x0 = 12) ∧ (h.1 x0 = 8 ∨ h.1 x0 = 11)) from fun z9 => (show ¬ (h.1 x0 = 12) from (fun z => absurd (z.symm.trans kx0) (by decide))) z9.1) 9).trans (efa)
  have z_21 : q_7.2.2.2.1 tb = q.2.2.2.1 tb := h2_q_7.G htb (show ¬ (h.1 tb = 12) from (fun z => absurd (z.symm.trans ktb) (by decide))) (by rw [ktb]; decide)
  have z_22 : q_7.2.2.2.1 m1 = q.2.2.2.1 m1 := h2_q_7.G hm1 (show ¬ (h.1 m1 = 12) from (fun z => absurd (z.symm.trans km1) (by decide))) (by rw [km1]; decide)
  have hT9 : ty_T (q_7.2.2.2.1 tb) (q_7.2.2.2.1 m1) (q_7.1 t0 1).toInt.toNat := by rw [z_21, z_22]; exact hT.le (by omega)
  have z_23 : q_7.2.2.2.1 m44 = q.2.2.2.1 m44 := h2_q_7.G hm44 (show ¬ (h.1 m44 = 12) from (fun z => absurd (z.symm.trans km44) (by decide))) (by rw [km44]; decide)
  have hR9 : lc_R h fa m44 x0 q_7 := by
    intro f hf
    obtain ⟨e9, ee9, he9, ke9⟩ := hV.elem (t := 0) hfa kfa (by decide) rfl (j := f) (by omega)
    rw [ee9, show q_7.1 e9 3 = q.1 e9 3 from h2_q_7.I he9 (show ¬ (h.1 e9 = 12) from by omega) 3, ← ee9, z_23]
    exact hR f (by omega)
  have hR_uu : q_7.2.2.1 uu = q.2.2.1 uu := by rw [show q_7.2.2.1 uu = q.2.2.1 uu from h2_q_7.2 uu huu (fun z9 => absurd z9.2 (by rw [kuu]; decide))]
  have hR_su : q_7.2.2.1 su = q.2.2.1 su := by rw [show q_7.2.2.1 su = q.2.2.1 su from h2_q_7.2 su hsu (fun z9 => absurd z9.2 (by rw [ksu]; decide))]
  have z_24 : q_7.1 o0 1 = q.1 o0 1 := h2_q_7.I ho0 (show ¬ (h.1 o0 = 12) from (fun z => absurd (z.symm.trans ko0) (by decide))) 1
  have z_25 : q_7.1 a0 22 = q.1 a0 22 := h3_q_7.1 22 (by decide)
  have z_26 : q_7.2.2.2.1 ob = q.2.2.2.1 ob := h2_q_7.G hob (show ¬ (h.1 ob = 12) from (fun z => absurd (z.symm.trans kob) (by decide))) (by rw [kob]; decide)
  have z_27 : q_7.2.2.2.1 m21 = q.2.2.2.1 m21 := h2_q_7.G hm21 (show ¬ (h.1 m21 = 12) from (fun z => absurd (z.symm.trans km21) (by decide))) (by rw [km21]; decide)
  have hout9 : lc_o (q_7.1 o0 1) (q_7.1 a0 22) (q_7.2.2.2.1 ob) (q_7.2.2.2.1 (mm 21)) := by rw [← xm21, z_24, z_25, z_26, z_27]; exact hout
  have z_28 : q_7.2.2.1 x0 1 = o0 := (h2_q_7.R hx0 (show ¬ ((h.1 x0 = 12) ∧ (h.1 x0 = 8 ∨ h.1 x0 = 11)) from fun z9 => (show ¬ (h.1 x0 = 12) from (fun z => absurd (z.symm.trans kx0) (by decide))) z9.1) 1).trans (eo0)
  have z_29 : q_7.2.2.1 o0 0 = ob := (h2_q_7.R ho0 (fun z9 => absurd z9.2 (by omega)) 0).trans (eob)
  have z_30 : q_7.1 uu 6 = q.1 uu 6 := h2_q_7.I huu (show ¬ (h.1 uu = 12) from (fun z => absurd (z.symm.trans kuu) (by decide))) 6
  have z_31 : q_7.1 a0 20 = q.1 a0 20 := h3_q_7.1 20 (by decide)
  have z_32 : q_7.2.2.2.1 uc = q.2.2.2.1 uc := h2_q_7.G huc (show ¬ (h.1 uc = 12) from (fun z => absurd (z.symm.trans kuc) (by decide))) (by rw [kuc]; decide)
  have z_33 : q_7.2.2.2.1 m18 = q.2.2.2.1 m18 := h2_q_7.G hm18 (show ¬ (h.1 m18 = 12) from (fun z => absurd (z.symm.trans km18) (by decide))) (by rw [km18]; decide)
  have z_34 : q_7.2.2.2.1 uf = q.2.2.2.1 uf := h2_q_7.G huf (show ¬ (h.1 uf = 12) from (fun z => absurd (z.symm.trans kuf) (by decide))) (by rw [kuf]; decide)
  have z_35 : q_7.2.2.2.1 m19 = q.2.2.2.1 m19 := h2_q_7.G hm19 (show ¬ (h.1 m19 = 12) from (fun z => absurd (z.symm.trans km19) (by decide))) (by rw [km19]; decide)
  have z_36 : q_7.2.2.2.1 uw = q.2.2.2.1 uw := h2_q_7.G huw (show ¬ (h.1 uw = 12) from (fun z => absurd (z.symm.trans kuw) (by decide))) (by rw [kuw]; decide)
  have z_37 : q_7.2.2.2.2 un = q.2.2.2.2 un := h2_q_7.Lg hun (show ¬ (h.1 un = 12) from (fun z => absurd (z.symm.trans kun) (by decide))) (by rw [kun]; decide)
  have z_38 : q_7.2.2.2.2 m17 = q.2.2.2.2 m17 := h2_q_7.Lg hm17 (show ¬ (h.1 m17 = 12) from (fun z => absurd (z.symm.trans km17) (by decide))) (by rw [km17]; decide)
  have hu9 : lc_uq8 q_7 a0 uu (mm 17) (mm 18) (mm 19) := by unfold lc_uq8; rw [← xm17, ← xm18, ← xm19, hR_uu, euc, euf, euw, eun, z_30, z_31, z_32, z_33, z_34, z_35, z_36, z_37, z_38]; exact hu
  have z_39 : q_7.2.2.1 x0 11 = uu := (h2_q_7.R hx0 (show ¬ ((h.1 x0 = 12) ∧ (h.1 x0 = 8 ∨ h.1 x0 = 11)) from fun z9 => (show ¬ (h.1 x0 = 12) from (fun z => absurd (z.symm.trans kx0) (by decide))) z9.1) 11).trans (euu)
  have z_40 : q_7.2.2.1 x0 12 = su := (h2_q_7.R hx0 (show ¬ ((h.1 x0 = 12) ∧ (h.1 x0 = 8 ∨ h.1 x0 = 11)) from fun z9 => (show ¬ (h.1 x0 = 12) from (fun z => absurd (z.symm.trans kx0) (by decide))) z9.1) 12).trans (esu)
  exact hcont _ _ (Or.inl rfl) ⟨⟨⟨hV_q_7, mN_q_7, by rw [← xm18, ← xm19]; exact mF_q_7, by rw [← xm17]; exact mU_q_7, by rw [← xm23, ← xm26, ← xm28, ← xm29]; exact mS_q_7, by rw [← xm40, ← xm41, ← xm44]; exact mL_q_7, z_18, fun k hk => by rw [show q_7.2.2.1 a0 = q.2.2.1 a0 from h2_q_7.2 a0 ha0 (fun z9 => absurd z9.2 (by omega))]; exact em k hk, by omega, by omega⟩, z_19, z_20, by rw [← xm1]; exact hT9, by rw [← xm44]; exact hR9⟩, uu, su, o0, ob, z_39, z_40, hdz.eq hR_uu hR_su, hu9, ⟨z_28, z_29⟩, hout9⟩
set_option maxHeartbeats 4000000 in
set_option maxRecDepth 100000 in
theorem lc6_455 (l : Launch) (hlst : l.stackTraces = false) {Z : Zt} (dC : Nat → ClassId) (dI : Nat → Nat → Nat) (h : Sh) (L : List Nat) (hN : sx_nd L) (B : BX dC dI h L 7 cL_law RL wsL_law Z) {b N : Nat} {xs : Nat → Int32} (hX : va_X b N xs Z.2.2.1 Z.2.2.1.heap) (hbl : b < Z.2.2.1.heap.size) (hbA : ¬ AL L Z.2.2.1.heap.size b) {x0 a0 ot t0 tb fa : Nat} (hfd : lc_fd h fa) {mm : Nat → Nat} (hx0 : x0 ∈ L) (kx0 : h.1 x0 = 11) (ha0 : a0 ∈ L) (ka0 : h.1 a0 = 12) (hot : ot ∈ L) (kot : h.1 ot = 200) (lot : h.2.1 ot = 1) {i : Int32} (hi0 : 0 ≤ i.toInt) (hi1 : i.toInt + 6 ≤ (N : Int)) (hN2 : N ≤ 3072) (hroom : (zl_more Z).2.2.2.2.2.2.2.2.2.1 ≤ room_1.cells ∧ (zl_more Z).2.2.2.2.2.2.2.2.2.2 ≤ room_1.slots) {q : Sg} (hI : lc_I8 h L x0 a0 t0 tb fa mm q) (hcont : ∀ (Z2 : Zt) (q2 : Sg), (Z2 = Z ∨ Z2 = zl_more Z) → lc_I8 h L x0 a0 t0 tb fa mm q2 → WA l dC dI h L room_1 7 Z2 q2 775 [(4, .int i), (3, .ref ot), (2, .ref a0), (1, .ref x0), (0, .ref b)] []) : WA l dC dI h L room_1 7 Z q 455 [(4, .int i), (3, .ref ot), (2, .ref a0), (1, .ref x0), (0, .ref b)] [] := by
  obtain ⟨hI, uu, su, o0, ob, euu, esu, hdz, hu0, ⟨eo0, eob⟩, hout0⟩ := hI
  obtain ⟨hI, etb, efa, hT0, hR0⟩ := hI
  obtain ⟨hV, mN, mF0, mU0, mS0, mL0, et0, em, hte, hfe⟩ := hI
  obtain ⟨ht0, kt0, lt0⟩ : t0 ∈ L ∧ h.1 t0 = 7 ∧ h.2.1 t0 = 1 := by obtain ⟨r9, e9, z1, z2, z3⟩ := hV.refn (t := 7) (n := 1) hx0 kx0 0 rfl (by decide) rfl (by decide); rw [← et0, e9]; exact ⟨z1, z2, z3⟩
  obtain ⟨m1, xm1⟩ : ∃ z, z = mm 1 := ⟨_, rfl⟩
  have em1 : q.2.2.1 a0 1 = m1 := by rw [xm1]; exact em 1 (by decide)
  obtain ⟨hm1, km1, lm1⟩ : m1 ∈ L ∧ h.1 m1 = 111 ∧ h.2.1 m1 = 440 := by obtain ⟨r9, e9, z1, z2, z3⟩ := hV.refn (t := 111) (n := 440) ha0 ka0 1 rfl (by decide) rfl (by decide); rw [← em1, e9]; exact ⟨z1, z2, z3⟩
  obtain ⟨m3, xm3⟩ : ∃ z, z = mm 3 := ⟨_, rfl⟩
  have em3 : q.2.2.1 a0 3 = m3 := by rw [xm3]; exact em 3 (by decide)
  obtain ⟨hm3, km3, lm3⟩ : m3 ∈ L ∧ h.1 m3 = 113 ∧ h.2.1 m3 = 500 := by obtain ⟨r9, e9, z1, z2, z3⟩ := hV.refn (t := 113) (n := 500) ha0 ka0 3 rfl (by decide) rfl (by decide); rw [← em3, e9]; exact ⟨z1, z2, z3⟩
  obtain ⟨m16, xm16⟩ : ∃ z, z = mm 16 := ⟨_, rfl⟩
  have em16 : q.2.2.1 a0 16 = m16 := by rw [xm16]; exact em 16 (by decide)
  obtain ⟨hm16, km16, lm16⟩ : m16 ∈ L ∧ h.1 m16 = 226 ∧ h.2.1 m16 = 6 := by obtain ⟨r9, e9, z1, z2, z3⟩ := hV.refn (t := 226) (n := 6) ha0 ka0 16 rfl (by decide) rfl (by decide); rw [← em16, e9]; exact ⟨z1, z2, z3⟩
  obtain ⟨m17, xm17⟩ : ∃ z, z = mm 17 := ⟨_, rfl⟩
  have em17 : q.2.2.1 a0 17 = m17 := by rw [xm17]; exact em 17 (by decide)
  obtain ⟨hm17, km17, lm17⟩ : m17 ∈ L ∧ h.1 m17 = 227 ∧ h.2.1 m17 = 30 := by obtain ⟨r9, e9, z1, z2, z3⟩ := hV.refn (t := 227) (n := 30) ha0 ka0 17 rfl (by decide) rfl (by decide); rw [← em17, e9]; exact ⟨z1, z2, z3⟩
  obtain ⟨m18, xm18⟩ : ∃ z, z = mm 18 := ⟨_, rfl⟩
  have em18 : q.2.2.1 a0 18 = m18 := by rw [xm18]; exact em 18 (by decide)
  obtain ⟨hm18, km18, lm18⟩ : m18 ∈ L ∧ h.1 m18 = 128 ∧ h.2.1 m18 = 6 := by obtain ⟨r9, e9, z1, z2, z3⟩ := hV.refn (t := 128) (n := 6) ha0 ka0 18 rfl (by decide) rfl (by decide); rw [← em18, e9]; exact ⟨z1, z2, z3⟩
  obtain ⟨m19, xm19⟩ : ∃ z, z = mm 19 := ⟨_, rfl⟩
  have em19 : q.2.2.1 a0 19 = m19 := by rw [xm19]; exact em 19 (by decide)
  obtain ⟨hm19, km19, lm19⟩ : m19 ∈ L ∧ h.1 m19 = 129 ∧ h.2.1 m19 = 30 := by obtain ⟨r9, e9, z1, z2, z3⟩ := hV.refn (t := 129) (n := 30) ha0 ka0 19 rfl (by decide) rfl (by decide); rw [← em19, e9]; exact ⟨z1, z2, z3⟩
  obtain ⟨m21, xm21⟩ : ∃ z, z = mm 21 := ⟨_, rfl⟩
  have em21 : q.2.2.1 a0 21 = m21 := by rw [xm21]; exact em 21 (by decide)
  obtain ⟨hm21, km21, lm21⟩ : m21 ∈ L ∧ h.1 m21 = 131 ∧ h.2.1 m21 = 80 := by obtain ⟨r9, e9, z1, z2, z3⟩ := hV.refn (t := 131) (n := 80) ha0 ka0 21 rfl (by decide) rfl (by decide); rw [← em21, e9]; exact ⟨z1, z2, z3⟩
  obtain ⟨m23, xm23⟩ : ∃ z, z = mm 23 := ⟨_, rfl⟩
  have em23 : q.2.2.1 a0 23 = m23 := by rw [xm23]; exact em 23 (by decide)
  obtain ⟨hm23, km23, lm23⟩ : m23 ∈ L ∧ h.1 m23 = 133 ∧ h.2.1 m23 = 9 := by obtain ⟨r9, e9, z1, z2, z3⟩ := hV.refn (t := 133) (n := 9) ha0 ka0 23 rfl (by decide) rfl (by decide); rw [← em23, e9]; exact ⟨z1, z2, z3⟩
  obtain ⟨m24, xm24⟩ : ∃ z, z = mm 24 := ⟨_, rfl⟩
  have em24 : q.2.2.1 a0 24 = m24 := by rw [xm24]; exact em 24 (by decide)
  obtain ⟨hm24, km24, lm24⟩ : m24 ∈ L ∧ h.1 m24 = 134 ∧ h.2.1 m24 = 108 := by obtain ⟨r9, e9, z1, z2, z3⟩ := hV.refn (t := 134) (n := 108) ha0 ka0 24 rfl (by decide) rfl (by decide); rw [← em24, e9]; exact ⟨z1, z2, z3⟩
  obtain ⟨m25, xm25⟩ : ∃ z, z = mm 25 := ⟨_, rfl⟩
  have em25 : q.2.2.1 a0 25 = m25 := by rw [xm25]; exact em 25 (by decide)
  obtain ⟨hm25, km25, lm25⟩ : m25 ∈ L ∧ h.1 m25 = 135 ∧ h.2.1 m25 = 108 := by obtain ⟨r9, e9, z1, z2, z3⟩ := hV.refn (t := 135) (n := 108) ha0 ka0 25 rfl (by decide) rfl (by decide); rw [← em25, e9]; exact ⟨z1, z2, z3⟩
  obtain ⟨m26, xm26⟩ : ∃ z, z = mm 26 := ⟨_, rfl⟩
  have em26 : q.2.2.1 a0 26 = m26 := by rw [xm26]; exact em 26 (by decide)
  obtain ⟨hm26, km26, lm26⟩ : m26 ∈ L ∧ h.1 m26 = 136 ∧ h.2.1 m26 = 108 := by obtain ⟨r9, e9, z1, z2, z3⟩ := hV.refn (t := 136) (n := 108) ha0 ka0 26 rfl (by decide) rfl (by decide); rw [← em26, e9]; exact ⟨z1, z2, z3⟩
  obtain ⟨m27, xm27⟩ : ∃ z, z = mm 27 := ⟨_, rfl⟩
  have em27 : q.2.2.1 a0 27 = m27 := by rw [xm27]; exact em 27 (by decide)
  obtain ⟨hm27, km27, lm27⟩ : m27 ∈ L ∧ h.1 m27 = 137 ∧ h.2.1 m27 = 9 := by obtain ⟨r9, e9, z1, z2, z3⟩ := hV.refn (t := 137) (n := 9) ha0 ka0 27 rfl (by decide) rfl (by decide); rw [← em27, e9]; exact ⟨z1, z2, z3⟩
  obtain ⟨m28, xm28⟩ : ∃ z, z = mm 28 := ⟨_, rfl⟩
  have em28 : q.2.2.1 a0 28 = m28 := by rw [xm28]; exact em 28 (by decide)
  obtain ⟨hm28, km28, lm28⟩ : m28 ∈ L ∧ h.1 m28 = 138 ∧ h.2.1 m28 = 540 := by obtain ⟨r9, e9, z1, z2, z3⟩ := hV.refn (t := 138) (n := 540) ha0 ka0 28 rfl (by decide) rfl (by decide); rw [← em28, e9]; exact ⟨z1, z2, z3⟩
  obtain ⟨m29, xm29⟩ : ∃ z, z = mm 29 := ⟨_, rfl⟩
  have em29 : q.2.2.1 a0 29 = m29 := by rw [xm29]; exact em 29 (by decide)
  obtain ⟨hm29, km29, lm29⟩ : m29 ∈ L ∧ h.1 m29 = 139 ∧ h.2.1 m29 = 540 := by obtain ⟨r9, e9, z1, z2, z3⟩ := hV.refn (t := 139) (n := 540) ha0 ka0 29 rfl (by decide) rfl (by decide); rw [← em29, e9]; exact ⟨z1, z2, z3⟩
  obtain ⟨m30, xm30⟩ : ∃ z, z = mm 30 := ⟨_, rfl⟩
  have em30 : q.2.2.1 a0 30 = m30 := by rw [xm30]; exact em 30 (by decide)
  obtain ⟨hm30, km30, lm30⟩ : m30 ∈ L ∧ h.1 m30 = 140 ∧ h.2.1 m30 = 540 := by obtain ⟨r9, e9, z1, z2, z3⟩ := hV.refn (t := 140) (n := 540) ha0 ka0 30 rfl (by decide) rfl (by decide); rw [← em30, e9]; exact ⟨z1, z2, z3⟩
  obtain ⟨m34, xm34⟩ : ∃ z, z = mm 34 := ⟨_, rfl⟩
  have em34 : q.2.2.1 a0 34 = m34 := by rw [xm34]; exact em 34 (by decide)
  obtain ⟨hm34, km34, lm34⟩ : m34 ∈ L ∧ h.1 m34 = 144 ∧ h.2.1 m34 = 4 := by obtain ⟨r9, e9, z1, z2, z3⟩ := hV.refn (t := 144) (n := 4) ha0 ka0 34 rfl (by decide) rfl (by decide); rw [← em34, e9]; exact ⟨z1, z2, z3⟩
  obtain ⟨m35, xm35⟩ : ∃ z, z = mm 35 := ⟨_, rfl⟩
  have em35 : q.2.2.1 a0 35 = m35 := by rw [xm35]; exact em 35 (by decide)
  obtain ⟨hm35, km35, lm35⟩ : m35 ∈ L ∧ h.1 m35 = 245 ∧ h.2.1 m35 = 12 := by obtain ⟨r9, e9, z1, z2, z3⟩ := hV.refn (t := 245) (n := 12) ha0 ka0 35 rfl (by decide) rfl (by decide); rw [← em35, e9]; exact ⟨z1, z2, z3⟩
  obtain ⟨m40, xm40⟩ : ∃ z, z = mm 40 := ⟨_, rfl⟩
  have em40 : q.2.2.1 a0 40 = m40 := by rw [xm40]; exact em 40 (by decide)
  obtain ⟨hm40, km40, lm40⟩ : m40 ∈ L ∧ h.1 m40 = 150 ∧ h.2.1 m40 = 2400 := by obtain ⟨r9, e9, z1, z2, z3⟩ := hV.refn (t := 150) (n := 2400) ha0 ka0 40 rfl (by decide) rfl (by decide); rw [← em40, e9]; exact ⟨z1, z2, z3⟩
  obtain ⟨m41, xm41⟩ : ∃ z, z = mm 41 := ⟨_, rfl⟩
  have em41 : q.2.2.1 a0 41 = m41 := by rw [xm41]; exact em 41 (by decide)
  obtain ⟨hm41, km41, lm41⟩ : m41 ∈ L ∧ h.1 m41 = 151 ∧ h.2.1 m41 = 12 := by obtain ⟨r9, e9, z1, z2, z3⟩ := hV.refn (t := 151) (n := 12) ha0 ka0 41 rfl (by decide) rfl (by decide); rw [← em41, e9]; exact ⟨z1, z2, z3⟩
  obtain ⟨m42, xm42⟩ : ∃ z, z = mm 42 := ⟨_, rfl⟩
  have em42 : q.2.2.1 a0 42 = m42 := by rw [xm42]; exact em 42 (by decide)
  obtain ⟨hm42, km42, lm42⟩ : m42 ∈ L ∧ h.1 m42 = 152 ∧ h.2.1 m42 = 12 := by obtain ⟨r9, e9, z1, z2, z3⟩ := hV.refn (t := 152) (n := 12) ha0 ka0 42 rfl (by decide) rfl (by decide); rw [← em42, e9]; exact ⟨z1, z2, z3⟩
  obtain ⟨m43, xm43⟩ : ∃ z, z = mm 43 := ⟨_, rfl⟩
  have em43 : q.2.2.1 a0 43 = m43 := by rw [xm43]; exact em 43 (by decide)
  obtain ⟨hm43, km43, lm43⟩ : m43 ∈ L ∧ h.1 m43 = 153 ∧ h.2.1 m43 = 12 := by obtain ⟨r9, e9, z1, z2, z3⟩ := hV.refn (t := 153) (n := 12) ha0 ka0 43 rfl (by decide) rfl (by decide); rw [← em43, e9]; exact ⟨z1, z2, z3⟩
  obtain ⟨m44, xm44⟩ : ∃ z, z = mm 44 := ⟨_, rfl⟩
  have em44 : q.2.2.1 a0 44 = m44 := by rw [xm44]; exact em 44 (by decide)
  obtain ⟨hm44, km44, lm44⟩ : m44 ∈ L ∧ h.1 m44 = 154 ∧ h.2.1 m44 = 12 := by obtain ⟨r9, e9, z1, z2, z3⟩ := hV.refn (t := 154) (n := 12) ha0 ka0 44 rfl (by decide) rfl (by decide); rw [← em44, e9]; exact ⟨z1, z2, z3⟩
  obtain ⟨m46, xm46⟩ : ∃ z, z = mm 46 := ⟨_, rfl⟩
  have em46 : q.2.2.1 a0 46 = m46 := by rw [xm46]; exact em 46 (by decide)
  obtain ⟨hm46, km46, lm46⟩ : m46 ∈ L ∧ h.1 m46 = 156 ∧ h.2.1 m46 = 144 := by obtain ⟨r9, e9, z1, z2, z3⟩ := hV.refn (t := 156) (n := 144) ha0 ka0 46 rfl (by decide) rfl (by decide); rw [← em46, e9]; exact ⟨z1, z2, z3⟩
  obtain ⟨m47, xm47⟩ : ∃ z, z = mm 47 := ⟨_, rfl⟩
  have em47 : q.2.2.1 a0 47 = m47 := by rw [xm47]; exact em 47 (by decide)
  obtain ⟨hm47, km47, lm47⟩ : m47 ∈ L ∧ h.1 m47 = 157 ∧ h.2.1 m47 = 4096 := by obtain ⟨r9, e9, z1, z2, z3⟩ := hV.refn (t := 157) (n := 4096) ha0 ka0 47 rfl (by decide) rfl (by decide); rw [← em47, e9]; exact ⟨z1, z2, z3⟩
  obtain ⟨m48, xm48⟩ : ∃ z, z = mm 48 := ⟨_, rfl⟩
  have em48 : q.2.2.1 a0 48 = m48 := by rw [xm48]; exact em 48 (by decide)
  obtain ⟨hm48, km48, lm48⟩ : m48 ∈ L ∧ h.1 m48 = 158 ∧ h.2.1 m48 = 12 := by obtain ⟨r9, e9, z1, z2, z3⟩ := hV.refn (t := 158) (n := 12) ha0 ka0 48 rfl (by decide) rfl (by decide); rw [← em48, e9]; exact ⟨z1, z2, z3⟩
  have mF : mv_F m18 m19 q := by rw [xm18, xm19]; exact mF0
  have mU : mv_U m17 q := by rw [xm17]; exact mU0
  have mS : mv_S m23 m26 m28 m29 q := by rw [xm23, xm26, xm28, xm29]; exact mS0
  have mL : mv_L m40 m41 m44 a0 q := by rw [xm40, xm41, xm44]; exact mL0
  have hF : sx_fr h L (fun _ => True) q q := sx_fr.rf
  obtain ⟨htb, ktb, ltb⟩ : tb ∈ L ∧ h.1 tb = 300 ∧ h.2.1 tb = 440 := by obtain ⟨r9, e9, z1, z2, z3⟩ := hV.refn (t := 300) (n := 440) ht0 kt0 0 rfl (by decide) (by rw [lt0]; rfl) (by decide); rw [← etb, e9]; exact ⟨z1, z2, z3⟩
  obtain ⟨hfa, kfa, lfa⟩ : fa ∈ L ∧ h.1 fa = 403 ∧ h.2.1 fa = 12 := by obtain ⟨r9, e9, z1, z2, z3⟩ := hV.refn (t := 403) (n := 12) hx0 kx0 9 rfl (by decide) rfl (by decide); rw [← efa, e9]; exact ⟨z1, z2, z3⟩
  have hT : ty_T (q.2.2.2.1 tb) (q.2.2.2.1 m1) (q.1 t0 1).toInt.toNat := by rw [xm1]; exact hT0
  have hR : lc_R h fa m44 x0 q := by rw [xm44]; exact hR0
  have gx14 : (0 : Int) ≤ (q.1 x0 14).toInt ∧ (q.1 x0 14).toInt ≤ 12 := hV.int hx0 kx0 14
  have gt1 : (0 : Int) ≤ (q.1 t0 1).toInt ∧ (q.1 t0 1).toInt ≤ 440 := by have z9 := hV.int ht0 kt0 1; rw [etb, ltb] at z9; exact z9
  obtain ⟨huu, kuu⟩ : uu ∈ L ∧ h.1 uu = 9 := by obtain ⟨r9, e9, z1, z2⟩ := hV.ref (t := 9) hx0 kx0 11 rfl (by decide); rw [← euu, e9]; exact ⟨z1, z2⟩
  obtain ⟨hsu, ksu⟩ : su ∈ L ∧ h.1 su = 9 := by obtain ⟨r9, e9, z1, z2⟩ := hV.ref (t := 9) hx0 kx0 12 rfl (by decide); rw [← esu, e9]; exact ⟨z1, z2⟩
  have nuu_su : ¬ uu = su := hdz.1
  obtain ⟨uc, euc⟩ : ∃ z, q.2.2.1 uu 1 = z := ⟨_, rfl⟩
  obtain ⟨huc, kuc, luc⟩ : uc ∈ L ∧ h.1 uc = 101 ∧ h.2.1 uc = 3 := by obtain ⟨r9, e9, z1, z2, z3⟩ := hV.refn (t := 101) (n := 3) huu kuu 1 rfl (by decide) rfl (by decide); rw [← euc, e9]; exact ⟨z1, z2, z3⟩
  obtain ⟨un, eun⟩ : ∃ z, q.2.2.1 uu 2 = z := ⟨_, rfl⟩
  obtain ⟨hun, kun, lun⟩ : un ∈ L ∧ h.1 un = 202 ∧ h.2.1 un = 15 := by obtain ⟨r9, e9, z1, z2, z3⟩ := hV.refn (t := 202) (n := 15) huu kuu 2 rfl (by decide) rfl (by decide); rw [← eun, e9]; exact ⟨z1, z2, z3⟩
  obtain ⟨uf, euf⟩ : ∃ z, q.2.2.1 uu 3 = z := ⟨_, rfl⟩
  obtain ⟨huf, kuf, luf⟩ : uf ∈ L ∧ h.1 uf = 102 ∧ h.2.1 uf = 15 := by obtain ⟨r9, e9, z1, z2, z3⟩ := hV.refn (t := 102) (n := 15) huu kuu 3 rfl (by decide) rfl (by decide); rw [← euf, e9]; exact ⟨z1, z2, z3⟩
  obtain ⟨uw, euw⟩ : ∃ z, q.2.2.1 uu 4 = z := ⟨_, rfl⟩
  obtain ⟨huw, kuw, luw⟩ : uw ∈ L ∧ h.1 uw = 103 ∧ h.2.1 uw = 15 := by obtain ⟨r9, e9, z1, z2, z3⟩ := hV.refn (t := 103) (n := 15) huu kuu 4 rfl (by decide) rfl (by decide); rw [← euw, e9]; exact ⟨z1, z2, z3⟩
  have hu : lc_u8 (q.1 uu 6) (q.1 a0 20) (q.2.2.2.1 uc) (q.2.2.2.1 m18) (q.2.2.2.1 uf) (q.2.2.2.1 m19) (q.2.2.2.1 uw) (q.2.2.2.2 un) (q.2.2.2.2 m17) := by rw [← euc, ← euf, ← euw, ← eun, xm17, xm18, xm19]; exact hu0
  obtain ⟨ho0, ko0, lo0⟩ : o0 ∈ L ∧ h.1 o0 = 7 ∧ h.2.1 o0 = 2 := by obtain ⟨r9, e9, z1, z2, z3⟩ := hV.refn (t := 7) (n := 2) hx0 kx0 1 rfl (by decide) rfl (by decide); rw [← eo0, e9]; exact ⟨z1, z2, z3⟩
  obtain ⟨hob, kob, lob⟩ : ob ∈ L ∧ h.1 ob = 300 ∧ h.2.1 ob = 59 := by obtain ⟨r9, e9, z1, z2, z3⟩ := hV.refn (t := 300) (n := 59) ho0 ko0 0 rfl (by decide) (by rw [lo0]; rfl) (by decide); rw [← eob, e9]; exact ⟨z1, z2, z3⟩
  have nt0_o0 : ¬ t0 = o0 := fun z9 => absurd (z9 ▸ lt0 : h.2.1 o0 = 1) (by rw [lo0]; decide)
  have ntb_ob : ¬ tb = ob := fun z9 => absurd (z9 ▸ ltb : h.2.1 ob = 440) (by rw [lob]; decide)
  have hout : lc_o (q.1 o0 1) (q.1 a0 22) (q.2.2.2.1 ob) (q.2.2.2.1 m21) := by rw [xm21]; exact hout0
  refine wa_aload_n B dL_law_455 rfl 3 rfl ?_
  refine wa_aload_n B dL_law_456 rfl 4 rfl ?_
  refine wa_iload B dL_law_457 0 rfl ?_
  refine wa_iconst B 1 dL_law_459 (by decide) ?_
  refine wa_iadd B dL_law_460 (fun v_1 ev_1 => ?_)
  subst ev_1
  have t_2 : (i + 1).toInt = i.toInt + 1 := by have b0 := zx_bd i; exact zx_add (show (-2147483648 : Int) ≤ i.toInt + 1 by omega) (show i.toInt + 1 < (2147483648 : Int) by omega)
  refine wa_sld B hX hbl hbA (i := (i + 1)) (show 0 ≤ (i + 1).toInt by omega) (show (i + 1).toInt < (N : Int) by omega) dL_law_461 ?_
  refine wa_callVi B (x := (RX11, TX11, 16)) (As := [.int ((xs ((i + 1) : Int32).toNatClampNeg))]) (rest := []) (k_X11_readings_c l dC dI h L hN q hV (a0 := x0) hx0 kx0 ((xs ((i + 1) : Int32).toNatClampNeg)) (t0 := t0) et0 (tb := tb) etb (fa := fa) efa (uu := uu) euu (o0 := o0) eo0 (ob := ob) eob  ) (cwV 1 B.1.2.2.2.2 gL_law_X11_readings rfl rfl rfl (by decide +kernel) ⟨Nat.le_of_ble_eq_true rfl, Nat.le_of_ble_eq_true rfl⟩) hx0 kx0 (by decide) rfl rfl rfl (Nat.le_of_ble_eq_true rfl) dL_law_462 (fun r_4 q_3 w_5 => ?_)
  obtain ⟨hV_q_3, h2_q_3, hw_5⟩ := w_5
  have mN_q_3 : mv_N a0 q_3 := mv_N.eq (h2_q_3.I ha0 (show ¬ (sx_c6 h a0) from (sx_c6.n ka0 (by decide))) 8) (h2_q_3.J ha0 (show ¬ (sx_c6 h a0) from (sx_c6.n ka0 (by decide))) 11) mN
  have mF_q_3 : mv_F m18 m19 q_3 := mv_F.eq (h2_q_3.G hm18 (show ¬ (sx_c6 h m18) from (sx_c6.n km18 (by decide))) (by rw [km18]; decide)) (h2_q_3.G hm19 (show ¬ (sx_c6 h m19) from (sx_c6.n km19 (by decide))) (by rw [km19]; decide)) mF
  have mU_q_3 : mv_U m17 q_3 := mv_U.eq (h2_q_3.Lg hm17 (show ¬ (sx_c6 h m17) from (sx_c6.n km17 (by decide))) (by rw [km17]; decide)) mU
  have mS_q_3 : mv_S m23 m26 m28 m29 q_3 := mv_S.eq (h2_q_3.G hm23 (show ¬ (sx_c6 h m23) from (sx_c6.n km23 (by decide))) (by rw [km23]; decide)) (h2_q_3.G hm26 (show ¬ (sx_c6 h m26) from (sx_c6.n km26 (by decide))) (by rw [km26]; decide)) (h2_q_3.G hm28 (show ¬ (sx_c6 h m28) from (sx_c6.n km28 (by decide))) (by rw [km28]; decide)) (h2_q_3.G hm29 (show ¬ (sx_c6 h m29) from (sx_c6.n km29 (by decide))) (by rw [km29]; decide)) mS
  have mL_q_3 : mv_L m40 m41 m44 a0 q_3 := mv_L.eq (h2_q_3.G hm40 (show ¬ (sx_c6 h m40) from (sx_c6.n km40 (by decide))) (by rw [km40]; decide)) (h2_q_3.G hm41 (show ¬ (sx_c6 h m41) from (sx_c6.n km41 (by decide))) (by rw [km41]; decide)) (h2_q_3.G hm44 (show ¬ (sx_c6 h m44) from (sx_c6.n km44 (by decide))) (by rw [km44]; decide)) (h2_q_3.I ha0 (show ¬ (sx_c6 h a0) from (sx_c6.n ka0 (by decide))) 45) mL
  have hB_q_3 := hw_5.2.2.2.2.1.trans esu
  refine wa_pop B dL_law_465 rfl ?_
  refine wa_aload_n B dL_law_466 rfl 2 rfl ?_
  refine wa_aload_n B dL_law_467 rfl 4 rfl ?_
  refine wa_iload B dL_law_468 0 rfl ?_
  refine wa_iconst B 1 dL_law_470 (by decide) ?_
  refine wa_iadd B dL_law_471 (fun v_6 ev_6 => ?_)
  subst ev_6
  refine wa_sld B hX hbl hbA (i := (i + 1)) (show 0 ≤ (i + 1).toInt by omega) (show (i + 1).toInt < (N : Int) by omega) dL_law_472 ?_
  have z_7 : q_3.2.2.1 a0 18 = m18 := (h2_q_3.R ha0 (fun z9 => absurd z9.2 (by omega)) 18).trans (em18)
  have z_8 : q_3.2.2.1 a0 19 = m19 := (h2_q_3.R ha0 (fun z9 => absurd z9.2 (by omega)) 19).trans (em19)
  have z_9 : q_3.2.2.1 a0 23 = m23 := (h2_q_3.R ha0 (fun z9 => absurd z9.2 (by omega)) 23).trans (em23)
  have z_10 : q_3.2.2.1 a0 25 = m25 := (h2_q_3.R ha0 (fun z9 => absurd z9.2 (by omega)) 25).trans (em25)
  have z_11 : q_3.2.2.1 a0 26 = m26 := (h2_q_3.R ha0 (fun z9 => absurd z9.2 (by omega)) 26).trans (em26)
  have z_12 : q_3.2.2.1 a0 27 = m27 := (h2_q_3.R ha0 (fun z9 => absurd z9.2 (by omega)) 27).trans (em27)
  have z_13 : q_3.2.2.1 a0 28 = m28 := (h2_q_3.R ha0 (fun z9 => absurd z9.2 (by omega)) 28).trans (em28)
  have z_14 : q_3.2.2.1 a0 29 = m29 := (h2_q_3.R ha0 (fun z9 => absurd z9.2 (by omega)) 29).trans (em29)
  have z_15 : q_3.2.2.1 a0 30 = m30 := (h2_q_3.R ha0 (fun z9 => absurd z9.2 (by omega)) 30).trans (em30)
  have z_16 : q_3.2.2.1 a0 34 = m34 := (h2_q_3.R ha0 (fun z9 => absurd z9.2 (by omega)) 34).trans (em34)
  have z_17 : q_3.2.2.1 a0 35 = m35 := (h2_q_3.R ha0 (fun z9 => absurd z9.2 (by omega)) 35).trans (em35)
  refine wa_callVi B (x := (RX12, TX12, 51)) (As := [.int ((xs ((i + 1) : Int32).toNatClampNeg))]) (rest := []) (k_X12_readings l dC dI h L hN q_3 hV_q_3 (a0 := a0) ha0 ka0 ((xs ((i + 1) : Int32).toNatClampNeg)) (m18 := m18) z_7 (m19 := m19) z_8 (m23 := m23) z_9 (m25 := m25) z_10 (m26 := m26) z_11 (m27 := m27) z_12 (m28 := m28) z_13 (m29 := m29) z_14 (m30 := m30) z_15 (m34 := m34) z_16 (m35 := m35) z_17 mS_q_3 ) (cwV 1 B.1.2.2.2.2 gL_law_X12_readings rfl rfl rfl (by decide +kernel) ⟨Nat.le_of_ble_eq_true rfl, Nat.le_of_ble_eq_true rfl⟩) ha0 ka0 (by decide) rfl rfl rfl (Nat.le_of_ble_eq_true rfl) dL_law_473 (fun r_19 q_18 w_20 => ?_)
  obtain ⟨hV_q_18, h2_q_18, h3_q_18, mS_q_18⟩ := w_20
  have mN_q_18 : mv_N a0 q_18 := mv_N.eq (h3_q_18.1 8 (by decide)) (h3_q_18.2 11 (by decide)) mN_q_3
  have mF_q_18 : mv_F m18 m19 q_18 := mv_F.eq (h2_q_18.G hm18 (show ¬ (h.1 m18 = 12 ∨ h.1 m18 = 144 ∨ h.1 m18 = 245) from (fun z => z.elim (fun z => absurd (z.symm.trans km18) (by decide)) (fun z => z.elim (fun z => absurd (z.symm.trans km18) (by decide)) (fun z => absurd (z.symm.trans km18) (by decide))))) (by rw [km18]; decide)) (h2_q_18.G hm19 (show ¬ (h.1 m19 = 12 ∨ h.1 m19 = 144 ∨ h.1 m19 = 245) from (fun z => z.elim (fun z => absurd (z.symm.trans km19) (by decide)) (fun z => z.elim (fun z => absurd (z.symm.trans km19) (by decide)) (fun z => absurd (z.symm.trans km19) (by decide))))) (by rw [km19]; decide)) mF_q_3
  have mU_q_18 : mv_U m17 q_18 := mv_U.eq (h2_q_18.Lg hm17 (show ¬ (h.1 m17 = 12 ∨ h.1 m17 = 144 ∨ h.1 m17 = 245) from (fun z => z.elim (fun z => absurd (z.symm.trans km17) (by decide)) (fun z => z.elim (fun z => absurd (z.symm.trans km17) (by decide)) (fun z => absurd (z.symm.trans km17) (by decide))))) (by rw [km17]; decide)) mU_q_3
  have mL_q_18 : mv_L m40 m41 m44 a0 q_18 := mv_L.eq (h2_q_18.G hm40 (show ¬ (h.1 m40 = 12 ∨ h.1 m40 = 144 ∨ h.1 m40 = 245) from (fun z => z.elim (fun z => absurd (z.symm.trans km40) (by decide)) (fun z => z.elim (fun z => absurd (z.symm.trans km40) (by decide)) (fun z => absurd (z.symm.trans km40) (by decide))))) (by rw [km40]; decide)) (h2_q_18.G hm41 (show ¬ (h.1 m41 = 12 ∨ h.1 m41 = 144 ∨ h.1 m41 = 245) from (fun z => z.elim (fun z => absurd (z.symm.trans km41) (by decide)) (fun z => z.elim (fun z => absurd (z.symm.trans km41) (by decide)) (fun z => absurd (z.symm.trans km41) (by decide))))) (by rw [km41]; decide)) (h2_q_18.G hm44 (show ¬ (h.1 m44 = 12 ∨ h.1 m44 = 144 ∨ h.1 m44 = 245) from (fun z => z.elim (fun z => absurd (z.symm.trans km44) (by decide)) (fun z => z.elim (fun z => absurd (z.symm.trans km44) (by decide)) (fun z => absurd (z.symm.trans km44) (by decide))))) (by rw [km44]; decide)) (h3_q_18.1 45 (by decide)) mL_q_3
  refine wa_pop B dL_law_476 rfl ?_
  refine wa_goto B 775 dL_law_477 (by decide) ?_
  have z_21 : q_18.1 a0 2 = q.1 a0 2 := (h3_q_18.1 2 (by decide)).trans (h2_q_3.I ha0 (show ¬ (sx_c6 h a0) from (sx_c6.n ka0 (by decide))) 2)
  have y_22 : (q_18.1 a0 2).toInt = (q.1 a0 2).toInt := by rw [z_21]
  have z_23 : q_18.1 a0 45 = q.1 a0 45 := (h3_q_18.1 45 (by decide)).trans (h2_q_3.I ha0 (show ¬ (sx_c6 h a0) from (sx_c6.n ka0 (by decide))) 45)
  have y_24 : (q_18.1 a0 45).toInt = (q.1 a0 45).toInt := by rw [z_23]
  have z_25 : q_18.1 t0 1 = q_3.1 t0 1 := h2_q_18.I ht0 (show ¬ (h.1 t0 = 12 ∨ h.1 t0 = 144 ∨ h.1 t0 = 245) from (fun z => z.elim (fun z => absurd (z.symm.trans kt0) (by decide)) (fun z => z.elim (fun z => absurd (z.symm.trans kt0) (by decide)) (fun z => absurd (z.symm.trans kt0) (by decide))))) 1
  have y_26 : (q_18.1 t0 1).toInt = (q_3.1 t0 1).toInt := by rw [z_25]
  have z_27 : q_18.1 x0 14 = q_3.1 x0 14 := h2_q_18.I hx0 (show ¬ (h.1 x0 = 12 ∨ h.1 x0 = 144 ∨ h.1 x0 = 245) from (fun z => z.elim (fun z => absurd (z.symm.trans kx0) (by decide)) (fun z => z.elim (fun z => absurd (z.symm.trans kx0) (by decide)) (fun z => absurd (z.symm.trans kx0) (by decide))))) 14
  have y_28 : (q_18.1 x0 14).toInt = (q_3.1 x0 14).toInt := by rw [z_27]
  have z_29 : q_18.2.2.1 x0 0 = t0 := (h2_q_18.R hx0 (show ¬ ((h.1 x0 = 12 ∨ h.1 x0 = 144 ∨ h.1 x0 = 245) ∧ (h.1 x0 = 8 ∨ h.1 x0 = 11)) from fun z9 => (show ¬ (h.1 x0 = 12 ∨ h.1 x0 = 144 ∨ h.1 x0 = 245) from (fun z => z.elim (fun z => absurd (z.symm.trans kx0) (by decide)) (fun z => z.elim (fun z => absurd (z.symm.trans kx0) (by decide)) (fun z => absurd (z.symm.trans kx0) (by decide))))) z9.1) 0).trans (hw_5.1)
  have z_30 : q_18.2.2.1 t0 0 = tb := (h2_q_18.R ht0 (fun z9 => absurd z9.2 (by omega)) 0).trans ((h2_q_3.R ht0 (fun z9 => absurd z9.2 (by omega)) 0).trans (etb))
  have z_31 : q_18.2.2.1 x0 9 = fa := (h2_q_18.R hx0 (show ¬ ((h.1 x0 = 12 ∨ h.1 x0 = 144 ∨ h.1 x0 = 245) ∧ (h.1 x0 = 8 ∨ h.1 x0 = 11)) from fun z9 => (show ¬ (h.1 x0 = 12 ∨ h.1 x0 = 144 ∨ h.1 x0 = 245) from (fun z => z.elim (fun z => absurd (z.symm.trans kx0) (by decide)) (fun z => z.elim (fun z => absurd (z.symm.trans kx0) (by decide)) (fun z => absurd (z.symm.trans kx0) (by decide))))) z9.1) 9).trans (hw_5.2.2.2.2.2.1)
  have z_32 : q_18.2.2.2.1 tb = q.2.2.2.1 tb := (h2_q_18.G htb (show ¬ (h.1 tb = 12 ∨ h.1 tb = 144 ∨ h.1 tb = 245) from (fun z => z.elim (fun z => absurd (z.symm.trans ktb) (by decide)) (fun z => z.elim (fun z => absurd (z.symm.trans ktb) (by decide)) (fun z => absurd (z.symm.trans ktb) (by decide))))) (by rw [ktb]; decide)).trans (h2_q_3.G htb (show ¬ (sx_c6 h tb) from (sx_c6.t ktb ltb)) (by rw [ktb]; decide))
  have z_33 : q_18.2.2.2.1 m1 = q.2.2.2.1 m1 := (h2_q_18.G hm1 (show ¬ (h.1 m1 = 12 ∨ h.1 m1 = 144 ∨ h.1 m1 = 245) from (fun z => z.elim (fun z => absurd (z.symm.trans km1) (by decide)) (fun z => z.elim (fun z => absurd (z.symm.trans km1) (by decide)) (fun z => absurd (z.symm.trans km1) (by decide))))) (by rw [km1]; decide)).trans (h2_q_3.G hm1 (show ¬ (sx_c6 h m1) from (sx_c6.n km1 (by decide))) (by rw [km1]; decide))
  have hT9 : ty_T (q_18.2.2.2.1 tb) (q_18.2.2.2.1 m1) (q_18.1 t0 1).toInt.toNat := by rw [z_32, z_33]; exact hT.le (by omega)
  have z_34 : q_18.2.2.2.1 m44 = q.2.2.2.1 m44 := (h2_q_18.G hm44 (show ¬ (h.1 m44 = 12 ∨ h.1 m44 = 144 ∨ h.1 m44 = 245) from (fun z => z.elim (fun z => absurd (z.symm.trans km44) (by decide)) (fun z => z.elim (fun z => absurd (z.symm.trans km44) (by decide)) (fun z => absurd (z.symm.trans km44) (by decide))))) (by rw [km44]; decide)).trans (h2_q_3.G hm44 (show ¬ (sx_c6 h m44) from (sx_c6.n km44 (by decide))) (by rw [km44]; decide))
  have hR9 : lc_R h fa m44 x0 q_18 := by
    intro f hf
    obtain ⟨e9, ee9, he9, ke9⟩ := hV.elem (t := 0) hfa kfa (by decide) rfl (j := f) (by omega)
    rw [ee9, show q_18.1 e9 3 = q_3.1 e9 3 from h2_q_18.I he9 (show ¬ (h.1 e9 = 12 ∨ h.1 e9 = 144 ∨ h.1 e9 = 245) from by omega) 3, show q_3.1 e9 3 = q.1 e9 3 from h2_q_3.I he9 (show ¬ (sx_c6 h e9) from by (try unfold sx_mk at *); (try unfold sx_ck at *); (try unfold sx_c6 at *); omega) 3, ← ee9, z_34]
    exact hR f (by omega)
  have hR_uu : q_18.2.2.1 uu = q.2.2.1 uu := by rw [show q_18.2.2.1 uu = q_3.2.2.1 uu from h2_q_18.2 uu huu (fun z9 => absurd z9.2 (by rw [kuu]; decide)), show q_3.2.2.1 uu = q.2.2.1 uu from h2_q_3.2 uu huu (fun z9 => absurd z9.2 (by rw [kuu]; decide))]
  have hR_su : q_18.2.2.1 su = q.2.2.1 su := by rw [show q_18.2.2.1 su = q_3.2.2.1 su from h2_q_18.2 su hsu (fun z9 => absurd z9.2 (by rw [ksu]; decide)), show q_3.2.2.1 su = q.2.2.1 su from h2_q_3.2 su hsu (fun z9 => absurd z9.2 (by rw [ksu]; decide))]
  have z_35 : q_18.1 o0 1 = q.1 o0 1 := (h2_q_18.I ho0 (show ¬ (h.1 o0 = 12 ∨ h.1 o0 = 144 ∨ h.1 o0 = 245) from (fun z => z.elim (fun z => absurd (z.symm.trans ko0) (by decide)) (fun z => z.elim (fun z => absurd (z.symm.trans ko0) (by decide)) (fun z => absurd (z.symm.trans ko0) (by decide))))) 1).trans (h2_q_3.I ho0 (show ¬ (sx_c6 h o0) from (sx_c6.o ko0 lo0)) 1)
  have z_36 : q_18.1 a0 22 = q.1 a0 22 := (h3_q_18.1 22 (by decide)).trans (h2_q_3.I ha0 (show ¬ (sx_c6 h a0) from (sx_c6.n ka0 (by decide))) 22)
  have z_37 : q_18.2.2.2.1 ob = q.2.2.2.1 ob := (h2_q_18.G hob (show ¬ (h.1 ob = 12 ∨ h.1 ob = 144 ∨ h.1 ob = 245) from (fun z => z.elim (fun z => absurd (z.symm.trans kob) (by decide)) (fun z => z.elim (fun z => absurd (z.symm.trans kob) (by decide)) (fun z => absurd (z.symm.trans kob) (by decide))))) (by rw [kob]; decide)).trans (h2_q_3.G hob (show ¬ (sx_c6 h ob) from (sx_c6.u kob lob)) (by rw [kob]; decide))
  have z_38 : q_18.2.2.2.1 m21 = q.2.2.2.1 m21 := (h2_q_18.G hm21 (show ¬ (h.1 m21 = 12 ∨ h.1 m21 = 144 ∨ h.1 m21 = 245) from (fun z => z.elim (fun z => absurd (z.symm.trans km21) (by decide)) (fun z => z.elim (fun z => absurd (z.symm.trans km21) (by decide)) (fun z => absurd (z.symm.trans km21) (by decide))))) (by rw [km21]; decide)).trans (h2_q_3.G hm21 (show ¬ (sx_c6 h m21) from (sx_c6.n km21 (by decide))) (by rw [km21]; decide))
  have hout9 : lc_o (q_18.1 o0 1) (q_18.1 a0 22) (q_18.2.2.2.1 ob) (q_18.2.2.2.1 (mm 21)) := by rw [← xm21, z_35, z_36, z_37, z_38]; exact hout
  have z_39 : q_18.2.2.1 x0 1 = o0 := (h2_q_18.R hx0 (show ¬ ((h.1 x0 = 12 ∨ h.1 x0 = 144 ∨ h.1 x0 = 245) ∧ (h.1 x0 = 8 ∨ h.1 x0 = 11)) from fun z9 => (show ¬ (h.1 x0 = 12 ∨ h.1 x0 = 144 ∨ h.1 x0 = 245) from (fun z => z.elim (fun z => absurd (z.symm.trans kx0) (by decide)) (fun z => z.elim (fun z => absurd (z.symm.trans kx0) (by decide)) (fun z => absurd (z.symm.trans kx0) (by decide))))) z9.1) 1).trans (hw_5.2.2.2.2.2.2)
  have z_40 : q_18.2.2.1 o0 0 = ob := (h2_q_18.R ho0 (fun z9 => absurd z9.2 (by omega)) 0).trans ((h2_q_3.R ho0 (fun z9 => absurd z9.2 (by omega)) 0).trans (eob))
  have z_41 : q_18.1 uu 6 = q.1 uu 6 := (h2_q_18.I huu (show ¬ (h.1 uu = 12 ∨ h.1 uu = 144 ∨ h.1 uu = 245) from (fun z => z.elim (fun z => absurd (z.symm.trans kuu) (by decide)) (fun z => z.elim (fun z => absurd (z.symm.trans kuu) (by decide)) (fun z => absurd (z.symm.trans kuu) (by decide))))) 6).trans (h2_q_3.I huu (show ¬ (sx_c6 h uu) from (sx_c6.n kuu (by decide))) 6)
  have z_42 : q_18.1 a0 20 = q.1 a0 20 := (h3_q_18.1 20 (by decide)).trans (h2_q_3.I ha0 (show ¬ (sx_c6 h a0) from (sx_c6.n ka0 (by decide))) 20)
  have z_43 : q_18.2.2.2.1 uc = q.2.2.2.1 uc := (h2_q_18.G huc (show ¬ (h.1 uc = 12 ∨ h.1 uc = 144 ∨ h.1 uc = 245) from (fun z => z.elim (fun z => absurd (z.symm.trans kuc) (by decide)) (fun z => z.elim (fun z => absurd (z.symm.trans kuc) (by decide)) (fun z => absurd (z.symm.trans kuc) (by decide))))) (by rw [kuc]; decide)).trans (h2_q_3.G huc (show ¬ (sx_c6 h uc) from (sx_c6.n kuc (by decide))) (by rw [kuc]; decide))
  have z_44 : q_18.2.2.2.1 m18 = q.2.2.2.1 m18 := (h2_q_18.G hm18 (show ¬ (h.1 m18 = 12 ∨ h.1 m18 = 144 ∨ h.1 m18 = 245) from (fun z => z.elim (fun z => absurd (z.symm.trans km18) (by decide)) (fun z => z.elim (fun z => absurd (z.symm.trans km18) (by decide)) (fun z => absurd (z.symm.trans km18) (by decide))))) (by rw [km18]; decide)).trans (h2_q_3.G hm18 (show ¬ (sx_c6 h m18) from (sx_c6.n km18 (by decide))) (by rw [km18]; decide))
  have z_45 : q_18.2.2.2.1 uf = q.2.2.2.1 uf := (h2_q_18.G huf (show ¬ (h.1 uf = 12 ∨ h.1 uf = 144 ∨ h.1 uf = 245) from (fun z => z.elim (fun z => absurd (z.symm.trans kuf) (by decide)) (fun z => z.elim (fun z => absurd (z.symm.trans kuf) (by decide)) (fun z => absurd (z.symm.trans kuf) (by decide))))) (by rw [kuf]; decide)).trans (h2_q_3.G huf (show ¬ (sx_c6 h uf) from (sx_c6.n kuf (by decide))) (by rw [kuf]; decide))
  have z_46 : q_18.2.2.2.1 m19 = q.2.2.2.1 m19 := (h2_q_18.G hm19 (show ¬ (h.1 m19 = 12 ∨ h.1 m19 = 144 ∨ h.1 m19 = 245) from (fun z => z.elim (fun z => absurd (z.symm.trans km19) (by decide)) (fun z => z.elim (fun z => absurd (z.symm.trans km19) (by decide)) (fun z => absurd (z.symm.trans km19) (by decide))))) (by rw [km19]; decide)).trans (h2_q_3.G hm19 (show ¬ (sx_c6 h m19) from (sx_c6.n km19 (by decide))) (by rw [km19]; decide))
  have z_47 : q_18.2.2.2.1 uw = q.2.2.2.1 uw := (h2_q_18.G huw (show ¬ (h.1 uw = 12 ∨ h.1 uw = 144 ∨ h.1 uw = 245) from (fun z => z.elim (fun z => absurd (z.symm.trans kuw) (by decide)) (fun z => z.elim (fun z => absurd (z.symm.trans kuw) (by decide)) (fun z => absurd (z.symm.trans kuw) (by decide))))) (by rw [kuw]; decide)).trans (h2_q_3.G huw (show ¬ (sx_c6 h uw) from (sx_c6.n kuw (by decide))) (by rw [kuw]; decide))
  have z_48 : q_18.2.2.2.2 un = q.2.2.2.2 un := (h2_q_18.Lg hun (show ¬ (h.1 un = 12 ∨ h.1 un = 144 ∨ h.1 un = 245) from (fun z => z.elim (fun z => absurd (z.symm.trans kun) (by decide)) (fun z => z.elim (fun z => absurd (z.symm.trans kun) (by decide)) (fun z => absurd (z.symm.trans kun) (by decide))))) (by rw [kun]; decide)).trans (h2_q_3.Lg hun (show ¬ (sx_c6 h un) from (sx_c6.n kun (by decide))) (by rw [kun]; decide))
  have z_49 : q_18.2.2.2.2 m17 = q.2.2.2.2 m17 := (h2_q_18.Lg hm17 (show ¬ (h.1 m17 = 12 ∨ h.1 m17 = 144 ∨ h.1 m17 = 245) from (fun z => z.elim (fun z => absurd (z.symm.trans km17) (by decide)) (fun z => z.elim (fun z => absurd (z.symm.trans km17) (by decide)) (fun z => absurd (z.symm.trans km17) (by decide))))) (by rw [km17]; decide)).trans (h2_q_3.Lg hm17 (show ¬ (sx_c6 h m17) from (sx_c6.n km17 (by decide))) (by rw [km17]; decide))
  have hu9 : lc_uq8 q_18 a0 uu (mm 17) (mm 18) (mm 19) := by unfold lc_uq8; rw [← xm17, ← xm18, ← xm19, hR_uu, euc, euf, euw, eun, z_41, z_42, z_43, z_44, z_45, z_46, z_47, z_48, z_49]; exact hu
  have z_50 : q_18.2.2.1 x0 11 = uu := (h2_q_18.R hx0 (show ¬ ((h.1 x0 = 12 ∨ h.1 x0 = 144 ∨ h.1 x0 = 245) ∧ (h.1 x0 = 8 ∨ h.1 x0 = 11)) from fun z9 => (show ¬ (h.1 x0 = 12 ∨ h.1 x0 = 144 ∨ h.1 x0 = 245) from (fun z => z.elim (fun z => absurd (z.symm.trans kx0) (by decide)) (fun z => z.elim (fun z => absurd (z.symm.trans kx0) (by decide)) (fun z => absurd (z.symm.trans kx0) (by decide))))) z9.1) 11).trans (hw_5.2.2.2.1)
  have z_51 : q_18.2.2.1 x0 12 = su := (h2_q_18.R hx0 (show ¬ ((h.1 x0 = 12 ∨ h.1 x0 = 144 ∨ h.1 x0 = 245) ∧ (h.1 x0 = 8 ∨ h.1 x0 = 11)) from fun z9 => (show ¬ (h.1 x0 = 12 ∨ h.1 x0 = 144 ∨ h.1 x0 = 245) from (fun z => z.elim (fun z => absurd (z.symm.trans kx0) (by decide)) (fun z => z.elim (fun z => absurd (z.symm.trans kx0) (by decide)) (fun z => absurd (z.symm.trans kx0) (by decide))))) z9.1) 12).trans (hB_q_3)
  exact hcont _ _ (Or.inl rfl) ⟨⟨⟨hV_q_18, mN_q_18, by rw [← xm18, ← xm19]; exact mF_q_18, by rw [← xm17]; exact mU_q_18, by rw [← xm23, ← xm26, ← xm28, ← xm29]; exact mS_q_18, by rw [← xm40, ← xm41, ← xm44]; exact mL_q_18, z_29, fun k hk => by rw [show q_18.2.2.1 a0 = q_3.2.2.1 a0 from h2_q_18.2 a0 ha0 (fun z9 => absurd z9.2 (by omega)), show q_3.2.2.1 a0 = q.2.2.1 a0 from h2_q_3.2 a0 ha0 (fun z9 => absurd z9.2 (by omega))]; exact em k hk, by omega, by omega⟩, z_30, z_31, by rw [← xm1]; exact hT9, by rw [← xm44]; exact hR9⟩, uu, su, o0, ob, z_50, z_51, hdz.eq hR_uu hR_su, hu9, ⟨z_39, z_40⟩, hout9⟩
set_option maxHeartbeats 4000000 in
set_option maxRecDepth 100000 in
theorem lc6_480 (l : Launch) (hlst : l.stackTraces = false) {Z : Zt} (dC : Nat → ClassId) (dI : Nat → Nat → Nat) (h : Sh) (L : List Nat) (hN : sx_nd L) (B : BX dC dI h L 7 cL_law RL wsL_law Z) {b N : Nat} {xs : Nat → Int32} (hX : va_X b N xs Z.2.2.1 Z.2.2.1.heap) (hbl : b < Z.2.2.1.heap.size) (hbA : ¬ AL L Z.2.2.1.heap.size b) {x0 a0 ot t0 tb fa : Nat} (hfd : lc_fd h fa) {mm : Nat → Nat} (hx0 : x0 ∈ L) (kx0 : h.1 x0 = 11) (ha0 : a0 ∈ L) (ka0 : h.1 a0 = 12) (hot : ot ∈ L) (kot : h.1 ot = 200) (lot : h.2.1 ot = 1) {i : Int32} (hi0 : 0 ≤ i.toInt) (hi1 : i.toInt + 6 ≤ (N : Int)) (hN2 : N ≤ 3072) (hroom : (zl_more Z).2.2.2.2.2.2.2.2.2.1 ≤ room_1.cells ∧ (zl_more Z).2.2.2.2.2.2.2.2.2.2 ≤ room_1.slots) {q : Sg} (hI : lc_I8 h L x0 a0 t0 tb fa mm q) (hcont : ∀ (Z2 : Zt) (q2 : Sg), (Z2 = Z ∨ Z2 = zl_more Z) → lc_I8 h L x0 a0 t0 tb fa mm q2 → WA l dC dI h L room_1 7 Z2 q2 775 [(4, .int i), (3, .ref ot), (2, .ref a0), (1, .ref x0), (0, .ref b)] []) : WA l dC dI h L room_1 7 Z q 480 [(4, .int i), (3, .ref ot), (2, .ref a0), (1, .ref x0), (0, .ref b)] [] := by
  obtain ⟨hI, uu, su, o0, ob, euu, esu, hdz, hu0, ⟨eo0, eob⟩, hout0⟩ := hI
  obtain ⟨hI, etb, efa, hT0, hR0⟩ := hI
  obtain ⟨hV, mN, mF0, mU0, mS0, mL0, et0, em, hte, hfe⟩ := hI
  obtain ⟨ht0, kt0, lt0⟩ : t0 ∈ L ∧ h.1 t0 = 7 ∧ h.2.1 t0 = 1 := by obtain ⟨r9, e9, z1, z2, z3⟩ := hV.refn (t := 7) (n := 1) hx0 kx0 0 rfl (by decide) rfl (by decide); rw [← et0, e9]; exact ⟨z1, z2, z3⟩
  obtain ⟨m1, xm1⟩ : ∃ z, z = mm 1 := ⟨_, rfl⟩
  have em1 : q.2.2.1 a0 1 = m1 := by rw [xm1]; exact em 1 (by decide)
  obtain ⟨hm1, km1, lm1⟩ : m1 ∈ L ∧ h.1 m1 = 111 ∧ h.2.1 m1 = 440 := by obtain ⟨r9, e9, z1, z2, z3⟩ := hV.refn (t := 111) (n := 440) ha0 ka0 1 rfl (by decide) rfl (by decide); rw [← em1, e9]; exact ⟨z1, z2, z3⟩
  obtain ⟨m3, xm3⟩ : ∃ z, z = mm 3 := ⟨_, rfl⟩
  have em3 : q.2.2.1 a0 3 = m3 := by rw [xm3]; exact em 3 (by decide)
  obtain ⟨hm3, km3, lm3⟩ : m3 ∈ L ∧ h.1 m3 = 113 ∧ h.2.1 m3 = 500 := by obtain ⟨r9, e9, z1, z2, z3⟩ := hV.refn (t := 113) (n := 500) ha0 ka0 3 rfl (by decide) rfl (by decide); rw [← em3, e9]; exact ⟨z1, z2, z3⟩
  obtain ⟨m16, xm16⟩ : ∃ z, z = mm 16 := ⟨_, rfl⟩
  have em16 : q.2.2.1 a0 16 = m16 := by rw [xm16]; exact em 16 (by decide)
  obtain ⟨hm16, km16, lm16⟩ : m16 ∈ L ∧ h.1 m16 = 226 ∧ h.2.1 m16 = 6 := by obtain ⟨r9, e9, z1, z2, z3⟩ := hV.refn (t := 226) (n := 6) ha0 ka0 16 rfl (by decide) rfl (by decide); rw [← em16, e9]; exact ⟨z1, z2, z3⟩
  obtain ⟨m17, xm17⟩ : ∃ z, z = mm 17 := ⟨_, rfl⟩
  have em17 : q.2.2.1 a0 17 = m17 := by rw [xm17]; exact em 17 (by decide)
  obtain ⟨hm17, km17, lm17⟩ : m17 ∈ L ∧ h.1 m17 = 227 ∧ h.2.1 m17 = 30 := by obtain ⟨r9, e9, z1, z2, z3⟩ := hV.refn (t := 227) (n := 30) ha0 ka0 17 rfl (by decide) rfl (by decide); rw [← em17, e9]; exact ⟨z1, z2, z3⟩
  obtain ⟨m18, xm18⟩ : ∃ z, z = mm 18 := ⟨_, rfl⟩
  have em18 : q.2.2.1 a0 18 = m18 := by rw [xm18]; exact em 18 (by decide)
  obtain ⟨hm18, km18, lm18⟩ : m18 ∈ L ∧ h.1 m18 = 128 ∧ h.2.1 m18 = 6 := by obtain ⟨r9, e9, z1, z2, z3⟩ := hV.refn (t := 128) (n := 6) ha0 ka0 18 rfl (by decide) rfl (by decide); rw [← em18, e9]; exact ⟨z1, z2, z3⟩
  obtain ⟨m19, xm19⟩ : ∃ z, z = mm 19 := ⟨_, rfl⟩
  have em19 : q.2.2.1 a0 19 = m19 := by rw [xm19]; exact em 19 (by decide)
  obtain ⟨hm19, km19, lm19⟩ : m19 ∈ L ∧ h.1 m19 = 129 ∧ h.2.1 m19 = 30 := by obtain ⟨r9, e9, z1, z2, z3⟩ := hV.refn (t := 129) (n := 30) ha0 ka0 19 rfl (by decide) rfl (by decide); rw [← em19, e9]; exact ⟨z1, z2, z3⟩
  obtain ⟨m21, xm21⟩ : ∃ z, z = mm 21 := ⟨_, rfl⟩
  have em21 : q.2.2.1 a0 21 = m21 := by rw [xm21]; exact em 21 (by decide)
  obtain ⟨hm21, km21, lm21⟩ : m21 ∈ L ∧ h.1 m21 = 131 ∧ h.2.1 m21 = 80 := by obtain ⟨r9, e9, z1, z2, z3⟩ := hV.refn (t := 131) (n := 80) ha0 ka0 21 rfl (by decide) rfl (by decide); rw [← em21, e9]; exact ⟨z1, z2, z3⟩
  obtain ⟨m23, xm23⟩ : ∃ z, z = mm 23 := ⟨_, rfl⟩
  have em23 : q.2.2.1 a0 23 = m23 := by rw [xm23]; exact em 23 (by decide)
  obtain ⟨hm23, km23, lm23⟩ : m23 ∈ L ∧ h.1 m23 = 133 ∧ h.2.1 m23 = 9 := by obtain ⟨r9, e9, z1, z2, z3⟩ := hV.refn (t := 133) (n := 9) ha0 ka0 23 rfl (by decide) rfl (by decide); rw [← em23, e9]; exact ⟨z1, z2, z3⟩
  obtain ⟨m24, xm24⟩ : ∃ z, z = mm 24 := ⟨_, rfl⟩
  have em24 : q.2.2.1 a0 24 = m24 := by rw [xm24]; exact em 24 (by decide)
  obtain ⟨hm24, km24, lm24⟩ : m24 ∈ L ∧ h.1 m24 = 134 ∧ h.2.1 m24 = 108 := by obtain ⟨r9, e9, z1, z2, z3⟩ := hV.refn (t := 134) (n := 108) ha0 ka0 24 rfl (by decide) rfl (by decide); rw [← em24, e9]; exact ⟨z1, z2, z3⟩
  obtain ⟨m25, xm25⟩ : ∃ z, z = mm 25 := ⟨_, rfl⟩
  have em25 : q.2.2.1 a0 25 = m25 := by rw [xm25]; exact em 25 (by decide)
  obtain ⟨hm25, km25, lm25⟩ : m25 ∈ L ∧ h.1 m25 = 135 ∧ h.2.1 m25 = 108 := by obtain ⟨r9, e9, z1, z2, z3⟩ := hV.refn (t := 135) (n := 108) ha0 ka0 25 rfl (by decide) rfl (by decide); rw [← em25, e9]; exact ⟨z1, z2, z3⟩
  obtain ⟨m26, xm26⟩ : ∃ z, z = mm 26 := ⟨_, rfl⟩
  have em26 : q.2.2.1 a0 26 = m26 := by rw [xm26]; exact em 26 (by decide)
  obtain ⟨hm26, km26, lm26⟩ : m26 ∈ L ∧ h.1 m26 = 136 ∧ h.2.1 m26 = 108 := by obtain ⟨r9, e9, z1, z2, z3⟩ := hV.refn (t := 136) (n := 108) ha0 ka0 26 rfl (by decide) rfl (by decide); rw [← em26, e9]; exact ⟨z1, z2, z3⟩
  obtain ⟨m27, xm27⟩ : ∃ z, z = mm 27 := ⟨_, rfl⟩
  have em27 : q.2.2.1 a0 27 = m27 := by rw [xm27]; exact em 27 (by decide)
  obtain ⟨hm27, km27, lm27⟩ : m27 ∈ L ∧ h.1 m27 = 137 ∧ h.2.1 m27 = 9 := by obtain ⟨r9, e9, z1, z2, z3⟩ := hV.refn (t := 137) (n := 9) ha0 ka0 27 rfl (by decide) rfl (by decide); rw [← em27, e9]; exact ⟨z1, z2, z3⟩
  obtain ⟨m28, xm28⟩ : ∃ z, z = mm 28 := ⟨_, rfl⟩
  have em28 : q.2.2.1 a0 28 = m28 := by rw [xm28]; exact em 28 (by decide)
  obtain ⟨hm28, km28, lm28⟩ : m28 ∈ L ∧ h.1 m28 = 138 ∧ h.2.1 m28 = 540 := by obtain ⟨r9, e9, z1, z2, z3⟩ := hV.refn (t := 138) (n := 540) ha0 ka0 28 rfl (by decide) rfl (by decide); rw [← em28, e9]; exact ⟨z1, z2, z3⟩
  obtain ⟨m29, xm29⟩ : ∃ z, z = mm 29 := ⟨_, rfl⟩
  have em29 : q.2.2.1 a0 29 = m29 := by rw [xm29]; exact em 29 (by decide)
  obtain ⟨hm29, km29, lm29⟩ : m29 ∈ L ∧ h.1 m29 = 139 ∧ h.2.1 m29 = 540 := by obtain ⟨r9, e9, z1, z2, z3⟩ := hV.refn (t := 139) (n := 540) ha0 ka0 29 rfl (by decide) rfl (by decide); rw [← em29, e9]; exact ⟨z1, z2, z3⟩
  obtain ⟨m30, xm30⟩ : ∃ z, z = mm 30 := ⟨_, rfl⟩
  have em30 : q.2.2.1 a0 30 = m30 := by rw [xm30]; exact em 30 (by decide)
  obtain ⟨hm30, km30, lm30⟩ : m30 ∈ L ∧ h.1 m30 = 140 ∧ h.2.1 m30 = 540 := by obtain ⟨r9, e9, z1, z2, z3⟩ := hV.refn (t := 140) (n := 540) ha0 ka0 30 rfl (by decide) rfl (by decide); rw [← em30, e9]; exact ⟨z1, z2, z3⟩
  obtain ⟨m34, xm34⟩ : ∃ z, z = mm 34 := ⟨_, rfl⟩
  have em34 : q.2.2.1 a0 34 = m34 := by rw [xm34]; exact em 34 (by decide)
  obtain ⟨hm34, km34, lm34⟩ : m34 ∈ L ∧ h.1 m34 = 144 ∧ h.2.1 m34 = 4 := by obtain ⟨r9, e9, z1, z2, z3⟩ := hV.refn (t := 144) (n := 4) ha0 ka0 34 rfl (by decide) rfl (by decide); rw [← em34, e9]; exact ⟨z1, z2, z3⟩
  obtain ⟨m35, xm35⟩ : ∃ z, z = mm 35 := ⟨_, rfl⟩
  have em35 : q.2.2.1 a0 35 = m35 := by rw [xm35]; exact em 35 (by decide)
  obtain ⟨hm35, km35, lm35⟩ : m35 ∈ L ∧ h.1 m35 = 245 ∧ h.2.1 m35 = 12 := by obtain ⟨r9, e9, z1, z2, z3⟩ := hV.refn (t := 245) (n := 12) ha0 ka0 35 rfl (by decide) rfl (by decide); rw [← em35, e9]; exact ⟨z1, z2, z3⟩
  obtain ⟨m40, xm40⟩ : ∃ z, z = mm 40 := ⟨_, rfl⟩
  have em40 : q.2.2.1 a0 40 = m40 := by rw [xm40]; exact em 40 (by decide)
  obtain ⟨hm40, km40, lm40⟩ : m40 ∈ L ∧ h.1 m40 = 150 ∧ h.2.1 m40 = 2400 := by obtain ⟨r9, e9, z1, z2, z3⟩ := hV.refn (t := 150) (n := 2400) ha0 ka0 40 rfl (by decide) rfl (by decide); rw [← em40, e9]; exact ⟨z1, z2, z3⟩
  obtain ⟨m41, xm41⟩ : ∃ z, z = mm 41 := ⟨_, rfl⟩
  have em41 : q.2.2.1 a0 41 = m41 := by rw [xm41]; exact em 41 (by decide)
  obtain ⟨hm41, km41, lm41⟩ : m41 ∈ L ∧ h.1 m41 = 151 ∧ h.2.1 m41 = 12 := by obtain ⟨r9, e9, z1, z2, z3⟩ := hV.refn (t := 151) (n := 12) ha0 ka0 41 rfl (by decide) rfl (by decide); rw [← em41, e9]; exact ⟨z1, z2, z3⟩
  obtain ⟨m42, xm42⟩ : ∃ z, z = mm 42 := ⟨_, rfl⟩
  have em42 : q.2.2.1 a0 42 = m42 := by rw [xm42]; exact em 42 (by decide)
  obtain ⟨hm42, km42, lm42⟩ : m42 ∈ L ∧ h.1 m42 = 152 ∧ h.2.1 m42 = 12 := by obtain ⟨r9, e9, z1, z2, z3⟩ := hV.refn (t := 152) (n := 12) ha0 ka0 42 rfl (by decide) rfl (by decide); rw [← em42, e9]; exact ⟨z1, z2, z3⟩
  obtain ⟨m43, xm43⟩ : ∃ z, z = mm 43 := ⟨_, rfl⟩
  have em43 : q.2.2.1 a0 43 = m43 := by rw [xm43]; exact em 43 (by decide)
  obtain ⟨hm43, km43, lm43⟩ : m43 ∈ L ∧ h.1 m43 = 153 ∧ h.2.1 m43 = 12 := by obtain ⟨r9, e9, z1, z2, z3⟩ := hV.refn (t := 153) (n := 12) ha0 ka0 43 rfl (by decide) rfl (by decide); rw [← em43, e9]; exact ⟨z1, z2, z3⟩
  obtain ⟨m44, xm44⟩ : ∃ z, z = mm 44 := ⟨_, rfl⟩
  have em44 : q.2.2.1 a0 44 = m44 := by rw [xm44]; exact em 44 (by decide)
  obtain ⟨hm44, km44, lm44⟩ : m44 ∈ L ∧ h.1 m44 = 154 ∧ h.2.1 m44 = 12 := by obtain ⟨r9, e9, z1, z2, z3⟩ := hV.refn (t := 154) (n := 12) ha0 ka0 44 rfl (by decide) rfl (by decide); rw [← em44, e9]; exact ⟨z1, z2, z3⟩
  obtain ⟨m46, xm46⟩ : ∃ z, z = mm 46 := ⟨_, rfl⟩
  have em46 : q.2.2.1 a0 46 = m46 := by rw [xm46]; exact em 46 (by decide)
  obtain ⟨hm46, km46, lm46⟩ : m46 ∈ L ∧ h.1 m46 = 156 ∧ h.2.1 m46 = 144 := by obtain ⟨r9, e9, z1, z2, z3⟩ := hV.refn (t := 156) (n := 144) ha0 ka0 46 rfl (by decide) rfl (by decide); rw [← em46, e9]; exact ⟨z1, z2, z3⟩
  obtain ⟨m47, xm47⟩ : ∃ z, z = mm 47 := ⟨_, rfl⟩
  have em47 : q.2.2.1 a0 47 = m47 := by rw [xm47]; exact em 47 (by decide)
  obtain ⟨hm47, km47, lm47⟩ : m47 ∈ L ∧ h.1 m47 = 157 ∧ h.2.1 m47 = 4096 := by obtain ⟨r9, e9, z1, z2, z3⟩ := hV.refn (t := 157) (n := 4096) ha0 ka0 47 rfl (by decide) rfl (by decide); rw [← em47, e9]; exact ⟨z1, z2, z3⟩
  obtain ⟨m48, xm48⟩ : ∃ z, z = mm 48 := ⟨_, rfl⟩
  have em48 : q.2.2.1 a0 48 = m48 := by rw [xm48]; exact em 48 (by decide)
  obtain ⟨hm48, km48, lm48⟩ : m48 ∈ L ∧ h.1 m48 = 158 ∧ h.2.1 m48 = 12 := by obtain ⟨r9, e9, z1, z2, z3⟩ := hV.refn (t := 158) (n := 12) ha0 ka0 48 rfl (by decide) rfl (by decide); rw [← em48, e9]; exact ⟨z1, z2, z3⟩
  have mF : mv_F m18 m19 q := by rw [xm18, xm19]; exact mF0
  have mU : mv_U m17 q := by rw [xm17]; exact mU0
  have mS : mv_S m23 m26 m28 m29 q := by rw [xm23, xm26, xm28, xm29]; exact mS0
  have mL : mv_L m40 m41 m44 a0 q := by rw [xm40, xm41, xm44]; exact mL0
  have hF : sx_fr h L (fun _ => True) q q := sx_fr.rf
  obtain ⟨htb, ktb, ltb⟩ : tb ∈ L ∧ h.1 tb = 300 ∧ h.2.1 tb = 440 := by obtain ⟨r9, e9, z1, z2, z3⟩ := hV.refn (t := 300) (n := 440) ht0 kt0 0 rfl (by decide) (by rw [lt0]; rfl) (by decide); rw [← etb, e9]; exact ⟨z1, z2, z3⟩
  obtain ⟨hfa, kfa, lfa⟩ : fa ∈ L ∧ h.1 fa = 403 ∧ h.2.1 fa = 12 := by obtain ⟨r9, e9, z1, z2, z3⟩ := hV.refn (t := 403) (n := 12) hx0 kx0 9 rfl (by decide) rfl (by decide); rw [← efa, e9]; exact ⟨z1, z2, z3⟩
  have hT : ty_T (q.2.2.2.1 tb) (q.2.2.2.1 m1) (q.1 t0 1).toInt.toNat := by rw [xm1]; exact hT0
  have hR : lc_R h fa m44 x0 q := by rw [xm44]; exact hR0
  have gx14 : (0 : Int) ≤ (q.1 x0 14).toInt ∧ (q.1 x0 14).toInt ≤ 12 := hV.int hx0 kx0 14
  have gt1 : (0 : Int) ≤ (q.1 t0 1).toInt ∧ (q.1 t0 1).toInt ≤ 440 := by have z9 := hV.int ht0 kt0 1; rw [etb, ltb] at z9; exact z9
  obtain ⟨huu, kuu⟩ : uu ∈ L ∧ h.1 uu = 9 := by obtain ⟨r9, e9, z1, z2⟩ := hV.ref (t := 9) hx0 kx0 11 rfl (by decide); rw [← euu, e9]; exact ⟨z1, z2⟩
  obtain ⟨hsu, ksu⟩ : su ∈ L ∧ h.1 su = 9 := by obtain ⟨r9, e9, z1, z2⟩ := hV.ref (t := 9) hx0 kx0 12 rfl (by decide); rw [← esu, e9]; exact ⟨z1, z2⟩
  have nuu_su : ¬ uu = su := hdz.1
  obtain ⟨uc, euc⟩ : ∃ z, q.2.2.1 uu 1 = z := ⟨_, rfl⟩
  obtain ⟨huc, kuc, luc⟩ : uc ∈ L ∧ h.1 uc = 101 ∧ h.2.1 uc = 3 := by obtain ⟨r9, e9, z1, z2, z3⟩ := hV.refn (t := 101) (n := 3) huu kuu 1 rfl (by decide) rfl (by decide); rw [← euc, e9]; exact ⟨z1, z2, z3⟩
  obtain ⟨un, eun⟩ : ∃ z, q.2.2.1 uu 2 = z := ⟨_, rfl⟩
  obtain ⟨hun, kun, lun⟩ : un ∈ L ∧ h.1 un = 202 ∧ h.2.1 un = 15 := by obtain ⟨r9, e9, z1, z2, z3⟩ := hV.refn (t := 202) (n := 15) huu kuu 2 rfl (by decide) rfl (by decide); rw [← eun, e9]; exact ⟨z1, z2, z3⟩
  obtain ⟨uf, euf⟩ : ∃ z, q.2.2.1 uu 3 = z := ⟨_, rfl⟩
  obtain ⟨huf, kuf, luf⟩ : uf ∈ L ∧ h.1 uf = 102 ∧ h.2.1 uf = 15 := by obtain ⟨r9, e9, z1, z2, z3⟩ := hV.refn (t := 102) (n := 15) huu kuu 3 rfl (by decide) rfl (by decide); rw [← euf, e9]; exact ⟨z1, z2, z3⟩
  obtain ⟨uw, euw⟩ : ∃ z, q.2.2.1 uu 4 = z := ⟨_, rfl⟩
  obtain ⟨huw, kuw, luw⟩ : uw ∈ L ∧ h.1 uw = 103 ∧ h.2.1 uw = 15 := by obtain ⟨r9, e9, z1, z2, z3⟩ := hV.refn (t := 103) (n := 15) huu kuu 4 rfl (by decide) rfl (by decide); rw [← euw, e9]; exact ⟨z1, z2, z3⟩
  have hu : lc_u8 (q.1 uu 6) (q.1 a0 20) (q.2.2.2.1 uc) (q.2.2.2.1 m18) (q.2.2.2.1 uf) (q.2.2.2.1 m19) (q.2.2.2.1 uw) (q.2.2.2.2 un) (q.2.2.2.2 m17) := by rw [← euc, ← euf, ← euw, ← eun, xm17, xm18, xm19]; exact hu0
  obtain ⟨ho0, ko0, lo0⟩ : o0 ∈ L ∧ h.1 o0 = 7 ∧ h.2.1 o0 = 2 := by obtain ⟨r9, e9, z1, z2, z3⟩ := hV.refn (t := 7) (n := 2) hx0 kx0 1 rfl (by decide) rfl (by decide); rw [← eo0, e9]; exact ⟨z1, z2, z3⟩
  obtain ⟨hob, kob, lob⟩ : ob ∈ L ∧ h.1 ob = 300 ∧ h.2.1 ob = 59 := by obtain ⟨r9, e9, z1, z2, z3⟩ := hV.refn (t := 300) (n := 59) ho0 ko0 0 rfl (by decide) (by rw [lo0]; rfl) (by decide); rw [← eob, e9]; exact ⟨z1, z2, z3⟩
  have nt0_o0 : ¬ t0 = o0 := fun z9 => absurd (z9 ▸ lt0 : h.2.1 o0 = 1) (by rw [lo0]; decide)
  have ntb_ob : ¬ tb = ob := fun z9 => absurd (z9 ▸ ltb : h.2.1 ob = 440) (by rw [lob]; decide)
  have hout : lc_o (q.1 o0 1) (q.1 a0 22) (q.2.2.2.1 ob) (q.2.2.2.1 m21) := by rw [xm21]; exact hout0
  refine wa_aload_n B dL_law_480 rfl 3 rfl ?_
  refine wa_aload_n B dL_law_481 rfl 4 rfl ?_
  refine wa_iload B dL_law_482 0 rfl ?_
  refine wa_iconst B 1 dL_law_484 (by decide) ?_
  refine wa_iadd B dL_law_485 (fun v_1 ev_1 => ?_)
  subst ev_1
  have t_2 : (i + 1).toInt = i.toInt + 1 := by have b0 := zx_bd i; exact zx_add (show (-2147483648 : Int) ≤ i.toInt + 1 by omega) (show i.toInt + 1 < (2147483648 : Int) by omega)
  refine wa_sld B hX hbl hbA (i := (i + 1)) (show 0 ≤ (i + 1).toInt by omega) (show (i + 1).toInt < (N : Int) by omega) dL_law_486 ?_
  refine wa_aload_n B dL_law_487 rfl 4 rfl ?_
  refine wa_iload B dL_law_488 0 rfl ?_
  refine wa_iconst B 2 dL_law_490 (by decide) ?_
  refine wa_iadd B dL_law_491 (fun v_3 ev_3 => ?_)
  subst ev_3
  have t_4 : (i + 2).toInt = i.toInt + 2 := by have b0 := zx_bd i; exact zx_add (show (-2147483648 : Int) ≤ i.toInt + 2 by omega) (show i.toInt + 2 < (2147483648 : Int) by omega)
  refine wa_sld B hX hbl hbA (i := (i + 2)) (show 0 ≤ (i + 2).toInt by omega) (show (i + 2).toInt < (N : Int) by omega) dL_law_492 ?_
  refine wa_aload_n B dL_law_493 rfl 4 rfl ?_
  refine wa_iload B dL_law_494 0 rfl ?_
  refine wa_iconst B 3 dL_law_496 (by decide) ?_
  refine wa_iadd B dL_law_497 (fun v_5 ev_5 => ?_)
  subst ev_5
  have t_6 : (i + 3).toInt = i.toInt + 3 := by have b0 := zx_bd i; exact zx_add (show (-2147483648 : Int) ≤ i.toInt + 3 by omega) (show i.toInt + 3 < (2147483648 : Int) by omega)
  refine wa_sld B hX hbl hbA (i := (i + 3)) (show 0 ≤ (i + 3).toInt by omega) (show (i + 3).toInt < (N : Int) by omega) dL_law_498 ?_
  refine wa_if_eq B 506 dL_law_499 (by decide) (fun (t_7 : ((xs ((i + 3) : Int32).toNatClampNeg)).toInt = 0) => ?_) (fun (t_7 : ¬ ((xs ((i + 3) : Int32).toNatClampNeg)).toInt = 0) => ?_)
  · refine wa_iconst B 0 dL_law_506 (by decide) ?_
    refine wa_aload_n B dL_law_507 rfl 1 rfl ?_
    refine wa_callW B (As := [.ref x0, .int ((xs ((i + 1) : Int32).toNatClampNeg)), .int ((xs ((i + 2) : Int32).toNatClampNeg)), .int 0, .ref ot]) (rest := []) (kl6_bound l hlst dC dI h L hN q hV (a0 := x0) hx0 kx0 (t0 := t0) et0 (tb := tb) etb (fa := fa) efa (uu := uu) euu (o0 := o0) eo0 (ob := ob) eob ((xs ((i + 1) : Int32).toNatClampNeg)) ((xs ((i + 2) : Int32).toNatClampNeg)) 0 (ot := ot) hot kot lot) (vx_cwSW 5 B.1.2.2.2.2 gL_law_L_bound rfl rfl rfl (by decide +kernel) ⟨Nat.le_of_ble_eq_true rfl, Nat.le_of_ble_eq_true rfl⟩) rfl rfl (Nat.le_of_ble_eq_true rfl) dL_law_508 hroom (fun r_9 q_8 w_10 => ?_)
    obtain ⟨hV_q_8, h2_q_8, h5_q_8, h6_q_8, h7_q_8, h8_q_8, h9_q_8, hA_q_8, hO_q_8⟩ := w_10
    have B := zl_moreB B
    have mN_q_8 : mv_N a0 q_8 := mv_N.eq (h2_q_8.I ha0 (show ¬ (sx_c6 h a0) from (sx_c6.n ka0 (by decide))) 8) (h2_q_8.J ha0 (show ¬ (sx_c6 h a0) from (sx_c6.n ka0 (by decide))) 11) mN
    have mF_q_8 : mv_F m18 m19 q_8 := mv_F.eq (h2_q_8.G hm18 (show ¬ (sx_c6 h m18) from (sx_c6.n km18 (by decide))) (by rw [km18]; decide)) (h2_q_8.G hm19 (show ¬ (sx_c6 h m19) from (sx_c6.n km19 (by decide))) (by rw [km19]; decide)) mF
    have mU_q_8 : mv_U m17 q_8 := mv_U.eq (h2_q_8.Lg hm17 (show ¬ (sx_c6 h m17) from (sx_c6.n km17 (by decide))) (by rw [km17]; decide)) mU
    have mS_q_8 : mv_S m23 m26 m28 m29 q_8 := mv_S.eq (h2_q_8.G hm23 (show ¬ (sx_c6 h m23) from (sx_c6.n km23 (by decide))) (by rw [km23]; decide)) (h2_q_8.G hm26 (show ¬ (sx_c6 h m26) from (sx_c6.n km26 (by decide))) (by rw [km26]; decide)) (h2_q_8.G hm28 (show ¬ (sx_c6 h m28) from (sx_c6.n km28 (by decide))) (by rw [km28]; decide)) (h2_q_8.G hm29 (show ¬ (sx_c6 h m29) from (sx_c6.n km29 (by decide))) (by rw [km29]; decide)) mS
    have mL_q_8 : mv_L m40 m41 m44 a0 q_8 := mv_L.eq (h2_q_8.G hm40 (show ¬ (sx_c6 h m40) from (sx_c6.n km40 (by decide))) (by rw [km40]; decide)) (h2_q_8.G hm41 (show ¬ (sx_c6 h m41) from (sx_c6.n km41 (by decide))) (by rw [km41]; decide)) (h2_q_8.G hm44 (show ¬ (sx_c6 h m44) from (sx_c6.n km44 (by decide))) (by rw [km44]; decide)) (h2_q_8.I ha0 (show ¬ (sx_c6 h a0) from (sx_c6.n ka0 (by decide))) 45) mL
    have hB_q_8 := h9_q_8.trans esu
    refine wa_istore B [(5, .int r_9), (4, .int i), (3, .ref ot), (2, .ref a0), (1, .ref x0), (0, .ref b)] dL_law_511 (by decide) rfl ?_
    refine wa_aload_n B dL_law_513 rfl 3 rfl ?_
    refine wa_aload_n B dL_law_514 rfl 5 rfl ?_
    refine wa_iload B dL_law_515 1 rfl ?_
    refine wa_iconst B 1 dL_law_517 (by decide) ?_
    refine wa_iadd B dL_law_518 (fun v_11 ev_11 => ?_)
    subst ev_11
    refine wa_sld B hX hbl hbA (i := (i + 1)) (show 0 ≤ (i + 1).toInt by omega) (show (i + 1).toInt < (N : Int) by omega) dL_law_519 ?_
    refine wa_aload_n B dL_law_520 rfl 5 rfl ?_
    refine wa_iload B dL_law_521 1 rfl ?_
    refine wa_iconst B 2 dL_law_523 (by decide) ?_
    refine wa_iadd B dL_law_524 (fun v_12 ev_12 => ?_)
    subst ev_12
    refine wa_sld B hX hbl hbA (i := (i + 2)) (show 0 ≤ (i + 2).toInt by omega) (show (i + 2).toInt < (N : Int) by omega) dL_law_525 ?_
    refine wa_aload_n B dL_law_526 rfl 5 rfl ?_
    refine wa_iload B dL_law_527 1 rfl ?_
    refine wa_iconst B 3 dL_law_529 (by decide) ?_
    refine wa_iadd B dL_law_530 (fun v_13 ev_13 => ?_)
    subst ev_13
    refine wa_sld B hX hbl hbA (i := (i + 3)) (show 0 ≤ (i + 3).toInt by omega) (show (i + 3).toInt < (N : Int) by omega) dL_law_531 ?_
    refine wa_if_eq B 539 dL_law_532 (by decide) (fun (t_14 : ((xs ((i + 3) : Int32).toNatClampNeg)).toInt = 0) => ?_) (fun (t_14 : ¬ ((xs ((i + 3) : Int32).toNatClampNeg)).toInt = 0) => ?_)
    · refine wa_iconst B 0 dL_law_539 (by decide) ?_
      have z_15 : q_8.2.2.1 a0 18 = m18 := (h2_q_8.R ha0 (fun z9 => absurd z9.2 (by omega)) 18).trans (em18)
      have z_16 : q_8.2.2.1 a0 19 = m19 := (h2_q_8.R ha0 (fun z9 => absurd z9.2 (by omega)) 19).trans (em19)
      have z_17 : q_8.2.2.1 a0 23 = m23 := (h2_q_8.R ha0 (fun z9 => absurd z9.2 (by omega)) 23).trans (em23)
      have z_18 : q_8.2.2.1 a0 25 = m25 := (h2_q_8.R ha0 (fun z9 => absurd z9.2 (by omega)) 25).trans (em25)
      have z_19 : q_8.2.2.1 a0 26 = m26 := (h2_q_8.R ha0 (fun z9 => absurd z9.2 (by omega)) 26).trans (em26)
      have z_20 : q_8.2.2.1 a0 27 = m27 := (h2_q_8.R ha0 (fun z9 => absurd z9.2 (by omega)) 27).trans (em27)
      have z_21 : q_8.2.2.1 a0 28 = m28 := (h2_q_8.R ha0 (fun z9 => absurd z9.2 (by omega)) 28).trans (em28)
      have z_22 : q_8.2.2.1 a0 29 = m29 := (h2_q_8.R ha0 (fun z9 => absurd z9.2 (by omega)) 29).trans (em29)
      have z_23 : q_8.2.2.1 a0 30 = m30 := (h2_q_8.R ha0 (fun z9 => absurd z9.2 (by omega)) 30).trans (em30)
      have z_24 : q_8.2.2.1 a0 34 = m34 := (h2_q_8.R ha0 (fun z9 => absurd z9.2 (by omega)) 34).trans (em34)
      have z_25 : q_8.2.2.1 a0 35 = m35 := (h2_q_8.R ha0 (fun z9 => absurd z9.2 (by omega)) 35).trans (em35)
      refine wa_callVi B (x := (RX12, TX12, 51)) (As := [.int ((xs ((i + 1) : Int32).toNatClampNeg)), .int ((xs ((i + 2) : Int32).toNatClampNeg)), .int 0]) (rest := []) (k_X12_bound l dC dI h L hN q_8 hV_q_8 (a0 := a0) ha0 ka0 ((xs ((i + 1) : Int32).toNatClampNeg)) ((xs ((i + 2) : Int32).toNatClampNeg)) 0 (m18 := m18) z_15 (m19 := m19) z_16 (m23 := m23) z_17 (m25 := m25) z_18 (m26 := m26) z_19 (m27 := m27) z_20 (m28 := m28) z_21 (m29 := m29) z_22 (m30 := m30) z_23 (m34 := m34) z_24 (m35 := m35) z_25 mS_q_8 ) (cwV 3 B.1.2.2.2.2 gL_law_X12_bound rfl rfl rfl (by decide +kernel) ⟨Nat.le_of_ble_eq_true rfl, Nat.le_of_ble_eq_true rfl⟩) ha0 ka0 (by decide) rfl rfl rfl (Nat.le_of_ble_eq_true rfl) dL_law_540 (fun r_27 q_26 w_28 => ?_)
      obtain ⟨hV_q_26, h2_q_26, h3_q_26, mS_q_26⟩ := w_28
      have mN_q_26 : mv_N a0 q_26 := mv_N.eq (h3_q_26.1 8 (by decide)) (h3_q_26.2 11 (by decide)) mN_q_8
      have mF_q_26 : mv_F m18 m19 q_26 := mv_F.eq (h2_q_26.G hm18 (show ¬ (h.1 m18 = 12 ∨ h.1 m18 = 144 ∨ h.1 m18 = 245) from (fun z => z.elim (fun z => absurd (z.symm.trans km18) (by decide)) (fun z => z.elim (fun z => absurd (z.symm.trans km18) (by decide)) (fun z => absurd (z.symm.trans km18) (by decide))))) (by rw [km18]; decide)) (h2_q_26.G hm19 (show ¬ (h.1 m19 = 12 ∨ h.1 m19 = 144 ∨ h.1 m19 = 245) from (fun z => z.elim (fun z => absurd (z.symm.trans km19) (by decide)) (fun z => z.elim (fun z => absurd (z.symm.trans km19) (by decide)) (fun z => absurd (z.symm.trans km19) (by decide))))) (by rw [km19]; decide)) mF_q_8
      have mU_q_26 : mv_U m17 q_26 := mv_U.eq (h2_q_26.Lg hm17 (show ¬ (h.1 m17 = 12 ∨ h.1 m17 = 144 ∨ h.1 m17 = 245) from (fun z => z.elim (fun z => absurd (z.symm.trans km17) (by decide)) (fun z => z.elim (fun z => absurd (z.symm.trans km17) (by decide)) (fun z => absurd (z.symm.trans km17) (by decide))))) (by rw [km17]; decide)) mU_q_8
      have mL_q_26 : mv_L m40 m41 m44 a0 q_26 := mv_L.eq (h2_q_26.G hm40 (show ¬ (h.1 m40 = 12 ∨ h.1 m40 = 144 ∨ h.1 m40 = 245) from (fun z => z.elim (fun z => absurd (z.symm.trans km40) (by decide)) (fun z => z.elim (fun z => absurd (z.symm.trans km40) (by decide)) (fun z => absurd (z.symm.trans km40) (by decide))))) (by rw [km40]; decide)) (h2_q_26.G hm41 (show ¬ (h.1 m41 = 12 ∨ h.1 m41 = 144 ∨ h.1 m41 = 245) from (fun z => z.elim (fun z => absurd (z.symm.trans km41) (by decide)) (fun z => z.elim (fun z => absurd (z.symm.trans km41) (by decide)) (fun z => absurd (z.symm.trans km41) (by decide))))) (by rw [km41]; decide)) (h2_q_26.G hm44 (show ¬ (h.1 m44 = 12 ∨ h.1 m44 = 144 ∨ h.1 m44 = 245) from (fun z => z.elim (fun z => absurd (z.symm.trans km44) (by decide)) (fun z => z.elim (fun z => absurd (z.symm.trans km44) (by decide)) (fun z => absurd (z.symm.trans km44) (by decide))))) (by rw [km44]; decide)) (h3_q_26.1 45 (by decide)) mL_q_8
      refine wa_istore B [(6, .int r_27), (5, .int r_9), (4, .int i), (3, .ref ot), (2, .ref a0), (1, .ref x0), (0, .ref b)] dL_law_543 (by decide) rfl ?_
      refine wa_goto B 775 dL_law_545 (by decide) ?_
      have z_29 : q_26.1 a0 2 = q.1 a0 2 := (h3_q_26.1 2 (by decide)).trans (h2_q_8.I ha0 (show ¬ (sx_c6 h a0) from (sx_c6.n ka0 (by decide))) 2)
      have y_30 : (q_26.1 a0 2).toInt = (q.1 a0 2).toInt := by rw [z_29]
      have z_31 : q_26.1 a0 45 = q.1 a0 45 := (h3_q_26.1 45 (by decide)).trans (h2_q_8.I ha0 (show ¬ (sx_c6 h a0) from (sx_c6.n ka0 (by decide))) 45)
      have y_32 : (q_26.1 a0 45).toInt = (q.1 a0 45).toInt := by rw [z_31]
      have z_33 : q_26.1 t0 1 = q_8.1 t0 1 := h2_q_26.I ht0 (show ¬ (h.1 t0 = 12 ∨ h.1 t0 = 144 ∨ h.1 t0 = 245) from (fun z => z.elim (fun z => absurd (z.symm.trans kt0) (by decide)) (fun z => z.elim (fun z => absurd (z.symm.trans kt0) (by decide)) (fun z => absurd (z.symm.trans kt0) (by decide))))) 1
      have y_34 : (q_26.1 t0 1).toInt = (q_8.1 t0 1).toInt := by rw [z_33]
      have z_35 : q_26.1 x0 14 = q_8.1 x0 14 := h2_q_26.I hx0 (show ¬ (h.1 x0 = 12 ∨ h.1 x0 = 144 ∨ h.1 x0 = 245) from (fun z => z.elim (fun z => absurd (z.symm.trans kx0) (by decide)) (fun z => z.elim (fun z => absurd (z.symm.trans kx0) (by decide)) (fun z => absurd (z.symm.trans kx0) (by decide))))) 14
      have y_36 : (q_26.1 x0 14).toInt = (q_8.1 x0 14).toInt := by rw [z_35]
      have z_37 : q_26.2.2.1 x0 0 = t0 := (h2_q_26.R hx0 (show ¬ ((h.1 x0 = 12 ∨ h.1 x0 = 144 ∨ h.1 x0 = 245) ∧ (h.1 x0 = 8 ∨ h.1 x0 = 11)) from fun z9 => (show ¬ (h.1 x0 = 12 ∨ h.1 x0 = 144 ∨ h.1 x0 = 245) from (fun z => z.elim (fun z => absurd (z.symm.trans kx0) (by decide)) (fun z => z.elim (fun z => absurd (z.symm.trans kx0) (by decide)) (fun z => absurd (z.symm.trans kx0) (by decide))))) z9.1) 0).trans (h5_q_8)
      have z_38 : q_26.2.2.1 t0 0 = tb := (h2_q_26.R ht0 (fun z9 => absurd z9.2 (by omega)) 0).trans ((h2_q_8.R ht0 (fun z9 => absurd z9.2 (by omega)) 0).trans (etb))
      have z_39 : q_26.2.2.1 x0 9 = fa := (h2_q_26.R hx0 (show ¬ ((h.1 x0 = 12 ∨ h.1 x0 = 144 ∨ h.1 x0 = 245) ∧ (h.1 x0 = 8 ∨ h.1 x0 = 11)) from fun z9 => (show ¬ (h.1 x0 = 12 ∨ h.1 x0 = 144 ∨ h.1 x0 = 245) from (fun z => z.elim (fun z => absurd (z.symm.trans kx0) (by decide)) (fun z => z.elim (fun z => absurd (z.symm.trans kx0) (by decide)) (fun z => absurd (z.symm.trans kx0) (by decide))))) z9.1) 9).trans (hA_q_8)
      have z_40 : q_26.2.2.2.1 tb = q.2.2.2.1 tb := (h2_q_26.G htb (show ¬ (h.1 tb = 12 ∨ h.1 tb = 144 ∨ h.1 tb = 245) from (fun z => z.elim (fun z => absurd (z.symm.trans ktb) (by decide)) (fun z => z.elim (fun z => absurd (z.symm.trans ktb) (by decide)) (fun z => absurd (z.symm.trans ktb) (by decide))))) (by rw [ktb]; decide)).trans (h2_q_8.G htb (show ¬ (sx_c6 h tb) from (sx_c6.t ktb ltb)) (by rw [ktb]; decide))
      have z_41 : q_26.2.2.2.1 m1 = q.2.2.2.1 m1 := (h2_q_26.G hm1 (show ¬ (h.1 m1 = 12 ∨ h.1 m1 = 144 ∨ h.1 m1 = 245) from (fun z => z.elim (fun z => absurd (z.symm.trans km1) (by decide)) (fun z => z.elim (fun z => absurd (z.symm.trans km1) (by decide)) (fun z => absurd (z.symm.trans km1) (by decide))))) (by rw [km1]; decide)).trans (h2_q_8.G hm1 (show ¬ (sx_c6 h m1) from (sx_c6.n km1 (by decide))) (by rw [km1]; decide))
      have hT9 : ty_T (q_26.2.2.2.1 tb) (q_26.2.2.2.1 m1) (q_26.1 t0 1).toInt.toNat := by rw [z_40, z_41]; exact hT.le (by omega)
      have z_42 : q_26.2.2.2.1 m44 = q.2.2.2.1 m44 := (h2_q_26.G hm44 (show ¬ (h.1 m44 = 12 ∨ h.1 m44 = 144 ∨ h.1 m44 = 245) from (fun z => z.elim (fun z => absurd (z.symm.trans km44) (by decide)) (fun z => z.elim (fun z => absurd (z.symm.trans km44) (by decide)) (fun z => absurd (z.symm.trans km44) (by decide))))) (by rw [km44]; decide)).trans (h2_q_8.G hm44 (show ¬ (sx_c6 h m44) from (sx_c6.n km44 (by decide))) (by rw [km44]; decide))
      have hR9 : lc_R h fa m44 x0 q_26 := by
        intro f hf
        obtain ⟨e9, ee9, he9, ke9⟩ := hV.elem (t := 0) hfa kfa (by decide) rfl (j := f) (by omega)
        rw [ee9, show q_26.1 e9 3 = q_8.1 e9 3 from h2_q_26.I he9 (show ¬ (h.1 e9 = 12 ∨ h.1 e9 = 144 ∨ h.1 e9 = 245) from by omega) 3, show q_8.1 e9 3 = q.1 e9 3 from h2_q_8.I he9 (show ¬ (sx_c6 h e9) from by (try unfold sx_mk at *); (try unfold sx_ck at *); (try unfold sx_c6 at *); omega) 3, ← ee9, z_42]
        exact hR f (by omega)
      refine WA.sub [2, 3, 4, 5, 6] rfl ?_
      have hR_uu : q_26.2.2.1 uu = q.2.2.1 uu := by rw [show q_26.2.2.1 uu = q_8.2.2.1 uu from h2_q_26.2 uu huu (fun z9 => absurd z9.2 (by rw [kuu]; decide)), show q_8.2.2.1 uu = q.2.2.1 uu from h2_q_8.2 uu huu (fun z9 => absurd z9.2 (by rw [kuu]; decide))]
      have hR_su : q_26.2.2.1 su = q.2.2.1 su := by rw [show q_26.2.2.1 su = q_8.2.2.1 su from h2_q_26.2 su hsu (fun z9 => absurd z9.2 (by rw [ksu]; decide)), show q_8.2.2.1 su = q.2.2.1 su from h2_q_8.2 su hsu (fun z9 => absurd z9.2 (by rw [ksu]; decide))]
      have z_43 : q_26.1 o0 1 = q.1 o0 1 := (h2_q_26.I ho0 (show ¬ (h.1 o0 = 12 ∨ h.1 o0 = 144 ∨ h.1 o0 = 245) from (fun z => z.elim (fun z => absurd (z.symm.trans ko0) (by decide)) (fun z => z.elim (fun z => absurd (z.symm.trans ko0) (by decide)) (fun z => absurd (z.symm.trans ko0) (by decide))))) 1).trans (h2_q_8.I ho0 (show ¬ (sx_c6 h o0) from (sx_c6.o ko0 lo0)) 1)
      have z_44 : q_26.1 a0 22 = q.1 a0 22 := (h3_q_26.1 22 (by decide)).trans (h2_q_8.I ha0 (show ¬ (sx_c6 h a0) from (sx_c6.n ka0 (by decide))) 22)
      have z_45 : q_26.2.2.2.1 ob = q.2.2.2.1 ob := (h2_q_26.G hob (show ¬ (h.1 ob = 12 ∨ h.1 ob = 144 ∨ h.1 ob = 245) from (fun z => z.elim (fun z => absurd (z.symm.trans kob) (by decide)) (fun z => z.elim (fun z => absurd (z.symm.trans kob) (by decide)) (fun z => absurd (z.symm.trans kob) (by decide))))) (by rw [kob]; decide)).trans (h2_q_8.G hob (show ¬ (sx_c6 h ob) from (sx_c6.u kob lob)) (by rw [kob]; decide))
      have z_46 : q_26.2.2.2.1 m21 = q.2.2.2.1 m21 := (h2_q_26.G hm21 (show ¬ (h.1 m21 = 12 ∨ h.1 m21 = 144 ∨ h.1 m21 = 245) from (fun z => z.elim (fun z => absurd (z.symm.trans km21) (by decide)) (fun z => z.elim (fun z => absurd (z.symm.trans km21) (by decide)) (fun z => absurd (z.symm.trans km21) (by decide))))) (by rw [km21]; decide)).trans (h2_q_8.G hm21 (show ¬ (sx_c6 h m21) from (sx_c6.n km21 (by decide))) (by rw [km21]; decide))
      have hout9 : lc_o (q_26.1 o0 1) (q_26.1 a0 22) (q_26.2.2.2.1 ob) (q_26.2.2.2.1 (mm 21)) := by rw [← xm21, z_43, z_44, z_45, z_46]; exact hout
      have z_47 : q_26.2.2.1 x0 1 = o0 := (h2_q_26.R hx0 (show ¬ ((h.1 x0 = 12 ∨ h.1 x0 = 144 ∨ h.1 x0 = 245) ∧ (h.1 x0 = 8 ∨ h.1 x0 = 11)) from fun z9 => (show ¬ (h.1 x0 = 12 ∨ h.1 x0 = 144 ∨ h.1 x0 = 245) from (fun z => z.elim (fun z => absurd (z.symm.trans kx0) (by decide)) (fun z => z.elim (fun z => absurd (z.symm.trans kx0) (by decide)) (fun z => absurd (z.symm.trans kx0) (by decide))))) z9.1) 1).trans (hO_q_8)
      have z_48 : q_26.2.2.1 o0 0 = ob := (h2_q_26.R ho0 (fun z9 => absurd z9.2 (by omega)) 0).trans ((h2_q_8.R ho0 (fun z9 => absurd z9.2 (by omega)) 0).trans (eob))
      have z_49 : q_26.1 uu 6 = q.1 uu 6 := (h2_q_26.I huu (show ¬ (h.1 uu = 12 ∨ h.1 uu = 144 ∨ h.1 uu = 245) from (fun z => z.elim (fun z => absurd (z.symm.trans kuu) (by decide)) (fun z => z.elim (fun z => absurd (z.symm.trans kuu) (by decide)) (fun z => absurd (z.symm.trans kuu) (by decide))))) 6).trans (h2_q_8.I huu (show ¬ (sx_c6 h uu) from (sx_c6.n kuu (by decide))) 6)
      have z_50 : q_26.1 a0 20 = q.1 a0 20 := (h3_q_26.1 20 (by decide)).trans (h2_q_8.I ha0 (show ¬ (sx_c6 h a0) from (sx_c6.n ka0 (by decide))) 20)
      have z_51 : q_26.2.2.2.1 uc = q.2.2.2.1 uc := (h2_q_26.G huc (show ¬ (h.1 uc = 12 ∨ h.1 uc = 144 ∨ h.1 uc = 245) from (fun z => z.elim (fun z => absurd (z.symm.trans kuc) (by decide)) (fun z => z.elim (fun z => absurd (z.symm.trans kuc) (by decide)) (fun z => absurd (z.symm.trans kuc) (by decide))))) (by rw [kuc]; decide)).trans (h2_q_8.G huc (show ¬ (sx_c6 h uc) from (sx_c6.n kuc (by decide))) (by rw [kuc]; decide))
      have z_52 : q_26.2.2.2.1 m18 = q.2.2.2.1 m18 := (h2_q_26.G hm18 (show ¬ (h.1 m18 = 12 ∨ h.1 m18 = 144 ∨ h.1 m18 = 245) from (fun z => z.elim (fun z => absurd (z.symm.trans km18) (by decide)) (fun z => z.elim (fun z => absurd (z.symm.trans km18) (by decide)) (fun z => absurd (z.symm.trans km18) (by decide))))) (by rw [km18]; decide)).trans (h2_q_8.G hm18 (show ¬ (sx_c6 h m18) from (sx_c6.n km18 (by decide))) (by rw [km18]; decide))
      have z_53 : q_26.2.2.2.1 uf = q.2.2.2.1 uf := (h2_q_26.G huf (show ¬ (h.1 uf = 12 ∨ h.1 uf = 144 ∨ h.1 uf = 245) from (fun z => z.elim (fun z => absurd (z.symm.trans kuf) (by decide)) (fun z => z.elim (fun z => absurd (z.symm.trans kuf) (by decide)) (fun z => absurd (z.symm.trans kuf) (by decide))))) (by rw [kuf]; decide)).trans (h2_q_8.G huf (show ¬ (sx_c6 h uf) from (sx_c6.n kuf (by decide))) (by rw [kuf]; decide))
      have z_54 : q_26.2.2.2.1 m19 = q.2.2.2.1 m19 := (h2_q_26.G hm19 (show ¬ (h.1 m19 = 12 ∨ h.1 m19 = 144 ∨ h.1 m19 = 245) from (fun z => z.elim (fun z => absurd (z.symm.trans km19) (by decide)) (fun z => z.elim (fun z => absurd (z.symm.trans km19) (by decide)) (fun z => absurd (z.symm.trans km19) (by decide))))) (by rw [km19]; decide)).trans (h2_q_8.G hm19 (show ¬ (sx_c6 h m19) from (sx_c6.n km19 (by decide))) (by rw [km19]; decide))
      have z_55 : q_26.2.2.2.1 uw = q.2.2.2.1 uw := (h2_q_26.G huw (show ¬ (h.1 uw = 12 ∨ h.1 uw = 144 ∨ h.1 uw = 245) from (fun z => z.elim (fun z => absurd (z.symm.trans kuw) (by decide)) (fun z => z.elim (fun z => absurd (z.symm.trans kuw) (by decide)) (fun z => absurd (z.symm.trans kuw) (by decide))))) (by rw [kuw]; decide)).trans (h2_q_8.G huw (show ¬ (sx_c6 h uw) from (sx_c6.n kuw (by decide))) (by rw [kuw]; decide))
      have z_56 : q_26.2.2.2.2 un = q.2.2.2.2 un := (h2_q_26.Lg hun (show ¬ (h.1 un = 12 ∨ h.1 un = 144 ∨ h.1 un = 245) from (fun z => z.elim (fun z => absurd (z.symm.trans kun) (by decide)) (fun z => z.elim (fun z => absurd (z.symm.trans kun) (by decide)) (fun z => absurd (z.symm.trans kun) (by decide))))) (by rw [kun]; decide)).trans (h2_q_8.Lg hun (show ¬ (sx_c6 h un) from (sx_c6.n kun (by decide))) (by rw [kun]; decide))
      have z_57 : q_26.2.2.2.2 m17 = q.2.2.2.2 m17 := (h2_q_26.Lg hm17 (show ¬ (h.1 m17 = 12 ∨ h.1 m17 = 144 ∨ h.1 m17 = 245) from (fun z => z.elim (fun z => absurd (z.symm.trans km17) (by decide)) (fun z => z.elim (fun z => absurd (z.symm.trans km17) (by decide)) (fun z => absurd (z.symm.trans km17) (by decide))))) (by rw [km17]; decide)).trans (h2_q_8.Lg hm17 (show ¬ (sx_c6 h m17) from (sx_c6.n km17 (by decide))) (by rw [km17]; decide))
      have hu9 : lc_uq8 q_26 a0 uu (mm 17) (mm 18) (mm 19) := by unfold lc_uq8; rw [← xm17, ← xm18, ← xm19, hR_uu, euc, euf, euw, eun, z_49, z_50, z_51, z_52, z_53, z_54, z_55, z_56, z_57]; exact hu
      have z_58 : q_26.2.2.1 x0 11 = uu := (h2_q_26.R hx0 (show ¬ ((h.1 x0 = 12 ∨ h.1 x0 = 144 ∨ h.1 x0 = 245) ∧ (h.1 x0 = 8 ∨ h.1 x0 = 11)) from fun z9 => (show ¬ (h.1 x0 = 12 ∨ h.1 x0 = 144 ∨ h.1 x0 = 245) from (fun z => z.elim (fun z => absurd (z.symm.trans kx0) (by decide)) (fun z => z.elim (fun z => absurd (z.symm.trans kx0) (by decide)) (fun z => absurd (z.symm.trans kx0) (by decide))))) z9.1) 11).trans (h8_q_8)
      have z_59 : q_26.2.2.1 x0 12 = su := (h2_q_26.R hx0 (show ¬ ((h.1 x0 = 12 ∨ h.1 x0 = 144 ∨ h.1 x0 = 245) ∧ (h.1 x0 = 8 ∨ h.1 x0 = 11)) from fun z9 => (show ¬ (h.1 x0 = 12 ∨ h.1 x0 = 144 ∨ h.1 x0 = 245) from (fun z => z.elim (fun z => absurd (z.symm.trans kx0) (by decide)) (fun z => z.elim (fun z => absurd (z.symm.trans kx0) (by decide)) (fun z => absurd (z.symm.trans kx0) (by decide))))) z9.1) 12).trans (hB_q_8)
      exact hcont _ _ (Or.inr rfl) ⟨⟨⟨hV_q_26, mN_q_26, by rw [← xm18, ← xm19]; exact mF_q_26, by rw [← xm17]; exact mU_q_26, by rw [← xm23, ← xm26, ← xm28, ← xm29]; exact mS_q_26, by rw [← xm40, ← xm41, ← xm44]; exact mL_q_26, z_37, fun k hk => by rw [show q_26.2.2.1 a0 = q_8.2.2.1 a0 from h2_q_26.2 a0 ha0 (fun z9 => absurd z9.2 (by omega)), show q_8.2.2.1 a0 = q.2.2.1 a0 from h2_q_8.2 a0 ha0 (fun z9 => absurd z9.2 (by omega))]; exact em k hk, by omega, by omega⟩, z_38, z_39, by rw [← xm1]; exact hT9, by rw [← xm44]; exact hR9⟩, uu, su, o0, ob, z_58, z_59, hdz.eq hR_uu hR_su, hu9, ⟨z_47, z_48⟩, hout9⟩
    · refine wa_iconst B 1 dL_law_535 (by decide) ?_
      refine wa_goto B 540 dL_law_536 (by decide) ?_
      have z_60 : q_8.2.2.1 a0 18 = m18 := (h2_q_8.R ha0 (fun z9 => absurd z9.2 (by omega)) 18).trans (em18)
      have z_61 : q_8.2.2.1 a0 19 = m19 := (h2_q_8.R ha0 (fun z9 => absurd z9.2 (by omega)) 19).trans (em19)
      have z_62 : q_8.2.2.1 a0 23 = m23 := (h2_q_8.R ha0 (fun z9 => absurd z9.2 (by omega)) 23).trans (em23)
      have z_63 : q_8.2.2.1 a0 25 = m25 := (h2_q_8.R ha0 (fun z9 => absurd z9.2 (by omega)) 25).trans (em25)
      have z_64 : q_8.2.2.1 a0 26 = m26 := (h2_q_8.R ha0 (fun z9 => absurd z9.2 (by omega)) 26).trans (em26)
      have z_65 : q_8.2.2.1 a0 27 = m27 := (h2_q_8.R ha0 (fun z9 => absurd z9.2 (by omega)) 27).trans (em27)
      have z_66 : q_8.2.2.1 a0 28 = m28 := (h2_q_8.R ha0 (fun z9 => absurd z9.2 (by omega)) 28).trans (em28)
      have z_67 : q_8.2.2.1 a0 29 = m29 := (h2_q_8.R ha0 (fun z9 => absurd z9.2 (by omega)) 29).trans (em29)
      have z_68 : q_8.2.2.1 a0 30 = m30 := (h2_q_8.R ha0 (fun z9 => absurd z9.2 (by omega)) 30).trans (em30)
      have z_69 : q_8.2.2.1 a0 34 = m34 := (h2_q_8.R ha0 (fun z9 => absurd z9.2 (by omega)) 34).trans (em34)
      have z_70 : q_8.2.2.1 a0 35 = m35 := (h2_q_8.R ha0 (fun z9 => absurd z9.2 (by omega)) 35).trans (em35)
      refine wa_callVi B (x := (RX12, TX12, 51)) (As := [.int ((xs ((i + 1) : Int32).toNatClampNeg)), .int ((xs ((i + 2) : Int32).toNatClampNeg)), .int 1]) (rest := []) (k_X12_bound l dC dI h L hN q_8 hV_q_8 (a0 := a0) ha0 ka0 ((xs ((i + 1) : Int32).toNatClampNeg)) ((xs ((i + 2) : Int32).toNatClampNeg)) 1 (m18 := m18) z_60 (m19 := m19) z_61 (m23 := m23) z_62 (m25 := m25) z_63 (m26 := m26) z_64 (m27 := m27) z_65 (m28 := m28) z_66 (m29 := m29) z_67 (m30 := m30) z_68 (m34 := m34) z_69 (m35 := m35) z_70 mS_q_8 ) (cwV 3 B.1.2.2.2.2 gL_law_X12_bound rfl rfl rfl (by decide +kernel) ⟨Nat.le_of_ble_eq_true rfl, Nat.le_of_ble_eq_true rfl⟩) ha0 ka0 (by decide) rfl rfl rfl (Nat.le_of_ble_eq_true rfl) dL_law_540 (fun r_72 q_71 w_73 => ?_)
      obtain ⟨hV_q_71, h2_q_71, h3_q_71, mS_q_71⟩ := w_73
      have mN_q_71 : mv_N a0 q_71 := mv_N.eq (h3_q_71.1 8 (by decide)) (h3_q_71.2 11 (by decide)) mN_q_8
      have mF_q_71 : mv_F m18 m19 q_71 := mv_F.eq (h2_q_71.G hm18 (show ¬ (h.1 m18 = 12 ∨ h.1 m18 = 144 ∨ h.1 m18 = 245) from (fun z => z.elim (fun z => absurd (z.symm.trans km18) (by decide)) (fun z => z.elim (fun z => absurd (z.symm.trans km18) (by decide)) (fun z => absurd (z.symm.trans km18) (by decide))))) (by rw [km18]; decide)) (h2_q_71.G hm19 (show ¬ (h.1 m19 = 12 ∨ h.1 m19 = 144 ∨ h.1 m19 = 245) from (fun z => z.elim (fun z => absurd (z.symm.trans km19) (by decide)) (fun z => z.elim (fun z => absurd (z.symm.trans km19) (by decide)) (fun z => absurd (z.symm.trans km19) (by decide))))) (by rw [km19]; decide)) mF_q_8
      have mU_q_71 : mv_U m17 q_71 := mv_U.eq (h2_q_71.Lg hm17 (show ¬ (h.1 m17 = 12 ∨ h.1 m17 = 144 ∨ h.1 m17 = 245) from (fun z => z.elim (fun z => absurd (z.symm.trans km17) (by decide)) (fun z => z.elim (fun z => absurd (z.symm.trans km17) (by decide)) (fun z => absurd (z.symm.trans km17) (by decide))))) (by rw [km17]; decide)) mU_q_8
      have mL_q_71 : mv_L m40 m41 m44 a0 q_71 := mv_L.eq (h2_q_71.G hm40 (show ¬ (h.1 m40 = 12 ∨ h.1 m40 = 144 ∨ h.1 m40 = 245) from (fun z => z.elim (fun z => absurd (z.symm.trans km40) (by decide)) (fun z => z.elim (fun z => absurd (z.symm.trans km40) (by decide)) (fun z => absurd (z.symm.trans km40) (by decide))))) (by rw [km40]; decide)) (h2_q_71.G hm41 (show ¬ (h.1 m41 = 12 ∨ h.1 m41 = 144 ∨ h.1 m41 = 245) from (fun z => z.elim (fun z => absurd (z.symm.trans km41) (by decide)) (fun z => z.elim (fun z => absurd (z.symm.trans km41) (by decide)) (fun z => absurd (z.symm.trans km41) (by decide))))) (by rw [km41]; decide)) (h2_q_71.G hm44 (show ¬ (h.1 m44 = 12 ∨ h.1 m44 = 144 ∨ h.1 m44 = 245) from (fun z => z.elim (fun z => absurd (z.symm.trans km44) (by decide)) (fun z => z.elim (fun z => absurd (z.symm.trans km44) (by decide)) (fun z => absurd (z.symm.trans km44) (by decide))))) (by rw [km44]; decide)) (h3_q_71.1 45 (by decide)) mL_q_8
      refine wa_istore B [(6, .int r_72), (5, .int r_9), (4, .int i), (3, .ref ot), (2, .ref a0), (1, .ref x0), (0, .ref b)] dL_law_543 (by decide) rfl ?_
      refine wa_goto B 775 dL_law_545 (by decide) ?_
      have z_74 : q_71.1 a0 2 = q.1 a0 2 := (h3_q_71.1 2 (by decide)).trans (h2_q_8.I ha0 (show ¬ (sx_c6 h a0) from (sx_c6.n ka0 (by decide))) 2)
      have y_75 : (q_71.1 a0 2).toInt = (q.1 a0 2).toInt := by rw [z_74]
      have z_76 : q_71.1 a0 45 = q.1 a0 45 := (h3_q_71.1 45 (by decide)).trans (h2_q_8.I ha0 (show ¬ (sx_c6 h a0) from (sx_c6.n ka0 (by decide))) 45)
      have y_77 : (q_71.1 a0 45).toInt = (q.1 a0 45).toInt := by rw [z_76]
      have z_78 : q_71.1 t0 1 = q_8.1 t0 1 := h2_q_71.I ht0 (show ¬ (h.1 t0 = 12 ∨ h.1 t0 = 144 ∨ h.1 t0 = 245) from (fun z => z.elim (fun z => absurd (z.symm.trans kt0) (by decide)) (fun z => z.elim (fun z => absurd (z.symm.trans kt0) (by decide)) (fun z => absurd (z.symm.trans kt0) (by decide))))) 1
      have y_79 : (q_71.1 t0 1).toInt = (q_8.1 t0 1).toInt := by rw [z_78]
      have z_80 : q_71.1 x0 14 = q_8.1 x0 14 := h2_q_71.I hx0 (show ¬ (h.1 x0 = 12 ∨ h.1 x0 = 144 ∨ h.1 x0 = 245) from (fun z => z.elim (fun z => absurd (z.symm.trans kx0) (by decide)) (fun z => z.elim (fun z => absurd (z.symm.trans kx0) (by decide)) (fun z => absurd (z.symm.trans kx0) (by decide))))) 14
      have y_81 : (q_71.1 x0 14).toInt = (q_8.1 x0 14).toInt := by rw [z_80]
      have z_82 : q_71.2.2.1 x0 0 = t0 := (h2_q_71.R hx0 (show ¬ ((h.1 x0 = 12 ∨ h.1 x0 = 144 ∨ h.1 x0 = 245) ∧ (h.1 x0 = 8 ∨ h.1 x0 = 11)) from fun z9 => (show ¬ (h.1 x0 = 12 ∨ h.1 x0 = 144 ∨ h.1 x0 = 245) from (fun z => z.elim (fun z => absurd (z.symm.trans kx0) (by decide)) (fun z => z.elim (fun z => absurd (z.symm.trans kx0) (by decide)) (fun z => absurd (z.symm.trans kx0) (by decide))))) z9.1) 0).trans (h5_q_8)
      have z_83 : q_71.2.2.1 t0 0 = tb := (h2_q_71.R ht0 (fun z9 => absurd z9.2 (by omega)) 0).trans ((h2_q_8.R ht0 (fun z9 => absurd z9.2 (by omega)) 0).trans (etb))
      have z_84 : q_71.2.2.1 x0 9 = fa := (h2_q_71.R hx0 (show ¬ ((h.1 x0 = 12 ∨ h.1 x0 = 144 ∨ h.1 x0 = 245) ∧ (h.1 x0 = 8 ∨ h.1 x0 = 11)) from fun z9 => (show ¬ (h.1 x0 = 12 ∨ h.1 x0 = 144 ∨ h.1 x0 = 245) from (fun z => z.elim (fun z => absurd (z.symm.trans kx0) (by decide)) (fun z => z.elim (fun z => absurd (z.symm.trans kx0) (by decide)) (fun z => absurd (z.symm.trans kx0) (by decide))))) z9.1) 9).trans (hA_q_8)
      have z_85 : q_71.2.2.2.1 tb = q.2.2.2.1 tb := (h2_q_71.G htb (show ¬ (h.1 tb = 12 ∨ h.1 tb = 144 ∨ h.1 tb = 245) from (fun z => z.elim (fun z => absurd (z.symm.trans ktb) (by decide)) (fun z => z.elim (fun z => absurd (z.symm.trans ktb) (by decide)) (fun z => absurd (z.symm.trans ktb) (by decide))))) (by rw [ktb]; decide)).trans (h2_q_8.G htb (show ¬ (sx_c6 h tb) from (sx_c6.t ktb ltb)) (by rw [ktb]; decide))
      have z_86 : q_71.2.2.2.1 m1 = q.2.2.2.1 m1 := (h2_q_71.G hm1 (show ¬ (h.1 m1 = 12 ∨ h.1 m1 = 144 ∨ h.1 m1 = 245) from (fun z => z.elim (fun z => absurd (z.symm.trans km1) (by decide)) (fun z => z.elim (fun z => absurd (z.symm.trans km1) (by decide)) (fun z => absurd (z.symm.trans km1) (by decide))))) (by rw [km1]; decide)).trans (h2_q_8.G hm1 (show ¬ (sx_c6 h m1) from (sx_c6.n km1 (by decide))) (by rw [km1]; decide))
      have hT9 : ty_T (q_71.2.2.2.1 tb) (q_71.2.2.2.1 m1) (q_71.1 t0 1).toInt.toNat := by rw [z_85, z_86]; exact hT.le (by omega)
      have z_87 : q_71.2.2.2.1 m44 = q.2.2.2.1 m44 := (h2_q_71.G hm44 (show ¬ (h.1 m44 = 12 ∨ h.1 m44 = 144 ∨ h.1 m44 = 245) from (fun z => z.elim (fun z => absurd (z.symm.trans km44) (by decide)) (fun z => z.elim (fun z => absurd (z.symm.trans km44) (by decide)) (fun z => absurd (z.symm.trans km44) (by decide))))) (by rw [km44]; decide)).trans (h2_q_8.G hm44 (show ¬ (sx_c6 h m44) from (sx_c6.n km44 (by decide))) (by rw [km44]; decide))
      have hR9 : lc_R h fa m44 x0 q_71 := by
        intro f hf
        obtain ⟨e9, ee9, he9, ke9⟩ := hV.elem (t := 0) hfa kfa (by decide) rfl (j := f) (by omega)
        rw [ee9, show q_71.1 e9 3 = q_8.1 e9 3 from h2_q_71.I he9 (show ¬ (h.1 e9 = 12 ∨ h.1 e9 = 144 ∨ h.1 e9 = 245) from by omega) 3, show q_8.1 e9 3 = q.1 e9 3 from h2_q_8.I he9 (show ¬ (sx_c6 h e9) from by (try unfold sx_mk at *); (try unfold sx_ck at *); (try unfold sx_c6 at *); omega) 3, ← ee9, z_87]
        exact hR f (by omega)
      refine WA.sub [2, 3, 4, 5, 6] rfl ?_
      have hR_uu : q_71.2.2.1 uu = q.2.2.1 uu := by rw [show q_71.2.2.1 uu = q_8.2.2.1 uu from h2_q_71.2 uu huu (fun z9 => absurd z9.2 (by rw [kuu]; decide)), show q_8.2.2.1 uu = q.2.2.1 uu from h2_q_8.2 uu huu (fun z9 => absurd z9.2 (by rw [kuu]; decide))]
      have hR_su : q_71.2.2.1 su = q.2.2.1 su := by rw [show q_71.2.2.1 su = q_8.2.2.1 su from h2_q_71.2 su hsu (fun z9 => absurd z9.2 (by rw [ksu]; decide)), show q_8.2.2.1 su = q.2.2.1 su from h2_q_8.2 su hsu (fun z9 => absurd z9.2 (by rw [ksu]; decide))]
      have z_88 : q_71.1 o0 1 = q.1 o0 1 := (h2_q_71.I ho0 (show ¬ (h.1 o0 = 12 ∨ h.1 o0 = 144 ∨ h.1 o0 = 245) from (fun z => z.elim (fun z => absurd (z.symm.trans ko0) (by decide)) (fun z => z.elim (fun z => absurd (z.symm.trans ko0) (by decide)) (fun z => absurd (z.symm.trans ko0) (by decide))))) 1).trans (h2_q_8.I ho0 (show ¬ (sx_c6 h o0) from (sx_c6.o ko0 lo0)) 1)
      have z_89 : q_71.1 a0 22 = q.1 a0 22 := (h3_q_71.1 22 (by decide)).trans (h2_q_8.I ha0 (show ¬ (sx_c6 h a0) from (sx_c6.n ka0 (by decide))) 22)
      have z_90 : q_71.2.2.2.1 ob = q.2.2.2.1 ob := (h2_q_71.G hob (show ¬ (h.1 ob = 12 ∨ h.1 ob = 144 ∨ h.1 ob = 245) from (fun z => z.elim (fun z => absurd (z.symm.trans kob) (by decide)) (fun z => z.elim (fun z => absurd (z.symm.trans kob) (by decide)) (fun z => absurd (z.symm.trans kob) (by decide))))) (by rw [kob]; decide)).trans (h2_q_8.G hob (show ¬ (sx_c6 h ob) from (sx_c6.u kob lob)) (by rw [kob]; decide))
      have z_91 : q_71.2.2.2.1 m21 = q.2.2.2.1 m21 := (h2_q_71.G hm21 (show ¬ (h.1 m21 = 12 ∨ h.1 m21 = 144 ∨ h.1 m21 = 245) from (fun z => z.elim (fun z => absurd (z.symm.trans km21) (by decide)) (fun z => z.elim (fun z => absurd (z.symm.trans km21) (by decide)) (fun z => absurd (z.symm.trans km21) (by decide))))) (by rw [km21]; decide)).trans (h2_q_8.G hm21 (show ¬ (sx_c6 h m21) from (sx_c6.n km21 (by decide))) (by rw [km21]; decide))
      have hout9 : lc_o (q_71.1 o0 1) (q_71.1 a0 22) (q_71.2.2.2.1 ob) (q_71.2.2.2.1 (mm 21)) := by rw [← xm21, z_88, z_89, z_90, z_91]; exact hout
      have z_92 : q_71.2.2.1 x0 1 = o0 := (h2_q_71.R hx0 (show ¬ ((h.1 x0 = 12 ∨ h.1 x0 = 144 ∨ h.1 x0 = 245) ∧ (h.1 x0 = 8 ∨ h.1 x0 = 11)) from fun z9 => (show ¬ (h.1 x0 = 12 ∨ h.1 x0 = 144 ∨ h.1 x0 = 245) from (fun z => z.elim (fun z => absurd (z.symm.trans kx0) (by decide)) (fun z => z.elim (fun z => absurd (z.symm.trans kx0) (by decide)) (fun z => absurd (z.symm.trans kx0) (by decide))))) z9.1) 1).trans (hO_q_8)
      have z_93 : q_71.2.2.1 o0 0 = ob := (h2_q_71.R ho0 (fun z9 => absurd z9.2 (by omega)) 0).trans ((h2_q_8.R ho0 (fun z9 => absurd z9.2 (by omega)) 0).trans (eob))
      have z_94 : q_71.1 uu 6 = q.1 uu 6 := (h2_q_71.I huu (show ¬ (h.1 uu = 12 ∨ h.1 uu = 144 ∨ h.1 uu = 245) from (fun z => z.elim (fun z => absurd (z.symm.trans kuu) (by decide)) (fun z => z.elim (fun z => absurd (z.symm.trans kuu) (by decide)) (fun z => absurd (z.symm.trans kuu) (by decide))))) 6).trans (h2_q_8.I huu (show ¬ (sx_c6 h uu) from (sx_c6.n kuu (by decide))) 6)
      have z_95 : q_71.1 a0 20 = q.1 a0 20 := (h3_q_71.1 20 (by decide)).trans (h2_q_8.I ha0 (show ¬ (sx_c6 h a0) from (sx_c6.n ka0 (by decide))) 20)
      have z_96 : q_71.2.2.2.1 uc = q.2.2.2.1 uc := (h2_q_71.G huc (show ¬ (h.1 uc = 12 ∨ h.1 uc = 144 ∨ h.1 uc = 245) from (fun z => z.elim (fun z => absurd (z.symm.trans kuc) (by decide)) (fun z => z.elim (fun z => absurd (z.symm.trans kuc) (by decide)) (fun z => absurd (z.symm.trans kuc) (by decide))))) (by rw [kuc]; decide)).trans (h2_q_8.G huc (show ¬ (sx_c6 h uc) from (sx_c6.n kuc (by decide))) (by rw [kuc]; decide))
      have z_97 : q_71.2.2.2.1 m18 = q.2.2.2.1 m18 := (h2_q_71.G hm18 (show ¬ (h.1 m18 = 12 ∨ h.1 m18 = 144 ∨ h.1 m18 = 245) from (fun z => z.elim (fun z => absurd (z.symm.trans km18) (by decide)) (fun z => z.elim (fun z => absurd (z.symm.trans km18) (by decide)) (fun z => absurd (z.symm.trans km18) (by decide))))) (by rw [km18]; decide)).trans (h2_q_8.G hm18 (show ¬ (sx_c6 h m18) from (sx_c6.n km18 (by decide))) (by rw [km18]; decide))
      have z_98 : q_71.2.2.2.1 uf = q.2.2.2.1 uf := (h2_q_71.G huf (show ¬ (h.1 uf = 12 ∨ h.1 uf = 144 ∨ h.1 uf = 245) from (fun z => z.elim (fun z => absurd (z.symm.trans kuf) (by decide)) (fun z => z.elim (fun z => absurd (z.symm.trans kuf) (by decide)) (fun z => absurd (z.symm.trans kuf) (by decide))))) (by rw [kuf]; decide)).trans (h2_q_8.G huf (show ¬ (sx_c6 h uf) from (sx_c6.n kuf (by decide))) (by rw [kuf]; decide))
      have z_99 : q_71.2.2.2.1 m19 = q.2.2.2.1 m19 := (h2_q_71.G hm19 (show ¬ (h.1 m19 = 12 ∨ h.1 m19 = 144 ∨ h.1 m19 = 245) from (fun z => z.elim (fun z => absurd (z.symm.trans km19) (by decide)) (fun z => z.elim (fun z => absurd (z.symm.trans km19) (by decide)) (fun z => absurd (z.symm.trans km19) (by decide))))) (by rw [km19]; decide)).trans (h2_q_8.G hm19 (show ¬ (sx_c6 h m19) from (sx_c6.n km19 (by decide))) (by rw [km19]; decide))
      have z_100 : q_71.2.2.2.1 uw = q.2.2.2.1 uw := (h2_q_71.G huw (show ¬ (h.1 uw = 12 ∨ h.1 uw = 144 ∨ h.1 uw = 245) from (fun z => z.elim (fun z => absurd (z.symm.trans kuw) (by decide)) (fun z => z.elim (fun z => absurd (z.symm.trans kuw) (by decide)) (fun z => absurd (z.symm.trans kuw) (by decide))))) (by rw [kuw]; decide)).trans (h2_q_8.G huw (show ¬ (sx_c6 h uw) from (sx_c6.n kuw (by decide))) (by rw [kuw]; decide))
      have z_101 : q_71.2.2.2.2 un = q.2.2.2.2 un := (h2_q_71.Lg hun (show ¬ (h.1 un = 12 ∨ h.1 un = 144 ∨ h.1 un = 245) from (fun z => z.elim (fun z => absurd (z.symm.trans kun) (by decide)) (fun z => z.elim (fun z => absurd (z.symm.trans kun) (by decide)) (fun z => absurd (z.symm.trans kun) (by decide))))) (by rw [kun]; decide)).trans (h2_q_8.Lg hun (show ¬ (sx_c6 h un) from (sx_c6.n kun (by decide))) (by rw [kun]; decide))
      have z_102 : q_71.2.2.2.2 m17 = q.2.2.2.2 m17 := (h2_q_71.Lg hm17 (show ¬ (h.1 m17 = 12 ∨ h.1 m17 = 144 ∨ h.1 m17 = 245) from (fun z => z.elim (fun z => absurd (z.symm.trans km17) (by decide)) (fun z => z.elim (fun z => absurd (z.symm.trans km17) (by decide)) (fun z => absurd (z.symm.trans km17) (by decide))))) (by rw [km17]; decide)).trans (h2_q_8.Lg hm17 (show ¬ (sx_c6 h m17) from (sx_c6.n km17 (by decide))) (by rw [km17]; decide))
      have hu9 : lc_uq8 q_71 a0 uu (mm 17) (mm 18) (mm 19) := by unfold lc_uq8; rw [← xm17, ← xm18, ← xm19, hR_uu, euc, euf, euw, eun, z_94, z_95, z_96, z_97, z_98, z_99, z_100, z_101, z_102]; exact hu
      have z_103 : q_71.2.2.1 x0 11 = uu := (h2_q_71.R hx0 (show ¬ ((h.1 x0 = 12 ∨ h.1 x0 = 144 ∨ h.1 x0 = 245) ∧ (h.1 x0 = 8 ∨ h.1 x0 = 11)) from fun z9 => (show ¬ (h.1 x0 = 12 ∨ h.1 x0 = 144 ∨ h.1 x0 = 245) from (fun z => z.elim (fun z => absurd (z.symm.trans kx0) (by decide)) (fun z => z.elim (fun z => absurd (z.symm.trans kx0) (by decide)) (fun z => absurd (z.symm.trans kx0) (by decide))))) z9.1) 11).trans (h8_q_8)
      have z_104 : q_71.2.2.1 x0 12 = su := (h2_q_71.R hx0 (show ¬ ((h.1 x0 = 12 ∨ h.1 x0 = 144 ∨ h.1 x0 = 245) ∧ (h.1 x0 = 8 ∨ h.1 x0 = 11)) from fun z9 => (show ¬ (h.1 x0 = 12 ∨ h.1 x0 = 144 ∨ h.1 x0 = 245) from (fun z => z.elim (fun z => absurd (z.symm.trans kx0) (by decide)) (fun z => z.elim (fun z => absurd (z.symm.trans kx0) (by decide)) (fun z => absurd (z.symm.trans kx0) (by decide))))) z9.1) 12).trans (hB_q_8)
      exact hcont _ _ (Or.inr rfl) ⟨⟨⟨hV_q_71, mN_q_71, by rw [← xm18, ← xm19]; exact mF_q_71, by rw [← xm17]; exact mU_q_71, by rw [← xm23, ← xm26, ← xm28, ← xm29]; exact mS_q_71, by rw [← xm40, ← xm41, ← xm44]; exact mL_q_71, z_82, fun k hk => by rw [show q_71.2.2.1 a0 = q_8.2.2.1 a0 from h2_q_71.2 a0 ha0 (fun z9 => absurd z9.2 (by omega)), show q_8.2.2.1 a0 = q.2.2.1 a0 from h2_q_8.2 a0 ha0 (fun z9 => absurd z9.2 (by omega))]; exact em k hk, by omega, by omega⟩, z_83, z_84, by rw [← xm1]; exact hT9, by rw [← xm44]; exact hR9⟩, uu, su, o0, ob, z_103, z_104, hdz.eq hR_uu hR_su, hu9, ⟨z_92, z_93⟩, hout9⟩
  · refine wa_iconst B 1 dL_law_502 (by decide) ?_
    refine wa_goto B 507 dL_law_503 (by decide) ?_
    refine wa_aload_n B dL_law_507 rfl 1 rfl ?_
    refine wa_callW B (As := [.ref x0, .int ((xs ((i + 1) : Int32).toNatClampNeg)), .int ((xs ((i + 2) : Int32).toNatClampNeg)), .int 1, .ref ot]) (rest := []) (kl6_bound l hlst dC dI h L hN q hV (a0 := x0) hx0 kx0 (t0 := t0) et0 (tb := tb) etb (fa := fa) efa (uu := uu) euu (o0 := o0) eo0 (ob := ob) eob ((xs ((i + 1) : Int32).toNatClampNeg)) ((xs ((i + 2) : Int32).toNatClampNeg)) 1 (ot := ot) hot kot lot) (vx_cwSW 5 B.1.2.2.2.2 gL_law_L_bound rfl rfl rfl (by decide +kernel) ⟨Nat.le_of_ble_eq_true rfl, Nat.le_of_ble_eq_true rfl⟩) rfl rfl (Nat.le_of_ble_eq_true rfl) dL_law_508 hroom (fun r_106 q_105 w_107 => ?_)
    obtain ⟨hV_q_105, h2_q_105, h5_q_105, h6_q_105, h7_q_105, h8_q_105, h9_q_105, hA_q_105, hO_q_105⟩ := w_107
    have B := zl_moreB B
    have mN_q_105 : mv_N a0 q_105 := mv_N.eq (h2_q_105.I ha0 (show ¬ (sx_c6 h a0) from (sx_c6.n ka0 (by decide))) 8) (h2_q_105.J ha0 (show ¬ (sx_c6 h a0) from (sx_c6.n ka0 (by decide))) 11) mN
    have mF_q_105 : mv_F m18 m19 q_105 := mv_F.eq (h2_q_105.G hm18 (show ¬ (sx_c6 h m18) from (sx_c6.n km18 (by decide))) (by rw [km18]; decide)) (h2_q_105.G hm19 (show ¬ (sx_c6 h m19) from (sx_c6.n km19 (by decide))) (by rw [km19]; decide)) mF
    have mU_q_105 : mv_U m17 q_105 := mv_U.eq (h2_q_105.Lg hm17 (show ¬ (sx_c6 h m17) from (sx_c6.n km17 (by decide))) (by rw [km17]; decide)) mU
    have mS_q_105 : mv_S m23 m26 m28 m29 q_105 := mv_S.eq (h2_q_105.G hm23 (show ¬ (sx_c6 h m23) from (sx_c6.n km23 (by decide))) (by rw [km23]; decide)) (h2_q_105.G hm26 (show ¬ (sx_c6 h m26) from (sx_c6.n km26 (by decide))) (by rw [km26]; decide)) (h2_q_105.G hm28 (show ¬ (sx_c6 h m28) from (sx_c6.n km28 (by decide))) (by rw [km28]; decide)) (h2_q_105.G hm29 (show ¬ (sx_c6 h m29) from (sx_c6.n km29 (by decide))) (by rw [km29]; decide)) mS
    have mL_q_105 : mv_L m40 m41 m44 a0 q_105 := mv_L.eq (h2_q_105.G hm40 (show ¬ (sx_c6 h m40) from (sx_c6.n km40 (by decide))) (by rw [km40]; decide)) (h2_q_105.G hm41 (show ¬ (sx_c6 h m41) from (sx_c6.n km41 (by decide))) (by rw [km41]; decide)) (h2_q_105.G hm44 (show ¬ (sx_c6 h m44) from (sx_c6.n km44 (by decide))) (by rw [km44]; decide)) (h2_q_105.I ha0 (show ¬ (sx_c6 h a0) from (sx_c6.n ka0 (by decide))) 45) mL
    have hB_q_105 := h9_q_105.trans esu
    refine wa_istore B [(5, .int r_106), (4, .int i), (3, .ref ot), (2, .ref a0), (1, .ref x0), (0, .ref b)] dL_law_511 (by decide) rfl ?_
    refine wa_aload_n B dL_law_513 rfl 3 rfl ?_
    refine wa_aload_n B dL_law_514 rfl 5 rfl ?_
    refine wa_iload B dL_law_515 1 rfl ?_
    refine wa_iconst B 1 dL_law_517 (by decide) ?_
    refine wa_iadd B dL_law_518 (fun v_108 ev_108 => ?_)
    subst ev_108
    refine wa_sld B hX hbl hbA (i := (i + 1)) (show 0 ≤ (i + 1).toInt by omega) (show (i + 1).toInt < (N : Int) by omega) dL_law_519 ?_
    refine wa_aload_n B dL_law_520 rfl 5 rfl ?_
    refine wa_iload B dL_law_521 1 rfl ?_
    refine wa_iconst B 2 dL_law_523 (by decide) ?_
    refine wa_iadd B dL_law_524 (fun v_109 ev_109 => ?_)
    subst ev_109
    refine wa_sld B hX hbl hbA (i := (i + 2)) (show 0 ≤ (i + 2).toInt by omega) (show (i + 2).toInt < (N : Int) by omega) dL_law_525 ?_
    refine wa_aload_n B dL_law_526 rfl 5 rfl ?_
    refine wa_iload B dL_law_527 1 rfl ?_
    refine wa_iconst B 3 dL_law_529 (by decide) ?_
    refine wa_iadd B dL_law_530 (fun v_110 ev_110 => ?_)
    subst ev_110
    refine wa_sld B hX hbl hbA (i := (i + 3)) (show 0 ≤ (i + 3).toInt by omega) (show (i + 3).toInt < (N : Int) by omega) dL_law_531 ?_
    refine wa_if_eq B 539 dL_law_532 (by decide) (fun (t_111 : ((xs ((i + 3) : Int32).toNatClampNeg)).toInt = 0) => ?_) (fun (t_111 : ¬ ((xs ((i + 3) : Int32).toNatClampNeg)).toInt = 0) => ?_)
    · refine wa_iconst B 0 dL_law_539 (by decide) ?_
      have z_112 : q_105.2.2.1 a0 18 = m18 := (h2_q_105.R ha0 (fun z9 => absurd z9.2 (by omega)) 18).trans (em18)
      have z_113 : q_105.2.2.1 a0 19 = m19 := (h2_q_105.R ha0 (fun z9 => absurd z9.2 (by omega)) 19).trans (em19)
      have z_114 : q_105.2.2.1 a0 23 = m23 := (h2_q_105.R ha0 (fun z9 => absurd z9.2 (by omega)) 23).trans (em23)
      have z_115 : q_105.2.2.1 a0 25 = m25 := (h2_q_105.R ha0 (fun z9 => absurd z9.2 (by omega)) 25).trans (em25)
      have z_116 : q_105.2.2.1 a0 26 = m26 := (h2_q_105.R ha0 (fun z9 => absurd z9.2 (by omega)) 26).trans (em26)
      have z_117 : q_105.2.2.1 a0 27 = m27 := (h2_q_105.R ha0 (fun z9 => absurd z9.2 (by omega)) 27).trans (em27)
      have z_118 : q_105.2.2.1 a0 28 = m28 := (h2_q_105.R ha0 (fun z9 => absurd z9.2 (by omega)) 28).trans (em28)
      have z_119 : q_105.2.2.1 a0 29 = m29 := (h2_q_105.R ha0 (fun z9 => absurd z9.2 (by omega)) 29).trans (em29)
      have z_120 : q_105.2.2.1 a0 30 = m30 := (h2_q_105.R ha0 (fun z9 => absurd z9.2 (by omega)) 30).trans (em30)
      have z_121 : q_105.2.2.1 a0 34 = m34 := (h2_q_105.R ha0 (fun z9 => absurd z9.2 (by omega)) 34).trans (em34)
      have z_122 : q_105.2.2.1 a0 35 = m35 := (h2_q_105.R ha0 (fun z9 => absurd z9.2 (by omega)) 35).trans (em35)
      refine wa_callVi B (x := (RX12, TX12, 51)) (As := [.int ((xs ((i + 1) : Int32).toNatClampNeg)), .int ((xs ((i + 2) : Int32).toNatClampNeg)), .int 0]) (rest := []) (k_X12_bound l dC dI h L hN q_105 hV_q_105 (a0 := a0) ha0 ka0 ((xs ((i + 1) : Int32).toNatClampNeg)) ((xs ((i + 2) : Int32).toNatClampNeg)) 0 (m18 := m18) z_112 (m19 := m19) z_113 (m23 := m23) z_114 (m25 := m25) z_115 (m26 := m26) z_116 (m27 := m27) z_117 (m28 := m28) z_118 (m29 := m29) z_119 (m30 := m30) z_120 (m34 := m34) z_121 (m35 := m35) z_122 mS_q_105 ) (cwV 3 B.1.2.2.2.2 gL_law_X12_bound rfl rfl rfl (by decide +kernel) ⟨Nat.le_of_ble_eq_true rfl, Nat.le_of_ble_eq_true rfl⟩) ha0 ka0 (by decide) rfl rfl rfl (Nat.le_of_ble_eq_true rfl) dL_law_540 (fun r_124 q_123 w_125 => ?_)
      obtain ⟨hV_q_123, h2_q_123, h3_q_123, mS_q_123⟩ := w_125
      have mN_q_123 : mv_N a0 q_123 := mv_N.eq (h3_q_123.1 8 (by decide)) (h3_q_123.2 11 (by decide)) mN_q_105
      have mF_q_123 : mv_F m18 m19 q_123 := mv_F.eq (h2_q_123.G hm18 (show ¬ (h.1 m18 = 12 ∨ h.1 m18 = 144 ∨ h.1 m18 = 245) from (fun z => z.elim (fun z => absurd (z.symm.trans km18) (by decide)) (fun z => z.elim (fun z => absurd (z.symm.trans km18) (by decide)) (fun z => absurd (z.symm.trans km18) (by decide))))) (by rw [km18]; decide)) (h2_q_123.G hm19 (show ¬ (h.1 m19 = 12 ∨ h.1 m19 = 144 ∨ h.1 m19 = 245) from (fun z => z.elim (fun z => absurd (z.symm.trans km19) (by decide)) (fun z => z.elim (fun z => absurd (z.symm.trans km19) (by decide)) (fun z => absurd (z.symm.trans km19) (by decide))))) (by rw [km19]; decide)) mF_q_105
      have mU_q_123 : mv_U m17 q_123 := mv_U.eq (h2_q_123.Lg hm17 (show ¬ (h.1 m17 = 12 ∨ h.1 m17 = 144 ∨ h.1 m17 = 245) from (fun z => z.elim (fun z => absurd (z.symm.trans km17) (by decide)) (fun z => z.elim (fun z => absurd (z.symm.trans km17) (by decide)) (fun z => absurd (z.symm.trans km17) (by decide))))) (by rw [km17]; decide)) mU_q_105
      have mL_q_123 : mv_L m40 m41 m44 a0 q_123 := mv_L.eq (h2_q_123.G hm40 (show ¬ (h.1 m40 = 12 ∨ h.1 m40 = 144 ∨ h.1 m40 = 245) from (fun z => z.elim (fun z => absurd (z.symm.trans km40) (by decide)) (fun z => z.elim (fun z => absurd (z.symm.trans km40) (by decide)) (fun z => absurd (z.symm.trans km40) (by decide))))) (by rw [km40]; decide)) (h2_q_123.G hm41 (show ¬ (h.1 m41 = 12 ∨ h.1 m41 = 144 ∨ h.1 m41 = 245) from (fun z => z.elim (fun z => absurd (z.symm.trans km41) (by decide)) (fun z => z.elim (fun z => absurd (z.symm.trans km41) (by decide)) (fun z => absurd (z.symm.trans km41) (by decide))))) (by rw [km41]; decide)) (h2_q_123.G hm44 (show ¬ (h.1 m44 = 12 ∨ h.1 m44 = 144 ∨ h.1 m44 = 245) from (fun z => z.elim (fun z => absurd (z.symm.trans km44) (by decide)) (fun z => z.elim (fun z => absurd (z.symm.trans km44) (by decide)) (fun z => absurd (z.symm.trans km44) (by decide))))) (by rw [km44]; decide)) (h3_q_123.1 45 (by decide)) mL_q_105
      refine wa_istore B [(6, .int r_124), (5, .int r_106), (4, .int i), (3, .ref ot), (2, .ref a0), (1, .ref x0), (0, .ref b)] dL_law_543 (by decide) rfl ?_
      refine wa_goto B 775 dL_law_545 (by decide) ?_
      have z_126 : q_123.1 a0 2 = q.1 a0 2 := (h3_q_123.1 2 (by decide)).trans (h2_q_105.I ha0 (show ¬ (sx_c6 h a0) from (sx_c6.n ka0 (by decide))) 2)
      have y_127 : (q_123.1 a0 2).toInt = (q.1 a0 2).toInt := by rw [z_126]
      have z_128 : q_123.1 a0 45 = q.1 a0 45 := (h3_q_123.1 45 (by decide)).trans (h2_q_105.I ha0 (show ¬ (sx_c6 h a0) from (sx_c6.n ka0 (by decide))) 45)
      have y_129 : (q_123.1 a0 45).toInt = (q.1 a0 45).toInt := by rw [z_128]
      have z_130 : q_123.1 t0 1 = q_105.1 t0 1 := h2_q_123.I ht0 (show ¬ (h.1 t0 = 12 ∨ h.1 t0 = 144 ∨ h.1 t0 = 245) from (fun z => z.elim (fun z => absurd (z.symm.trans kt0) (by decide)) (fun z => z.elim (fun z => absurd (z.symm.trans kt0) (by decide)) (fun z => absurd (z.symm.trans kt0) (by decide))))) 1
      have y_131 : (q_123.1 t0 1).toInt = (q_105.1 t0 1).toInt := by rw [z_130]
      have z_132 : q_123.1 x0 14 = q_105.1 x0 14 := h2_q_123.I hx0 (show ¬ (h.1 x0 = 12 ∨ h.1 x0 = 144 ∨ h.1 x0 = 245) from (fun z => z.elim (fun z => absurd (z.symm.trans kx0) (by decide)) (fun z => z.elim (fun z => absurd (z.symm.trans kx0) (by decide)) (fun z => absurd (z.symm.trans kx0) (by decide))))) 14
      have y_133 : (q_123.1 x0 14).toInt = (q_105.1 x0 14).toInt := by rw [z_132]
      have z_134 : q_123.2.2.1 x0 0 = t0 := (h2_q_123.R hx0 (show ¬ ((h.1 x0 = 12 ∨ h.1 x0 = 144 ∨ h.1 x0 = 245) ∧ (h.1 x0 = 8 ∨ h.1 x0 = 11)) from fun z9 => (show ¬ (h.1 x0 = 12 ∨ h.1 x0 = 144 ∨ h.1 x0 = 245) from (fun z => z.elim (fun z => absurd (z.symm.trans kx0) (by decide)) (fun z => z.elim (fun z => absurd (z.symm.trans kx0) (by decide)) (fun z => absurd (z.symm.trans kx0) (by decide))))) z9.1) 0).trans (h5_q_105)
      have z_135 : q_123.2.2.1 t0 0 = tb := (h2_q_123.R ht0 (fun z9 => absurd z9.2 (by omega)) 0).trans ((h2_q_105.R ht0 (fun z9 => absurd z9.2 (by omega)) 0).trans (etb))
      have z_136 : q_123.2.2.1 x0 9 = fa := (h2_q_123.R hx0 (show ¬ ((h.1 x0 = 12 ∨ h.1 x0 = 144 ∨ h.1 x0 = 245) ∧ (h.1 x0 = 8 ∨ h.1 x0 = 11)) from fun z9 => (show ¬ (h.1 x0 = 12 ∨ h.1 x0 = 144 ∨ h.1 x0 = 245) from (fun z => z.elim (fun z => absurd (z.symm.trans kx0) (by decide)) (fun z => z.elim (fun z => absurd (z.symm.trans kx0) (by decide)) (fun z => absurd (z.symm.trans kx0) (by decide))))) z9.1) 9).trans (hA_q_105)
      have z_137 : q_123.2.2.2.1 tb = q.2.2.2.1 tb := (h2_q_123.G htb (show ¬ (h.1 tb = 12 ∨ h.1 tb = 144 ∨ h.1 tb = 245) from (fun z => z.elim (fun z => absurd (z.symm.trans ktb) (by decide)) (fun z => z.elim (fun z => absurd (z.symm.trans ktb) (by decide)) (fun z => absurd (z.symm.trans ktb) (by decide))))) (by rw [ktb]; decide)).trans (h2_q_105.G htb (show ¬ (sx_c6 h tb) from (sx_c6.t ktb ltb)) (by rw [ktb]; decide))
      have z_138 : q_123.2.2.2.1 m1 = q.2.2.2.1 m1 := (h2_q_123.G hm1 (show ¬ (h.1 m1 = 12 ∨ h.1 m1 = 144 ∨ h.1 m1 = 245) from (fun z => z.elim (fun z => absurd (z.symm.trans km1) (by decide)) (fun z => z.elim (fun z => absurd (z.symm.trans km1) (by decide)) (fun z => absurd (z.symm.trans km1) (by decide))))) (by rw [km1]; decide)).trans (h2_q_105.G hm1 (show ¬ (sx_c6 h m1) from (sx_c6.n km1 (by decide))) (by rw [km1]; decide))
      have hT9 : ty_T (q_123.2.2.2.1 tb) (q_123.2.2.2.1 m1) (q_123.1 t0 1).toInt.toNat := by rw [z_137, z_138]; exact hT.le (by omega)
      have z_139 : q_123.2.2.2.1 m44 = q.2.2.2.1 m44 := (h2_q_123.G hm44 (show ¬ (h.1 m44 = 12 ∨ h.1 m44 = 144 ∨ h.1 m44 = 245) from (fun z => z.elim (fun z => absurd (z.symm.trans km44) (by decide)) (fun z => z.elim (fun z => absurd (z.symm.trans km44) (by decide)) (fun z => absurd (z.symm.trans km44) (by decide))))) (by rw [km44]; decide)).trans (h2_q_105.G hm44 (show ¬ (sx_c6 h m44) from (sx_c6.n km44 (by decide))) (by rw [km44]; decide))
      have hR9 : lc_R h fa m44 x0 q_123 := by
        intro f hf
        obtain ⟨e9, ee9, he9, ke9⟩ := hV.elem (t := 0) hfa kfa (by decide) rfl (j := f) (by omega)
        rw [ee9, show q_123.1 e9 3 = q_105.1 e9 3 from h2_q_123.I he9 (show ¬ (h.1 e9 = 12 ∨ h.1 e9 = 144 ∨ h.1 e9 = 245) from by omega) 3, show q_105.1 e9 3 = q.1 e9 3 from h2_q_105.I he9 (show ¬ (sx_c6 h e9) from by (try unfold sx_mk at *); (try unfold sx_ck at *); (try unfold sx_c6 at *); omega) 3, ← ee9, z_139]
        exact hR f (by omega)
      refine WA.sub [2, 3, 4, 5, 6] rfl ?_
      have hR_uu : q_123.2.2.1 uu = q.2.2.1 uu := by rw [show q_123.2.2.1 uu = q_105.2.2.1 uu from h2_q_123.2 uu huu (fun z9 => absurd z9.2 (by rw [kuu]; decide)), show q_105.2.2.1 uu = q.2.2.1 uu from h2_q_105.2 uu huu (fun z9 => absurd z9.2 (by rw [kuu]; decide))]
      have hR_su : q_123.2.2.1 su = q.2.2.1 su := by rw [show q_123.2.2.1 su = q_105.2.2.1 su from h2_q_123.2 su hsu (fun z9 => absurd z9.2 (by rw [ksu]; decide)), show q_105.2.2.1 su = q.2.2.1 su from h2_q_105.2 su hsu (fun z9 => absurd z9.2 (by rw [ksu]; decide))]
      have z_140 : q_123.1 o0 1 = q.1 o0 1 := (h2_q_123.I ho0 (show ¬ (h.1 o0 = 12 ∨ h.1 o0 = 144 ∨ h.1 o0 = 245) from (fun z => z.elim (fun z => absurd (z.symm.trans ko0) (by decide)) (fun z => z.elim (fun z => absurd (z.symm.trans ko0) (by decide)) (fun z => absurd (z.symm.trans ko0) (by decide))))) 1).trans (h2_q_105.I ho0 (show ¬ (sx_c6 h o0) from (sx_c6.o ko0 lo0)) 1)
      have z_141 : q_123.1 a0 22 = q.1 a0 22 := (h3_q_123.1 22 (by decide)).trans (h2_q_105.I ha0 (show ¬ (sx_c6 h a0) from (sx_c6.n ka0 (by decide))) 22)
      have z_142 : q_123.2.2.2.1 ob = q.2.2.2.1 ob := (h2_q_123.G hob (show ¬ (h.1 ob = 12 ∨ h.1 ob = 144 ∨ h.1 ob = 245) from (fun z => z.elim (fun z => absurd (z.symm.trans kob) (by decide)) (fun z => z.elim (fun z => absurd (z.symm.trans kob) (by decide)) (fun z => absurd (z.symm.trans kob) (by decide))))) (by rw [kob]; decide)).trans (h2_q_105.G hob (show ¬ (sx_c6 h ob) from (sx_c6.u kob lob)) (by rw [kob]; decide))
      have z_143 : q_123.2.2.2.1 m21 = q.2.2.2.1 m21 := (h2_q_123.G hm21 (show ¬ (h.1 m21 = 12 ∨ h.1 m21 = 144 ∨ h.1 m21 = 245) from (fun z => z.elim (fun z => absurd (z.symm.trans km21) (by decide)) (fun z => z.elim (fun z => absurd (z.symm.trans km21) (by decide)) (fun z => absurd (z.symm.trans km21) (by decide))))) (by rw [km21]; decide)).trans (h2_q_105.G hm21 (show ¬ (sx_c6 h m21) from (sx_c6.n km21 (by decide))) (by rw [km21]; decide))
      have hout9 : lc_o (q_123.1 o0 1) (q_123.1 a0 22) (q_123.2.2.2.1 ob) (q_123.2.2.2.1 (mm 21)) := by rw [← xm21, z_140, z_141, z_142, z_143]; exact hout
      have z_144 : q_123.2.2.1 x0 1 = o0 := (h2_q_123.R hx0 (show ¬ ((h.1 x0 = 12 ∨ h.1 x0 = 144 ∨ h.1 x0 = 245) ∧ (h.1 x0 = 8 ∨ h.1 x0 = 11)) from fun z9 => (show ¬ (h.1 x0 = 12 ∨ h.1 x0 = 144 ∨ h.1 x0 = 245) from (fun z => z.elim (fun z => absurd (z.symm.trans kx0) (by decide)) (fun z => z.elim (fun z => absurd (z.symm.trans kx0) (by decide)) (fun z => absurd (z.symm.trans kx0) (by decide))))) z9.1) 1).trans (hO_q_105)
      have z_145 : q_123.2.2.1 o0 0 = ob := (h2_q_123.R ho0 (fun z9 => absurd z9.2 (by omega)) 0).trans ((h2_q_105.R ho0 (fun z9 => absurd z9.2 (by omega)) 0).trans (eob))
      have z_146 : q_123.1 uu 6 = q.1 uu 6 := (h2_q_123.I huu (show ¬ (h.1 uu = 12 ∨ h.1 uu = 144 ∨ h.1 uu = 245) from (fun z => z.elim (fun z => absurd (z.symm.trans kuu) (by decide)) (fun z => z.elim (fun z => absurd (z.symm.trans kuu) (by decide)) (fun z => absurd (z.symm.trans kuu) (by decide))))) 6).trans (h2_q_105.I huu (show ¬ (sx_c6 h uu) from (sx_c6.n kuu (by decide))) 6)
      have z_147 : q_123.1 a0 20 = q.1 a0 20 := (h3_q_123.1 20 (by decide)).trans (h2_q_105.I ha0 (show ¬ (sx_c6 h a0) from (sx_c6.n ka0 (by decide))) 20)
      have z_148 : q_123.2.2.2.1 uc = q.2.2.2.1 uc := (h2_q_123.G huc (show ¬ (h.1 uc = 12 ∨ h.1 uc = 144 ∨ h.1 uc = 245) from (fun z => z.elim (fun z => absurd (z.symm.trans kuc) (by decide)) (fun z => z.elim (fun z => absurd (z.symm.trans kuc) (by decide)) (fun z => absurd (z.symm.trans kuc) (by decide))))) (by rw [kuc]; decide)).trans (h2_q_105.G huc (show ¬ (sx_c6 h uc) from (sx_c6.n kuc (by decide))) (by rw [kuc]; decide))
      have z_149 : q_123.2.2.2.1 m18 = q.2.2.2.1 m18 := (h2_q_123.G hm18 (show ¬ (h.1 m18 = 12 ∨ h.1 m18 = 144 ∨ h.1 m18 = 245) from (fun z => z.elim (fun z => absurd (z.symm.trans km18) (by decide)) (fun z => z.elim (fun z => absurd (z.symm.trans km18) (by decide)) (fun z => absurd (z.symm.trans km18) (by decide))))) (by rw [km18]; decide)).trans (h2_q_105.G hm18 (show ¬ (sx_c6 h m18) from (sx_c6.n km18 (by decide))) (by rw [km18]; decide))
      have z_150 : q_123.2.2.2.1 uf = q.2.2.2.1 uf := (h2_q_123.G huf (show ¬ (h.1 uf = 12 ∨ h.1 uf = 144 ∨ h.1 uf = 245) from (fun z => z.elim (fun z => absurd (z.symm.trans kuf) (by decide)) (fun z => z.elim (fun z => absurd (z.symm.trans kuf) (by decide)) (fun z => absurd (z.symm.trans kuf) (by decide))))) (by rw [kuf]; decide)).trans (h2_q_105.G huf (show ¬ (sx_c6 h uf) from (sx_c6.n kuf (by decide))) (by rw [kuf]; decide))
      have z_151 : q_123.2.2.2.1 m19 = q.2.2.2.1 m19 := (h2_q_123.G hm19 (show ¬ (h.1 m19 = 12 ∨ h.1 m19 = 144 ∨ h.1 m19 = 245) from (fun z => z.elim (fun z => absurd (z.symm.trans km19) (by decide)) (fun z => z.elim (fun z => absurd (z.symm.trans km19) (by decide)) (fun z => absurd (z.symm.trans km19) (by decide))))) (by rw [km19]; decide)).trans (h2_q_105.G hm19 (show ¬ (sx_c6 h m19) from (sx_c6.n km19 (by decide))) (by rw [km19]; decide))
      have z_152 : q_123.2.2.2.1 uw = q.2.2.2.1 uw := (h2_q_123.G huw (show ¬ (h.1 uw = 12 ∨ h.1 uw = 144 ∨ h.1 uw = 245) from (fun z => z.elim (fun z => absurd (z.symm.trans kuw) (by decide)) (fun z => z.elim (fun z => absurd (z.symm.trans kuw) (by decide)) (fun z => absurd (z.symm.trans kuw) (by decide))))) (by rw [kuw]; decide)).trans (h2_q_105.G huw (show ¬ (sx_c6 h uw) from (sx_c6.n kuw (by decide))) (by rw [kuw]; decide))
      have z_153 : q_123.2.2.2.2 un = q.2.2.2.2 un := (h2_q_123.Lg hun (show ¬ (h.1 un = 12 ∨ h.1 un = 144 ∨ h.1 un = 245) from (fun z => z.elim (fun z => absurd (z.symm.trans kun) (by decide)) (fun z => z.elim (fun z => absurd (z.symm.trans kun) (by decide)) (fun z => absurd (z.symm.trans kun) (by decide))))) (by rw [kun]; decide)).trans (h2_q_105.Lg hun (show ¬ (sx_c6 h un) from (sx_c6.n kun (by decide))) (by rw [kun]; decide))
      have z_154 : q_123.2.2.2.2 m17 = q.2.2.2.2 m17 := (h2_q_123.Lg hm17 (show ¬ (h.1 m17 = 12 ∨ h.1 m17 = 144 ∨ h.1 m17 = 245) from (fun z => z.elim (fun z => absurd (z.symm.trans km17) (by decide)) (fun z => z.elim (fun z => absurd (z.symm.trans km17) (by decide)) (fun z => absurd (z.symm.trans km17) (by decide))))) (by rw [km17]; decide)).trans (h2_q_105.Lg hm17 (show ¬ (sx_c6 h m17) from (sx_c6.n km17 (by decide))) (by rw [km17]; decide))
      have hu9 : lc_uq8 q_123 a0 uu (mm 17) (mm 18) (mm 19) := by unfold lc_uq8; rw [← xm17, ← xm18, ← xm19, hR_uu, euc, euf, euw, eun, z_146, z_147, z_148, z_149, z_150, z_151, z_152, z_153, z_154]; exact hu
      have z_155 : q_123.2.2.1 x0 11 = uu := (h2_q_123.R hx0 (show ¬ ((h.1 x0 = 12 ∨ h.1 x0 = 144 ∨ h.1 x0 = 245) ∧ (h.1 x0 = 8 ∨ h.1 x0 = 11)) from fun z9 => (show ¬ (h.1 x0 = 12 ∨ h.1 x0 = 144 ∨ h.1 x0 = 245) from (fun z => z.elim (fun z => absurd (z.symm.trans kx0) (by decide)) (fun z => z.elim (fun z => absurd (z.symm.trans kx0) (by decide)) (fun z => absurd (z.symm.trans kx0) (by decide))))) z9.1) 11).trans (h8_q_105)
      have z_156 : q_123.2.2.1 x0 12 = su := (h2_q_123.R hx0 (show ¬ ((h.1 x0 = 12 ∨ h.1 x0 = 144 ∨ h.1 x0 = 245) ∧ (h.1 x0 = 8 ∨ h.1 x0 = 11)) from fun z9 => (show ¬ (h.1 x0 = 12 ∨ h.1 x0 = 144 ∨ h.1 x0 = 245) from (fun z => z.elim (fun z => absurd (z.symm.trans kx0) (by decide)) (fun z => z.elim (fun z => absurd (z.symm.trans kx0) (by decide)) (fun z => absurd (z.symm.trans kx0) (by decide))))) z9.1) 12).trans (hB_q_105)
      exact hcont _ _ (Or.inr rfl) ⟨⟨⟨hV_q_123, mN_q_123, by rw [← xm18, ← xm19]; exact mF_q_123, by rw [← xm17]; exact mU_q_123, by rw [← xm23, ← xm26, ← xm28, ← xm29]; exact mS_q_123, by rw [← xm40, ← xm41, ← xm44]; exact mL_q_123, z_134, fun k hk => by rw [show q_123.2.2.1 a0 = q_105.2.2.1 a0 from h2_q_123.2 a0 ha0 (fun z9 => absurd z9.2 (by omega)), show q_105.2.2.1 a0 = q.2.2.1 a0 from h2_q_105.2 a0 ha0 (fun z9 => absurd z9.2 (by omega))]; exact em k hk, by omega, by omega⟩, z_135, z_136, by rw [← xm1]; exact hT9, by rw [← xm44]; exact hR9⟩, uu, su, o0, ob, z_155, z_156, hdz.eq hR_uu hR_su, hu9, ⟨z_144, z_145⟩, hout9⟩
    · refine wa_iconst B 1 dL_law_535 (by decide) ?_
      refine wa_goto B 540 dL_law_536 (by decide) ?_
      have z_157 : q_105.2.2.1 a0 18 = m18 := (h2_q_105.R ha0 (fun z9 => absurd z9.2 (by omega)) 18).trans (em18)
      have z_158 : q_105.2.2.1 a0 19 = m19 := (h2_q_105.R ha0 (fun z9 => absurd z9.2 (by omega)) 19).trans (em19)
      have z_159 : q_105.2.2.1 a0 23 = m23 := (h2_q_105.R ha0 (fun z9 => absurd z9.2 (by omega)) 23).trans (em23)
      have z_160 : q_105.2.2.1 a0 25 = m25 := (h2_q_105.R ha0 (fun z9 => absurd z9.2 (by omega)) 25).trans (em25)
      have z_161 : q_105.2.2.1 a0 26 = m26 := (h2_q_105.R ha0 (fun z9 => absurd z9.2 (by omega)) 26).trans (em26)
      have z_162 : q_105.2.2.1 a0 27 = m27 := (h2_q_105.R ha0 (fun z9 => absurd z9.2 (by omega)) 27).trans (em27)
      have z_163 : q_105.2.2.1 a0 28 = m28 := (h2_q_105.R ha0 (fun z9 => absurd z9.2 (by omega)) 28).trans (em28)
      have z_164 : q_105.2.2.1 a0 29 = m29 := (h2_q_105.R ha0 (fun z9 => absurd z9.2 (by omega)) 29).trans (em29)
      have z_165 : q_105.2.2.1 a0 30 = m30 := (h2_q_105.R ha0 (fun z9 => absurd z9.2 (by omega)) 30).trans (em30)
      have z_166 : q_105.2.2.1 a0 34 = m34 := (h2_q_105.R ha0 (fun z9 => absurd z9.2 (by omega)) 34).trans (em34)
      have z_167 : q_105.2.2.1 a0 35 = m35 := (h2_q_105.R ha0 (fun z9 => absurd z9.2 (by omega)) 35).trans (em35)
      refine wa_callVi B (x := (RX12, TX12, 51)) (As := [.int ((xs ((i + 1) : Int32).toNatClampNeg)), .int ((xs ((i + 2) : Int32).toNatClampNeg)), .int 1]) (rest := []) (k_X12_bound l dC dI h L hN q_105 hV_q_105 (a0 := a0) ha0 ka0 ((xs ((i + 1) : Int32).toNatClampNeg)) ((xs ((i + 2) : Int32).toNatClampNeg)) 1 (m18 := m18) z_157 (m19 := m19) z_158 (m23 := m23) z_159 (m25 := m25) z_160 (m26 := m26) z_161 (m27 := m27) z_162 (m28 := m28) z_163 (m29 := m29) z_164 (m30 := m30) z_165 (m34 := m34) z_166 (m35 := m35) z_167 mS_q_105 ) (cwV 3 B.1.2.2.2.2 gL_law_X12_bound rfl rfl rfl (by decide +kernel) ⟨Nat.le_of_ble_eq_true rfl, Nat.le_of_ble_eq_true rfl⟩) ha0 ka0 (by decide) rfl rfl rfl (Nat.le_of_ble_eq_true rfl) dL_law_540 (fun r_169 q_168 w_170 => ?_)
      obtain ⟨hV_q_168, h2_q_168, h3_q_168, mS_q_168⟩ := w_170
      have mN_q_168 : mv_N a0 q_168 := mv_N.eq (h3_q_168.1 8 (by decide)) (h3_q_168.2 11 (by decide)) mN_q_105
      have mF_q_168 : mv_F m18 m19 q_168 := mv_F.eq (h2_q_168.G hm18 (show ¬ (h.1 m18 = 12 ∨ h.1 m18 = 144 ∨ h.1 m18 = 245) from (fun z => z.elim (fun z => absurd (z.symm.trans km18) (by decide)) (fun z => z.elim (fun z => absurd (z.symm.trans km18) (by decide)) (fun z => absurd (z.symm.trans km18) (by decide))))) (by rw [km18]; decide)) (h2_q_168.G hm19 (show ¬ (h.1 m19 = 12 ∨ h.1 m19 = 144 ∨ h.1 m19 = 245) from (fun z => z.elim (fun z => absurd (z.symm.trans km19) (by decide)) (fun z => z.elim (fun z => absurd (z.symm.trans km19) (by decide)) (fun z => absurd (z.symm.trans km19) (by decide))))) (by rw [km19]; decide)) mF_q_105
      have mU_q_168 : mv_U m17 q_168 := mv_U.eq (h2_q_168.Lg hm17 (show ¬ (h.1 m17 = 12 ∨ h.1 m17 = 144 ∨ h.1 m17 = 245) from (fun z => z.elim (fun z => absurd (z.symm.trans km17) (by decide)) (fun z => z.elim (fun z => absurd (z.symm.trans km17) (by decide)) (fun z => absurd (z.symm.trans km17) (by decide))))) (by rw [km17]; decide)) mU_q_105
      have mL_q_168 : mv_L m40 m41 m44 a0 q_168 := mv_L.eq (h2_q_168.G hm40 (show ¬ (h.1 m40 = 12 ∨ h.1 m40 = 144 ∨ h.1 m40 = 245) from (fun z => z.elim (fun z => absurd (z.symm.trans km40) (by decide)) (fun z => z.elim (fun z => absurd (z.symm.trans km40) (by decide)) (fun z => absurd (z.symm.trans km40) (by decide))))) (by rw [km40]; decide)) (h2_q_168.G hm41 (show ¬ (h.1 m41 = 12 ∨ h.1 m41 = 144 ∨ h.1 m41 = 245) from (fun z => z.elim (fun z => absurd (z.symm.trans km41) (by decide)) (fun z => z.elim (fun z => absurd (z.symm.trans km41) (by decide)) (fun z => absurd (z.symm.trans km41) (by decide))))) (by rw [km41]; decide)) (h2_q_168.G hm44 (show ¬ (h.1 m44 = 12 ∨ h.1 m44 = 144 ∨ h.1 m44 = 245) from (fun z => z.elim (fun z => absurd (z.symm.trans km44) (by decide)) (fun z => z.elim (fun z => absurd (z.symm.trans km44) (by decide)) (fun z => absurd (z.symm.trans km44) (by decide))))) (by rw [km44]; decide)) (h3_q_168.1 45 (by decide)) mL_q_105
      refine wa_istore B [(6, .int r_169), (5, .int r_106), (4, .int i), (3, .ref ot), (2, .ref a0), (1, .ref x0), (0, .ref b)] dL_law_543 (by decide) rfl ?_
      refine wa_goto B 775 dL_law_545 (by decide) ?_
      have z_171 : q_168.1 a0 2 = q.1 a0 2 := (h3_q_168.1 2 (by decide)).trans (h2_q_105.I ha0 (show ¬ (sx_c6 h a0) from (sx_c6.n ka0 (by decide))) 2)
      have y_172 : (q_168.1 a0 2).toInt = (q.1 a0 2).toInt := by rw [z_171]
      have z_173 : q_168.1 a0 45 = q.1 a0 45 := (h3_q_168.1 45 (by decide)).trans (h2_q_105.I ha0 (show ¬ (sx_c6 h a0) from (sx_c6.n ka0 (by decide))) 45)
      have y_174 : (q_168.1 a0 45).toInt = (q.1 a0 45).toInt := by rw [z_173]
      have z_175 : q_168.1 t0 1 = q_105.1 t0 1 := h2_q_168.I ht0 (show ¬ (h.1 t0 = 12 ∨ h.1 t0 = 144 ∨ h.1 t0 = 245) from (fun z => z.elim (fun z => absurd (z.symm.trans kt0) (by decide)) (fun z => z.elim (fun z => absurd (z.symm.trans kt0) (by decide)) (fun z => absurd (z.symm.trans kt0) (by decide))))) 1
      have y_176 : (q_168.1 t0 1).toInt = (q_105.1 t0 1).toInt := by rw [z_175]
      have z_177 : q_168.1 x0 14 = q_105.1 x0 14 := h2_q_168.I hx0 (show ¬ (h.1 x0 = 12 ∨ h.1 x0 = 144 ∨ h.1 x0 = 245) from (fun z => z.elim (fun z => absurd (z.symm.trans kx0) (by decide)) (fun z => z.elim (fun z => absurd (z.symm.trans kx0) (by decide)) (fun z => absurd (z.symm.trans kx0) (by decide))))) 14
      have y_178 : (q_168.1 x0 14).toInt = (q_105.1 x0 14).toInt := by rw [z_177]
      have z_179 : q_168.2.2.1 x0 0 = t0 := (h2_q_168.R hx0 (show ¬ ((h.1 x0 = 12 ∨ h.1 x0 = 144 ∨ h.1 x0 = 245) ∧ (h.1 x0 = 8 ∨ h.1 x0 = 11)) from fun z9 => (show ¬ (h.1 x0 = 12 ∨ h.1 x0 = 144 ∨ h.1 x0 = 245) from (fun z => z.elim (fun z => absurd (z.symm.trans kx0) (by decide)) (fun z => z.elim (fun z => absurd (z.symm.trans kx0) (by decide)) (fun z => absurd (z.symm.trans kx0) (by decide))))) z9.1) 0).trans (h5_q_105)
      have z_180 : q_168.2.2.1 t0 0 = tb := (h2_q_168.R ht0 (fun z9 => absurd z9.2 (by omega)) 0).trans ((h2_q_105.R ht0 (fun z9 => absurd z9.2 (by omega)) 0).trans (etb))
      have z_181 : q_168.2.2.1 x0 9 = fa := (h2_q_168.R hx0 (show ¬ ((h.1 x0 = 12 ∨ h.1 x0 = 144 ∨ h.1 x0 = 245) ∧ (h.1 x0 = 8 ∨ h.1 x0 = 11)) from fun z9 => (show ¬ (h.1 x0 = 12 ∨ h.1 x0 = 144 ∨ h.1 x0 = 245) from (fun z => z.elim (fun z => absurd (z.symm.trans kx0) (by decide)) (fun z => z.elim (fun z => absurd (z.symm.trans kx0) (by decide)) (fun z => absurd (z.symm.trans kx0) (by decide))))) z9.1) 9).trans (hA_q_105)
      have z_182 : q_168.2.2.2.1 tb = q.2.2.2.1 tb := (h2_q_168.G htb (show ¬ (h.1 tb = 12 ∨ h.1 tb = 144 ∨ h.1 tb = 245) from (fun z => z.elim (fun z => absurd (z.symm.trans ktb) (by decide)) (fun z => z.elim (fun z => absurd (z.symm.trans ktb) (by decide)) (fun z => absurd (z.symm.trans ktb) (by decide))))) (by rw [ktb]; decide)).trans (h2_q_105.G htb (show ¬ (sx_c6 h tb) from (sx_c6.t ktb ltb)) (by rw [ktb]; decide))
      have z_183 : q_168.2.2.2.1 m1 = q.2.2.2.1 m1 := (h2_q_168.G hm1 (show ¬ (h.1 m1 = 12 ∨ h.1 m1 = 144 ∨ h.1 m1 = 245) from (fun z => z.elim (fun z => absurd (z.symm.trans km1) (by decide)) (fun z => z.elim (fun z => absurd (z.symm.trans km1) (by decide)) (fun z => absurd (z.symm.trans km1) (by decide))))) (by rw [km1]; decide)).trans (h2_q_105.G hm1 (show ¬ (sx_c6 h m1) from (sx_c6.n km1 (by decide))) (by rw [km1]; decide))
      have hT9 : ty_T (q_168.2.2.2.1 tb) (q_168.2.2.2.1 m1) (q_168.1 t0 1).toInt.toNat := by rw [z_182, z_183]; exact hT.le (by omega)
      have z_184 : q_168.2.2.2.1 m44 = q.2.2.2.1 m44 := (h2_q_168.G hm44 (show ¬ (h.1 m44 = 12 ∨ h.1 m44 = 144 ∨ h.1 m44 = 245) from (fun z => z.elim (fun z => absurd (z.symm.trans km44) (by decide)) (fun z => z.elim (fun z => absurd (z.symm.trans km44) (by decide)) (fun z => absurd (z.symm.trans km44) (by decide))))) (by rw [km44]; decide)).trans (h2_q_105.G hm44 (show ¬ (sx_c6 h m44) from (sx_c6.n km44 (by decide))) (by rw [km44]; decide))
      have hR9 : lc_R h fa m44 x0 q_168 := by
        intro f hf
        obtain ⟨e9, ee9, he9, ke9⟩ := hV.elem (t := 0) hfa kfa (by decide) rfl (j := f) (by omega)
        rw [ee9, show q_168.1 e9 3 = q_105.1 e9 3 from h2_q_168.I he9 (show ¬ (h.1 e9 = 12 ∨ h.1 e9 = 144 ∨ h.1 e9 = 245) from by omega) 3, show q_105.1 e9 3 = q.1 e9 3 from h2_q_105.I he9 (show ¬ (sx_c6 h e9) from by (try unfold sx_mk at *); (try unfold sx_ck at *); (try unfold sx_c6 at *); omega) 3, ← ee9, z_184]
        exact hR f (by omega)
      refine WA.sub [2, 3, 4, 5, 6] rfl ?_
      have hR_uu : q_168.2.2.1 uu = q.2.2.1 uu := by rw [show q_168.2.2.1 uu = q_105.2.2.1 uu from h2_q_168.2 uu huu (fun z9 => absurd z9.2 (by rw [kuu]; decide)), show q_105.2.2.1 uu = q.2.2.1 uu from h2_q_105.2 uu huu (fun z9 => absurd z9.2 (by rw [kuu]; decide))]
      have hR_su : q_168.2.2.1 su = q.2.2.1 su := by rw [show q_168.2.2.1 su = q_105.2.2.1 su from h2_q_168.2 su hsu (fun z9 => absurd z9.2 (by rw [ksu]; decide)), show q_105.2.2.1 su = q.2.2.1 su from h2_q_105.2 su hsu (fun z9 => absurd z9.2 (by rw [ksu]; decide))]
      have z_185 : q_168.1 o0 1 = q.1 o0 1 := (h2_q_168.I ho0 (show ¬ (h.1 o0 = 12 ∨ h.1 o0 = 144 ∨ h.1 o0 = 245) from (fun z => z.elim (fun z => absurd (z.symm.trans ko0) (by decide)) (fun z => z.elim (fun z => absurd (z.symm.trans ko0) (by decide)) (fun z => absurd (z.symm.trans ko0) (by decide))))) 1).trans (h2_q_105.I ho0 (show ¬ (sx_c6 h o0) from (sx_c6.o ko0 lo0)) 1)
      have z_186 : q_168.1 a0 22 = q.1 a0 22 := (h3_q_168.1 22 (by decide)).trans (h2_q_105.I ha0 (show ¬ (sx_c6 h a0) from (sx_c6.n ka0 (by decide))) 22)
      have z_187 : q_168.2.2.2.1 ob = q.2.2.2.1 ob := (h2_q_168.G hob (show ¬ (h.1 ob = 12 ∨ h.1 ob = 144 ∨ h.1 ob = 245) from (fun z => z.elim (fun z => absurd (z.symm.trans kob) (by decide)) (fun z => z.elim (fun z => absurd (z.symm.trans kob) (by decide)) (fun z => absurd (z.symm.trans kob) (by decide))))) (by rw [kob]; decide)).trans (h2_q_105.G hob (show ¬ (sx_c6 h ob) from (sx_c6.u kob lob)) (by rw [kob]; decide))
      have z_188 : q_168.2.2.2.1 m21 = q.2.2.2.1 m21 := (h2_q_168.G hm21 (show ¬ (h.1 m21 = 12 ∨ h.1 m21 = 144 ∨ h.1 m21 = 245) from (fun z => z.elim (fun z => absurd (z.symm.trans km21) (by decide)) (fun z => z.elim (fun z => absurd (z.symm.trans km21) (by decide)) (fun z => absurd (z.symm.trans km21) (by decide))))) (by rw [km21]; decide)).trans (h2_q_105.G hm21 (show ¬ (sx_c6 h m21) from (sx_c6.n km21 (by decide))) (by rw [km21]; decide))
      have hout9 : lc_o (q_168.1 o0 1) (q_168.1 a0 22) (q_168.2.2.2.1 ob) (q_168.2.2.2.1 (mm 21)) := by rw [← xm21, z_185, z_186, z_187, z_188]; exact hout
      have z_189 : q_168.2.2.1 x0 1 = o0 := (h2_q_168.R hx0 (show ¬ ((h.1 x0 = 12 ∨ h.1 x0 = 144 ∨ h.1 x0 = 245) ∧ (h.1 x0 = 8 ∨ h.1 x0 = 11)) from fun z9 => (show ¬ (h.1 x0 = 12 ∨ h.1 x0 = 144 ∨ h.1 x0 = 245) from (fun z => z.elim (fun z => absurd (z.symm.trans kx0) (by decide)) (fun z => z.elim (fun z => absurd (z.symm.trans kx0) (by decide)) (fun z => absurd (z.symm.trans kx0) (by decide))))) z9.1) 1).trans (hO_q_105)
      have z_190 : q_168.2.2.1 o0 0 = ob := (h2_q_168.R ho0 (fun z9 => absurd z9.2 (by omega)) 0).trans ((h2_q_105.R ho0 (fun z9 => absurd z9.2 (by omega)) 0).trans (eob))
      have z_191 : q_168.1 uu 6 = q.1 uu 6 := (h2_q_168.I huu (show ¬ (h.1 uu = 12 ∨ h.1 uu = 144 ∨ h.1 uu = 245) from (fun z => z.elim (fun z => absurd (z.symm.trans kuu) (by decide)) (fun z => z.elim (fun z => absurd (z.symm.trans kuu) (by decide)) (fun z => absurd (z.symm.trans kuu) (by decide))))) 6).trans (h2_q_105.I huu (show ¬ (sx_c6 h uu) from (sx_c6.n kuu (by decide))) 6)
      have z_192 : q_168.1 a0 20 = q.1 a0 20 := (h3_q_168.1 20 (by decide)).trans (h2_q_105.I ha0 (show ¬ (sx_c6 h a0) from (sx_c6.n ka0 (by decide))) 20)
      have z_193 : q_168.2.2.2.1 uc = q.2.2.2.1 uc := (h2_q_168.G huc (show ¬ (h.1 uc = 12 ∨ h.1 uc = 144 ∨ h.1 uc = 245) from (fun z => z.elim (fun z => absurd (z.symm.trans kuc) (by decide)) (fun z => z.elim (fun z => absurd (z.symm.trans kuc) (by decide)) (fun z => absurd (z.symm.trans kuc) (by decide))))) (by rw [kuc]; decide)).trans (h2_q_105.G huc (show ¬ (sx_c6 h uc) from (sx_c6.n kuc (by decide))) (by rw [kuc]; decide))
      have z_194 : q_168.2.2.2.1 m18 = q.2.2.2.1 m18 := (h2_q_168.G hm18 (show ¬ (h.1 m18 = 12 ∨ h.1 m18 = 144 ∨ h.1 m18 = 245) from (fun z => z.elim (fun z => absurd (z.symm.trans km18) (by decide)) (fun z => z.elim (fun z => absurd (z.symm.trans km18) (by decide)) (fun z => absurd (z.symm.trans km18) (by decide))))) (by rw [km18]; decide)).trans (h2_q_105.G hm18 (show ¬ (sx_c6 h m18) from (sx_c6.n km18 (by decide))) (by rw [km18]; decide))
      have z_195 : q_168.2.2.2.1 uf = q.2.2.2.1 uf := (h2_q_168.G huf (show ¬ (h.1 uf = 12 ∨ h.1 uf = 144 ∨ h.1 uf = 245) from (fun z => z.elim (fun z => absurd (z.symm.trans kuf) (by decide)) (fun z => z.elim (fun z => absurd (z.symm.trans kuf) (by decide)) (fun z => absurd (z.symm.trans kuf) (by decide))))) (by rw [kuf]; decide)).trans (h2_q_105.G huf (show ¬ (sx_c6 h uf) from (sx_c6.n kuf (by decide))) (by rw [kuf]; decide))
      have z_196 : q_168.2.2.2.1 m19 = q.2.2.2.1 m19 := (h2_q_168.G hm19 (show ¬ (h.1 m19 = 12 ∨ h.1 m19 = 144 ∨ h.1 m19 = 245) from (fun z => z.elim (fun z => absurd (z.symm.trans km19) (by decide)) (fun z => z.elim (fun z => absurd (z.symm.trans km19) (by decide)) (fun z => absurd (z.symm.trans km19) (by decide))))) (by rw [km19]; decide)).trans (h2_q_105.G hm19 (show ¬ (sx_c6 h m19) from (sx_c6.n km19 (by decide))) (by rw [km19]; decide))
      have z_197 : q_168.2.2.2.1 uw = q.2.2.2.1 uw := (h2_q_168.G huw (show ¬ (h.1 uw = 12 ∨ h.1 uw = 144 ∨ h.1 uw = 245) from (fun z => z.elim (fun z => absurd (z.symm.trans kuw) (by decide)) (fun z => z.elim (fun z => absurd (z.symm.trans kuw) (by decide)) (fun z => absurd (z.symm.trans kuw) (by decide))))) (by rw [kuw]; decide)).trans (h2_q_105.G huw (show ¬ (sx_c6 h uw) from (sx_c6.n kuw (by decide))) (by rw [kuw]; decide))
      have z_198 : q_168.2.2.2.2 un = q.2.2.2.2 un := (h2_q_168.Lg hun (show ¬ (h.1 un = 12 ∨ h.1 un = 144 ∨ h.1 un = 245) from (fun z => z.elim (fun z => absurd (z.symm.trans kun) (by decide)) (fun z => z.elim (fun z => absurd (z.symm.trans kun) (by decide)) (fun z => absurd (z.symm.trans kun) (by decide))))) (by rw [kun]; decide)).trans (h2_q_105.Lg hun (show ¬ (sx_c6 h un) from (sx_c6.n kun (by decide))) (by rw [kun]; decide))
      have z_199 : q_168.2.2.2.2 m17 = q.2.2.2.2 m17 := (h2_q_168.Lg hm17 (show ¬ (h.1 m17 = 12 ∨ h.1 m17 = 144 ∨ h.1 m17 = 245) from (fun z => z.elim (fun z => absurd (z.symm.trans km17) (by decide)) (fun z => z.elim (fun z => absurd (z.symm.trans km17) (by decide)) (fun z => absurd (z.symm.trans km17) (by decide))))) (by rw [km17]; decide)).trans (h2_q_105.Lg hm17 (show ¬ (sx_c6 h m17) from (sx_c6.n km17 (by decide))) (by rw [km17]; decide))
      have hu9 : lc_uq8 q_168 a0 uu (mm 17) (mm 18) (mm 19) := by unfold lc_uq8; rw [← xm17, ← xm18, ← xm19, hR_uu, euc, euf, euw, eun, z_191, z_192, z_193, z_194, z_195, z_196, z_197, z_198, z_199]; exact hu
      have z_200 : q_168.2.2.1 x0 11 = uu := (h2_q_168.R hx0 (show ¬ ((h.1 x0 = 12 ∨ h.1 x0 = 144 ∨ h.1 x0 = 245) ∧ (h.1 x0 = 8 ∨ h.1 x0 = 11)) from fun z9 => (show ¬ (h.1 x0 = 12 ∨ h.1 x0 = 144 ∨ h.1 x0 = 245) from (fun z => z.elim (fun z => absurd (z.symm.trans kx0) (by decide)) (fun z => z.elim (fun z => absurd (z.symm.trans kx0) (by decide)) (fun z => absurd (z.symm.trans kx0) (by decide))))) z9.1) 11).trans (h8_q_105)
      have z_201 : q_168.2.2.1 x0 12 = su := (h2_q_168.R hx0 (show ¬ ((h.1 x0 = 12 ∨ h.1 x0 = 144 ∨ h.1 x0 = 245) ∧ (h.1 x0 = 8 ∨ h.1 x0 = 11)) from fun z9 => (show ¬ (h.1 x0 = 12 ∨ h.1 x0 = 144 ∨ h.1 x0 = 245) from (fun z => z.elim (fun z => absurd (z.symm.trans kx0) (by decide)) (fun z => z.elim (fun z => absurd (z.symm.trans kx0) (by decide)) (fun z => absurd (z.symm.trans kx0) (by decide))))) z9.1) 12).trans (hB_q_105)
      exact hcont _ _ (Or.inr rfl) ⟨⟨⟨hV_q_168, mN_q_168, by rw [← xm18, ← xm19]; exact mF_q_168, by rw [← xm17]; exact mU_q_168, by rw [← xm23, ← xm26, ← xm28, ← xm29]; exact mS_q_168, by rw [← xm40, ← xm41, ← xm44]; exact mL_q_168, z_179, fun k hk => by rw [show q_168.2.2.1 a0 = q_105.2.2.1 a0 from h2_q_168.2 a0 ha0 (fun z9 => absurd z9.2 (by omega)), show q_105.2.2.1 a0 = q.2.2.1 a0 from h2_q_105.2 a0 ha0 (fun z9 => absurd z9.2 (by omega))]; exact em k hk, by omega, by omega⟩, z_180, z_181, by rw [← xm1]; exact hT9, by rw [← xm44]; exact hR9⟩, uu, su, o0, ob, z_200, z_201, hdz.eq hR_uu hR_su, hu9, ⟨z_189, z_190⟩, hout9⟩
set_option maxHeartbeats 4000000 in
set_option maxRecDepth 100000 in
theorem lc6_548 (l : Launch) (hlst : l.stackTraces = false) {Z : Zt} (dC : Nat → ClassId) (dI : Nat → Nat → Nat) (h : Sh) (L : List Nat) (hN : sx_nd L) (B : BX dC dI h L 7 cL_law RL wsL_law Z) {b N : Nat} {xs : Nat → Int32} (hX : va_X b N xs Z.2.2.1 Z.2.2.1.heap) (hbl : b < Z.2.2.1.heap.size) (hbA : ¬ AL L Z.2.2.1.heap.size b) {x0 a0 ot t0 tb fa : Nat} (hfd : lc_fd h fa) {mm : Nat → Nat} (hx0 : x0 ∈ L) (kx0 : h.1 x0 = 11) (ha0 : a0 ∈ L) (ka0 : h.1 a0 = 12) (hot : ot ∈ L) (kot : h.1 ot = 200) (lot : h.2.1 ot = 1) {i : Int32} (hi0 : 0 ≤ i.toInt) (hi1 : i.toInt + 6 ≤ (N : Int)) (hN2 : N ≤ 3072) (hroom : (zl_more Z).2.2.2.2.2.2.2.2.2.1 ≤ room_1.cells ∧ (zl_more Z).2.2.2.2.2.2.2.2.2.2 ≤ room_1.slots) {q : Sg} (hI : lc_I8 h L x0 a0 t0 tb fa mm q) (hcont : ∀ (Z2 : Zt) (q2 : Sg), (Z2 = Z ∨ Z2 = zl_more Z) → lc_I8 h L x0 a0 t0 tb fa mm q2 → WA l dC dI h L room_1 7 Z2 q2 775 [(4, .int i), (3, .ref ot), (2, .ref a0), (1, .ref x0), (0, .ref b)] []) : WA l dC dI h L room_1 7 Z q 548 [(4, .int i), (3, .ref ot), (2, .ref a0), (1, .ref x0), (0, .ref b)] [] := by
  obtain ⟨hI, uu, su, o0, ob, euu, esu, hdz, hu0, ⟨eo0, eob⟩, hout0⟩ := hI
  obtain ⟨hI, etb, efa, hT0, hR0⟩ := hI
  obtain ⟨hV, mN, mF0, mU0, mS0, mL0, et0, em, hte, hfe⟩ := hI
  obtain ⟨ht0, kt0, lt0⟩ : t0 ∈ L ∧ h.1 t0 = 7 ∧ h.2.1 t0 = 1 := by obtain ⟨r9, e9, z1, z2, z3⟩ := hV.refn (t := 7) (n := 1) hx0 kx0 0 rfl (by decide) rfl (by decide); rw [← et0, e9]; exact ⟨z1, z2, z3⟩
  obtain ⟨m1, xm1⟩ : ∃ z, z = mm 1 := ⟨_, rfl⟩
  have em1 : q.2.2.1 a0 1 = m1 := by rw [xm1]; exact em 1 (by decide)
  obtain ⟨hm1, km1, lm1⟩ : m1 ∈ L ∧ h.1 m1 = 111 ∧ h.2.1 m1 = 440 := by obtain ⟨r9, e9, z1, z2, z3⟩ := hV.refn (t := 111) (n := 440) ha0 ka0 1 rfl (by decide) rfl (by decide); rw [← em1, e9]; exact ⟨z1, z2, z3⟩
  obtain ⟨m3, xm3⟩ : ∃ z, z = mm 3 := ⟨_, rfl⟩
  have em3 : q.2.2.1 a0 3 = m3 := by rw [xm3]; exact em 3 (by decide)
  obtain ⟨hm3, km3, lm3⟩ : m3 ∈ L ∧ h.1 m3 = 113 ∧ h.2.1 m3 = 500 := by obtain ⟨r9, e9, z1, z2, z3⟩ := hV.refn (t := 113) (n := 500) ha0 ka0 3 rfl (by decide) rfl (by decide); rw [← em3, e9]; exact ⟨z1, z2, z3⟩
  obtain ⟨m16, xm16⟩ : ∃ z, z = mm 16 := ⟨_, rfl⟩
  have em16 : q.2.2.1 a0 16 = m16 := by rw [xm16]; exact em 16 (by decide)
  obtain ⟨hm16, km16, lm16⟩ : m16 ∈ L ∧ h.1 m16 = 226 ∧ h.2.1 m16 = 6 := by obtain ⟨r9, e9, z1, z2, z3⟩ := hV.refn (t := 226) (n := 6) ha0 ka0 16 rfl (by decide) rfl (by decide); rw [← em16, e9]; exact ⟨z1, z2, z3⟩
  obtain ⟨m17, xm17⟩ : ∃ z, z = mm 17 := ⟨_, rfl⟩
  have em17 : q.2.2.1 a0 17 = m17 := by rw [xm17]; exact em 17 (by decide)
  obtain ⟨hm17, km17, lm17⟩ : m17 ∈ L ∧ h.1 m17 = 227 ∧ h.2.1 m17 = 30 := by obtain ⟨r9, e9, z1, z2, z3⟩ := hV.refn (t := 227) (n := 30) ha0 ka0 17 rfl (by decide) rfl (by decide); rw [← em17, e9]; exact ⟨z1, z2, z3⟩
  obtain ⟨m18, xm18⟩ : ∃ z, z = mm 18 := ⟨_, rfl⟩
  have em18 : q.2.2.1 a0 18 = m18 := by rw [xm18]; exact em 18 (by decide)
  obtain ⟨hm18, km18, lm18⟩ : m18 ∈ L ∧ h.1 m18 = 128 ∧ h.2.1 m18 = 6 := by obtain ⟨r9, e9, z1, z2, z3⟩ := hV.refn (t := 128) (n := 6) ha0 ka0 18 rfl (by decide) rfl (by decide); rw [← em18, e9]; exact ⟨z1, z2, z3⟩
  obtain ⟨m19, xm19⟩ : ∃ z, z = mm 19 := ⟨_, rfl⟩
  have em19 : q.2.2.1 a0 19 = m19 := by rw [xm19]; exact em 19 (by decide)
  obtain ⟨hm19, km19, lm19⟩ : m19 ∈ L ∧ h.1 m19 = 129 ∧ h.2.1 m19 = 30 := by obtain ⟨r9, e9, z1, z2, z3⟩ := hV.refn (t := 129) (n := 30) ha0 ka0 19 rfl (by decide) rfl (by decide); rw [← em19, e9]; exact ⟨z1, z2, z3⟩
  obtain ⟨m21, xm21⟩ : ∃ z, z = mm 21 := ⟨_, rfl⟩
  have em21 : q.2.2.1 a0 21 = m21 := by rw [xm21]; exact em 21 (by decide)
  obtain ⟨hm21, km21, lm21⟩ : m21 ∈ L ∧ h.1 m21 = 131 ∧ h.2.1 m21 = 80 := by obtain ⟨r9, e9, z1, z2, z3⟩ := hV.refn (t := 131) (n := 80) ha0 ka0 21 rfl (by decide) rfl (by decide); rw [← em21, e9]; exact ⟨z1, z2, z3⟩
  obtain ⟨m23, xm23⟩ : ∃ z, z = mm 23 := ⟨_, rfl⟩
  have em23 : q.2.2.1 a0 23 = m23 := by rw [xm23]; exact em 23 (by decide)
  obtain ⟨hm23, km23, lm23⟩ : m23 ∈ L ∧ h.1 m23 = 133 ∧ h.2.1 m23 = 9 := by obtain ⟨r9, e9, z1, z2, z3⟩ := hV.refn (t := 133) (n := 9) ha0 ka0 23 rfl (by decide) rfl (by decide); rw [← em23, e9]; exact ⟨z1, z2, z3⟩
  obtain ⟨m24, xm24⟩ : ∃ z, z = mm 24 := ⟨_, rfl⟩
  have em24 : q.2.2.1 a0 24 = m24 := by rw [xm24]; exact em 24 (by decide)
  obtain ⟨hm24, km24, lm24⟩ : m24 ∈ L ∧ h.1 m24 = 134 ∧ h.2.1 m24 = 108 := by obtain ⟨r9, e9, z1, z2, z3⟩ := hV.refn (t := 134) (n := 108) ha0 ka0 24 rfl (by decide) rfl (by decide); rw [← em24, e9]; exact ⟨z1, z2, z3⟩
  obtain ⟨m25, xm25⟩ : ∃ z, z = mm 25 := ⟨_, rfl⟩
  have em25 : q.2.2.1 a0 25 = m25 := by rw [xm25]; exact em 25 (by decide)
  obtain ⟨hm25, km25, lm25⟩ : m25 ∈ L ∧ h.1 m25 = 135 ∧ h.2.1 m25 = 108 := by obtain ⟨r9, e9, z1, z2, z3⟩ := hV.refn (t := 135) (n := 108) ha0 ka0 25 rfl (by decide) rfl (by decide); rw [← em25, e9]; exact ⟨z1, z2, z3⟩
  obtain ⟨m26, xm26⟩ : ∃ z, z = mm 26 := ⟨_, rfl⟩
  have em26 : q.2.2.1 a0 26 = m26 := by rw [xm26]; exact em 26 (by decide)
  obtain ⟨hm26, km26, lm26⟩ : m26 ∈ L ∧ h.1 m26 = 136 ∧ h.2.1 m26 = 108 := by obtain ⟨r9, e9, z1, z2, z3⟩ := hV.refn (t := 136) (n := 108) ha0 ka0 26 rfl (by decide) rfl (by decide); rw [← em26, e9]; exact ⟨z1, z2, z3⟩
  obtain ⟨m27, xm27⟩ : ∃ z, z = mm 27 := ⟨_, rfl⟩
  have em27 : q.2.2.1 a0 27 = m27 := by rw [xm27]; exact em 27 (by decide)
  obtain ⟨hm27, km27, lm27⟩ : m27 ∈ L ∧ h.1 m27 = 137 ∧ h.2.1 m27 = 9 := by obtain ⟨r9, e9, z1, z2, z3⟩ := hV.refn (t := 137) (n := 9) ha0 ka0 27 rfl (by decide) rfl (by decide); rw [← em27, e9]; exact ⟨z1, z2, z3⟩
  obtain ⟨m28, xm28⟩ : ∃ z, z = mm 28 := ⟨_, rfl⟩
  have em28 : q.2.2.1 a0 28 = m28 := by rw [xm28]; exact em 28 (by decide)
  obtain ⟨hm28, km28, lm28⟩ : m28 ∈ L ∧ h.1 m28 = 138 ∧ h.2.1 m28 = 540 := by obtain ⟨r9, e9, z1, z2, z3⟩ := hV.refn (t := 138) (n := 540) ha0 ka0 28 rfl (by decide) rfl (by decide); rw [← em28, e9]; exact ⟨z1, z2, z3⟩
  obtain ⟨m29, xm29⟩ : ∃ z, z = mm 29 := ⟨_, rfl⟩
  have em29 : q.2.2.1 a0 29 = m29 := by rw [xm29]; exact em 29 (by decide)
  obtain ⟨hm29, km29, lm29⟩ : m29 ∈ L ∧ h.1 m29 = 139 ∧ h.2.1 m29 = 540 := by obtain ⟨r9, e9, z1, z2, z3⟩ := hV.refn (t := 139) (n := 540) ha0 ka0 29 rfl (by decide) rfl (by decide); rw [← em29, e9]; exact ⟨z1, z2, z3⟩
  obtain ⟨m30, xm30⟩ : ∃ z, z = mm 30 := ⟨_, rfl⟩
  have em30 : q.2.2.1 a0 30 = m30 := by rw [xm30]; exact em 30 (by decide)
  obtain ⟨hm30, km30, lm30⟩ : m30 ∈ L ∧ h.1 m30 = 140 ∧ h.2.1 m30 = 540 := by obtain ⟨r9, e9, z1, z2, z3⟩ := hV.refn (t := 140) (n := 540) ha0 ka0 30 rfl (by decide) rfl (by decide); rw [← em30, e9]; exact ⟨z1, z2, z3⟩
  obtain ⟨m34, xm34⟩ : ∃ z, z = mm 34 := ⟨_, rfl⟩
  have em34 : q.2.2.1 a0 34 = m34 := by rw [xm34]; exact em 34 (by decide)
  obtain ⟨hm34, km34, lm34⟩ : m34 ∈ L ∧ h.1 m34 = 144 ∧ h.2.1 m34 = 4 := by obtain ⟨r9, e9, z1, z2, z3⟩ := hV.refn (t := 144) (n := 4) ha0 ka0 34 rfl (by decide) rfl (by decide); rw [← em34, e9]; exact ⟨z1, z2, z3⟩
  obtain ⟨m35, xm35⟩ : ∃ z, z = mm 35 := ⟨_, rfl⟩
  have em35 : q.2.2.1 a0 35 = m35 := by rw [xm35]; exact em 35 (by decide)
  obtain ⟨hm35, km35, lm35⟩ : m35 ∈ L ∧ h.1 m35 = 245 ∧ h.2.1 m35 = 12 := by obtain ⟨r9, e9, z1, z2, z3⟩ := hV.refn (t := 245) (n := 12) ha0 ka0 35 rfl (by decide) rfl (by decide); rw [← em35, e9]; exact ⟨z1, z2, z3⟩
  obtain ⟨m40, xm40⟩ : ∃ z, z = mm 40 := ⟨_, rfl⟩
  have em40 : q.2.2.1 a0 40 = m40 := by rw [xm40]; exact em 40 (by decide)
  obtain ⟨hm40, km40, lm40⟩ : m40 ∈ L ∧ h.1 m40 = 150 ∧ h.2.1 m40 = 2400 := by obtain ⟨r9, e9, z1, z2, z3⟩ := hV.refn (t := 150) (n := 2400) ha0 ka0 40 rfl (by decide) rfl (by decide); rw [← em40, e9]; exact ⟨z1, z2, z3⟩
  obtain ⟨m41, xm41⟩ : ∃ z, z = mm 41 := ⟨_, rfl⟩
  have em41 : q.2.2.1 a0 41 = m41 := by rw [xm41]; exact em 41 (by decide)
  obtain ⟨hm41, km41, lm41⟩ : m41 ∈ L ∧ h.1 m41 = 151 ∧ h.2.1 m41 = 12 := by obtain ⟨r9, e9, z1, z2, z3⟩ := hV.refn (t := 151) (n := 12) ha0 ka0 41 rfl (by decide) rfl (by decide); rw [← em41, e9]; exact ⟨z1, z2, z3⟩
  obtain ⟨m42, xm42⟩ : ∃ z, z = mm 42 := ⟨_, rfl⟩
  have em42 : q.2.2.1 a0 42 = m42 := by rw [xm42]; exact em 42 (by decide)
  obtain ⟨hm42, km42, lm42⟩ : m42 ∈ L ∧ h.1 m42 = 152 ∧ h.2.1 m42 = 12 := by obtain ⟨r9, e9, z1, z2, z3⟩ := hV.refn (t := 152) (n := 12) ha0 ka0 42 rfl (by decide) rfl (by decide); rw [← em42, e9]; exact ⟨z1, z2, z3⟩
  obtain ⟨m43, xm43⟩ : ∃ z, z = mm 43 := ⟨_, rfl⟩
  have em43 : q.2.2.1 a0 43 = m43 := by rw [xm43]; exact em 43 (by decide)
  obtain ⟨hm43, km43, lm43⟩ : m43 ∈ L ∧ h.1 m43 = 153 ∧ h.2.1 m43 = 12 := by obtain ⟨r9, e9, z1, z2, z3⟩ := hV.refn (t := 153) (n := 12) ha0 ka0 43 rfl (by decide) rfl (by decide); rw [← em43, e9]; exact ⟨z1, z2, z3⟩
  obtain ⟨m44, xm44⟩ : ∃ z, z = mm 44 := ⟨_, rfl⟩
  have em44 : q.2.2.1 a0 44 = m44 := by rw [xm44]; exact em 44 (by decide)
  obtain ⟨hm44, km44, lm44⟩ : m44 ∈ L ∧ h.1 m44 = 154 ∧ h.2.1 m44 = 12 := by obtain ⟨r9, e9, z1, z2, z3⟩ := hV.refn (t := 154) (n := 12) ha0 ka0 44 rfl (by decide) rfl (by decide); rw [← em44, e9]; exact ⟨z1, z2, z3⟩
  obtain ⟨m46, xm46⟩ : ∃ z, z = mm 46 := ⟨_, rfl⟩
  have em46 : q.2.2.1 a0 46 = m46 := by rw [xm46]; exact em 46 (by decide)
  obtain ⟨hm46, km46, lm46⟩ : m46 ∈ L ∧ h.1 m46 = 156 ∧ h.2.1 m46 = 144 := by obtain ⟨r9, e9, z1, z2, z3⟩ := hV.refn (t := 156) (n := 144) ha0 ka0 46 rfl (by decide) rfl (by decide); rw [← em46, e9]; exact ⟨z1, z2, z3⟩
  obtain ⟨m47, xm47⟩ : ∃ z, z = mm 47 := ⟨_, rfl⟩
  have em47 : q.2.2.1 a0 47 = m47 := by rw [xm47]; exact em 47 (by decide)
  obtain ⟨hm47, km47, lm47⟩ : m47 ∈ L ∧ h.1 m47 = 157 ∧ h.2.1 m47 = 4096 := by obtain ⟨r9, e9, z1, z2, z3⟩ := hV.refn (t := 157) (n := 4096) ha0 ka0 47 rfl (by decide) rfl (by decide); rw [← em47, e9]; exact ⟨z1, z2, z3⟩
  obtain ⟨m48, xm48⟩ : ∃ z, z = mm 48 := ⟨_, rfl⟩
  have em48 : q.2.2.1 a0 48 = m48 := by rw [xm48]; exact em 48 (by decide)
  obtain ⟨hm48, km48, lm48⟩ : m48 ∈ L ∧ h.1 m48 = 158 ∧ h.2.1 m48 = 12 := by obtain ⟨r9, e9, z1, z2, z3⟩ := hV.refn (t := 158) (n := 12) ha0 ka0 48 rfl (by decide) rfl (by decide); rw [← em48, e9]; exact ⟨z1, z2, z3⟩
  have mF : mv_F m18 m19 q := by rw [xm18, xm19]; exact mF0
  have mU : mv_U m17 q := by rw [xm17]; exact mU0
  have mS : mv_S m23 m26 m28 m29 q := by rw [xm23, xm26, xm28, xm29]; exact mS0
  have mL : mv_L m40 m41 m44 a0 q := by rw [xm40, xm41, xm44]; exact mL0
  have hF : sx_fr h L (fun _ => True) q q := sx_fr.rf
  obtain ⟨htb, ktb, ltb⟩ : tb ∈ L ∧ h.1 tb = 300 ∧ h.2.1 tb = 440 := by obtain ⟨r9, e9, z1, z2, z3⟩ := hV.refn (t := 300) (n := 440) ht0 kt0 0 rfl (by decide) (by rw [lt0]; rfl) (by decide); rw [← etb, e9]; exact ⟨z1, z2, z3⟩
  obtain ⟨hfa, kfa, lfa⟩ : fa ∈ L ∧ h.1 fa = 403 ∧ h.2.1 fa = 12 := by obtain ⟨r9, e9, z1, z2, z3⟩ := hV.refn (t := 403) (n := 12) hx0 kx0 9 rfl (by decide) rfl (by decide); rw [← efa, e9]; exact ⟨z1, z2, z3⟩
  have hT : ty_T (q.2.2.2.1 tb) (q.2.2.2.1 m1) (q.1 t0 1).toInt.toNat := by rw [xm1]; exact hT0
  have hR : lc_R h fa m44 x0 q := by rw [xm44]; exact hR0
  have gx14 : (0 : Int) ≤ (q.1 x0 14).toInt ∧ (q.1 x0 14).toInt ≤ 12 := hV.int hx0 kx0 14
  have gt1 : (0 : Int) ≤ (q.1 t0 1).toInt ∧ (q.1 t0 1).toInt ≤ 440 := by have z9 := hV.int ht0 kt0 1; rw [etb, ltb] at z9; exact z9
  obtain ⟨huu, kuu⟩ : uu ∈ L ∧ h.1 uu = 9 := by obtain ⟨r9, e9, z1, z2⟩ := hV.ref (t := 9) hx0 kx0 11 rfl (by decide); rw [← euu, e9]; exact ⟨z1, z2⟩
  obtain ⟨hsu, ksu⟩ : su ∈ L ∧ h.1 su = 9 := by obtain ⟨r9, e9, z1, z2⟩ := hV.ref (t := 9) hx0 kx0 12 rfl (by decide); rw [← esu, e9]; exact ⟨z1, z2⟩
  have nuu_su : ¬ uu = su := hdz.1
  obtain ⟨uc, euc⟩ : ∃ z, q.2.2.1 uu 1 = z := ⟨_, rfl⟩
  obtain ⟨huc, kuc, luc⟩ : uc ∈ L ∧ h.1 uc = 101 ∧ h.2.1 uc = 3 := by obtain ⟨r9, e9, z1, z2, z3⟩ := hV.refn (t := 101) (n := 3) huu kuu 1 rfl (by decide) rfl (by decide); rw [← euc, e9]; exact ⟨z1, z2, z3⟩
  obtain ⟨un, eun⟩ : ∃ z, q.2.2.1 uu 2 = z := ⟨_, rfl⟩
  obtain ⟨hun, kun, lun⟩ : un ∈ L ∧ h.1 un = 202 ∧ h.2.1 un = 15 := by obtain ⟨r9, e9, z1, z2, z3⟩ := hV.refn (t := 202) (n := 15) huu kuu 2 rfl (by decide) rfl (by decide); rw [← eun, e9]; exact ⟨z1, z2, z3⟩
  obtain ⟨uf, euf⟩ : ∃ z, q.2.2.1 uu 3 = z := ⟨_, rfl⟩
  obtain ⟨huf, kuf, luf⟩ : uf ∈ L ∧ h.1 uf = 102 ∧ h.2.1 uf = 15 := by obtain ⟨r9, e9, z1, z2, z3⟩ := hV.refn (t := 102) (n := 15) huu kuu 3 rfl (by decide) rfl (by decide); rw [← euf, e9]; exact ⟨z1, z2, z3⟩
  obtain ⟨uw, euw⟩ : ∃ z, q.2.2.1 uu 4 = z := ⟨_, rfl⟩
  obtain ⟨huw, kuw, luw⟩ : uw ∈ L ∧ h.1 uw = 103 ∧ h.2.1 uw = 15 := by obtain ⟨r9, e9, z1, z2, z3⟩ := hV.refn (t := 103) (n := 15) huu kuu 4 rfl (by decide) rfl (by decide); rw [← euw, e9]; exact ⟨z1, z2, z3⟩
  have hu : lc_u8 (q.1 uu 6) (q.1 a0 20) (q.2.2.2.1 uc) (q.2.2.2.1 m18) (q.2.2.2.1 uf) (q.2.2.2.1 m19) (q.2.2.2.1 uw) (q.2.2.2.2 un) (q.2.2.2.2 m17) := by rw [← euc, ← euf, ← euw, ← eun, xm17, xm18, xm19]; exact hu0
  obtain ⟨ho0, ko0, lo0⟩ : o0 ∈ L ∧ h.1 o0 = 7 ∧ h.2.1 o0 = 2 := by obtain ⟨r9, e9, z1, z2, z3⟩ := hV.refn (t := 7) (n := 2) hx0 kx0 1 rfl (by decide) rfl (by decide); rw [← eo0, e9]; exact ⟨z1, z2, z3⟩
  obtain ⟨hob, kob, lob⟩ : ob ∈ L ∧ h.1 ob = 300 ∧ h.2.1 ob = 59 := by obtain ⟨r9, e9, z1, z2, z3⟩ := hV.refn (t := 300) (n := 59) ho0 ko0 0 rfl (by decide) (by rw [lo0]; rfl) (by decide); rw [← eob, e9]; exact ⟨z1, z2, z3⟩
  have nt0_o0 : ¬ t0 = o0 := fun z9 => absurd (z9 ▸ lt0 : h.2.1 o0 = 1) (by rw [lo0]; decide)
  have ntb_ob : ¬ tb = ob := fun z9 => absurd (z9 ▸ ltb : h.2.1 ob = 440) (by rw [lob]; decide)
  have hout : lc_o (q.1 o0 1) (q.1 a0 22) (q.2.2.2.1 ob) (q.2.2.2.1 m21) := by rw [xm21]; exact hout0
  refine wa_aload_n B dL_law_548 rfl 3 rfl ?_
  refine wa_aload_n B dL_law_549 rfl 4 rfl ?_
  refine wa_iload B dL_law_550 0 rfl ?_
  refine wa_iconst B 1 dL_law_552 (by decide) ?_
  refine wa_iadd B dL_law_553 (fun v_1 ev_1 => ?_)
  subst ev_1
  have t_2 : (i + 1).toInt = i.toInt + 1 := by have b0 := zx_bd i; exact zx_add (show (-2147483648 : Int) ≤ i.toInt + 1 by omega) (show i.toInt + 1 < (2147483648 : Int) by omega)
  refine wa_sld B hX hbl hbA (i := (i + 1)) (show 0 ≤ (i + 1).toInt by omega) (show (i + 1).toInt < (N : Int) by omega) dL_law_554 ?_
  refine wa_aload_n B dL_law_555 rfl 4 rfl ?_
  refine wa_iload B dL_law_556 0 rfl ?_
  refine wa_iconst B 2 dL_law_558 (by decide) ?_
  refine wa_iadd B dL_law_559 (fun v_3 ev_3 => ?_)
  subst ev_3
  have t_4 : (i + 2).toInt = i.toInt + 2 := by have b0 := zx_bd i; exact zx_add (show (-2147483648 : Int) ≤ i.toInt + 2 by omega) (show i.toInt + 2 < (2147483648 : Int) by omega)
  refine wa_sld B hX hbl hbA (i := (i + 2)) (show 0 ≤ (i + 2).toInt by omega) (show (i + 2).toInt < (N : Int) by omega) dL_law_560 ?_
  refine wa_aload_n B dL_law_561 rfl 1 rfl ?_
  refine wa_callW B (As := [.ref x0, .int ((xs ((i + 1) : Int32).toNatClampNeg)), .int ((xs ((i + 2) : Int32).toNatClampNeg)), .ref ot]) (rest := []) (kl6_digit l hlst dC dI h L hN q hV (a0 := x0) hx0 kx0 (t0 := t0) et0 (tb := tb) etb (fa := fa) efa (uu := uu) euu (o0 := o0) eo0 (ob := ob) eob ((xs ((i + 1) : Int32).toNatClampNeg)) ((xs ((i + 2) : Int32).toNatClampNeg)) (ot := ot) hot kot lot) (vx_cwSW 4 B.1.2.2.2.2 gL_law_L_digit rfl rfl rfl (by decide +kernel) ⟨Nat.le_of_ble_eq_true rfl, Nat.le_of_ble_eq_true rfl⟩) rfl rfl (Nat.le_of_ble_eq_true rfl) dL_law_562 hroom (fun r_6 q_5 w_7 => ?_)
  obtain ⟨hV_q_5, h2_q_5, h5_q_5, h6_q_5, h7_q_5, h8_q_5, h9_q_5, hA_q_5, hO_q_5⟩ := w_7
  have B := zl_moreB B
  have mN_q_5 : mv_N a0 q_5 := mv_N.eq (h2_q_5.I ha0 (show ¬ (sx_c6 h a0) from (sx_c6.n ka0 (by decide))) 8) (h2_q_5.J ha0 (show ¬ (sx_c6 h a0) from (sx_c6.n ka0 (by decide))) 11) mN
  have mF_q_5 : mv_F m18 m19 q_5 := mv_F.eq (h2_q_5.G hm18 (show ¬ (sx_c6 h m18) from (sx_c6.n km18 (by decide))) (by rw [km18]; decide)) (h2_q_5.G hm19 (show ¬ (sx_c6 h m19) from (sx_c6.n km19 (by decide))) (by rw [km19]; decide)) mF
  have mU_q_5 : mv_U m17 q_5 := mv_U.eq (h2_q_5.Lg hm17 (show ¬ (sx_c6 h m17) from (sx_c6.n km17 (by decide))) (by rw [km17]; decide)) mU
  have mS_q_5 : mv_S m23 m26 m28 m29 q_5 := mv_S.eq (h2_q_5.G hm23 (show ¬ (sx_c6 h m23) from (sx_c6.n km23 (by decide))) (by rw [km23]; decide)) (h2_q_5.G hm26 (show ¬ (sx_c6 h m26) from (sx_c6.n km26 (by decide))) (by rw [km26]; decide)) (h2_q_5.G hm28 (show ¬ (sx_c6 h m28) from (sx_c6.n km28 (by decide))) (by rw [km28]; decide)) (h2_q_5.G hm29 (show ¬ (sx_c6 h m29) from (sx_c6.n km29 (by decide))) (by rw [km29]; decide)) mS
  have mL_q_5 : mv_L m40 m41 m44 a0 q_5 := mv_L.eq (h2_q_5.G hm40 (show ¬ (sx_c6 h m40) from (sx_c6.n km40 (by decide))) (by rw [km40]; decide)) (h2_q_5.G hm41 (show ¬ (sx_c6 h m41) from (sx_c6.n km41 (by decide))) (by rw [km41]; decide)) (h2_q_5.G hm44 (show ¬ (sx_c6 h m44) from (sx_c6.n km44 (by decide))) (by rw [km44]; decide)) (h2_q_5.I ha0 (show ¬ (sx_c6 h a0) from (sx_c6.n ka0 (by decide))) 45) mL
  have hB_q_5 := h9_q_5.trans esu
  refine wa_istore B [(5, .int r_6), (4, .int i), (3, .ref ot), (2, .ref a0), (1, .ref x0), (0, .ref b)] dL_law_565 (by decide) rfl ?_
  refine wa_aload_n B dL_law_567 rfl 3 rfl ?_
  refine wa_aload_n B dL_law_568 rfl 5 rfl ?_
  refine wa_iload B dL_law_569 1 rfl ?_
  refine wa_iconst B 1 dL_law_571 (by decide) ?_
  refine wa_iadd B dL_law_572 (fun v_8 ev_8 => ?_)
  subst ev_8
  refine wa_sld B hX hbl hbA (i := (i + 1)) (show 0 ≤ (i + 1).toInt by omega) (show (i + 1).toInt < (N : Int) by omega) dL_law_573 ?_
  refine wa_aload_n B dL_law_574 rfl 5 rfl ?_
  refine wa_iload B dL_law_575 1 rfl ?_
  refine wa_iconst B 2 dL_law_577 (by decide) ?_
  refine wa_iadd B dL_law_578 (fun v_9 ev_9 => ?_)
  subst ev_9
  refine wa_sld B hX hbl hbA (i := (i + 2)) (show 0 ≤ (i + 2).toInt by omega) (show (i + 2).toInt < (N : Int) by omega) dL_law_579 ?_
  have z_10 : q_5.2.2.1 a0 18 = m18 := (h2_q_5.R ha0 (fun z9 => absurd z9.2 (by omega)) 18).trans (em18)
  have z_11 : q_5.2.2.1 a0 19 = m19 := (h2_q_5.R ha0 (fun z9 => absurd z9.2 (by omega)) 19).trans (em19)
  have z_12 : q_5.2.2.1 a0 23 = m23 := (h2_q_5.R ha0 (fun z9 => absurd z9.2 (by omega)) 23).trans (em23)
  have z_13 : q_5.2.2.1 a0 25 = m25 := (h2_q_5.R ha0 (fun z9 => absurd z9.2 (by omega)) 25).trans (em25)
  have z_14 : q_5.2.2.1 a0 26 = m26 := (h2_q_5.R ha0 (fun z9 => absurd z9.2 (by omega)) 26).trans (em26)
  have z_15 : q_5.2.2.1 a0 27 = m27 := (h2_q_5.R ha0 (fun z9 => absurd z9.2 (by omega)) 27).trans (em27)
  have z_16 : q_5.2.2.1 a0 28 = m28 := (h2_q_5.R ha0 (fun z9 => absurd z9.2 (by omega)) 28).trans (em28)
  have z_17 : q_5.2.2.1 a0 29 = m29 := (h2_q_5.R ha0 (fun z9 => absurd z9.2 (by omega)) 29).trans (em29)
  have z_18 : q_5.2.2.1 a0 30 = m30 := (h2_q_5.R ha0 (fun z9 => absurd z9.2 (by omega)) 30).trans (em30)
  have z_19 : q_5.2.2.1 a0 34 = m34 := (h2_q_5.R ha0 (fun z9 => absurd z9.2 (by omega)) 34).trans (em34)
  have z_20 : q_5.2.2.1 a0 35 = m35 := (h2_q_5.R ha0 (fun z9 => absurd z9.2 (by omega)) 35).trans (em35)
  refine wa_callVi B (x := (RX12, TX12, 51)) (As := [.int ((xs ((i + 1) : Int32).toNatClampNeg)), .int ((xs ((i + 2) : Int32).toNatClampNeg))]) (rest := []) (k_X12_digit l dC dI h L hN q_5 hV_q_5 (a0 := a0) ha0 ka0 ((xs ((i + 1) : Int32).toNatClampNeg)) ((xs ((i + 2) : Int32).toNatClampNeg)) (m18 := m18) z_10 (m19 := m19) z_11 (m23 := m23) z_12 (m25 := m25) z_13 (m26 := m26) z_14 (m27 := m27) z_15 (m28 := m28) z_16 (m29 := m29) z_17 (m30 := m30) z_18 (m34 := m34) z_19 (m35 := m35) z_20 mS_q_5 ) (cwV 2 B.1.2.2.2.2 gL_law_X12_digit rfl rfl rfl (by decide +kernel) ⟨Nat.le_of_ble_eq_true rfl, Nat.le_of_ble_eq_true rfl⟩) ha0 ka0 (by decide) rfl rfl rfl (Nat.le_of_ble_eq_true rfl) dL_law_580 (fun r_22 q_21 w_23 => ?_)
  obtain ⟨hV_q_21, h2_q_21, h3_q_21, mS_q_21⟩ := w_23
  have mN_q_21 : mv_N a0 q_21 := mv_N.eq (h3_q_21.1 8 (by decide)) (h3_q_21.2 11 (by decide)) mN_q_5
  have mF_q_21 : mv_F m18 m19 q_21 := mv_F.eq (h2_q_21.G hm18 (show ¬ (h.1 m18 = 12 ∨ h.1 m18 = 144 ∨ h.1 m18 = 245) from (fun z => z.elim (fun z => absurd (z.symm.trans km18) (by decide)) (fun z => z.elim (fun z => absurd (z.symm.trans km18) (by decide)) (fun z => absurd (z.symm.trans km18) (by decide))))) (by rw [km18]; decide)) (h2_q_21.G hm19 (show ¬ (h.1 m19 = 12 ∨ h.1 m19 = 144 ∨ h.1 m19 = 245) from (fun z => z.elim (fun z => absurd (z.symm.trans km19) (by decide)) (fun z => z.elim (fun z => absurd (z.symm.trans km19) (by decide)) (fun z => absurd (z.symm.trans km19) (by decide))))) (by rw [km19]; decide)) mF_q_5
  have mU_q_21 : mv_U m17 q_21 := mv_U.eq (h2_q_21.Lg hm17 (show ¬ (h.1 m17 = 12 ∨ h.1 m17 = 144 ∨ h.1 m17 = 245) from (fun z => z.elim (fun z => absurd (z.symm.trans km17) (by decide)) (fun z => z.elim (fun z => absurd (z.symm.trans km17) (by decide)) (fun z => absurd (z.symm.trans km17) (by decide))))) (by rw [km17]; decide)) mU_q_5
  have mL_q_21 : mv_L m40 m41 m44 a0 q_21 := mv_L.eq (h2_q_21.G hm40 (show ¬ (h.1 m40 = 12 ∨ h.1 m40 = 144 ∨ h.1 m40 = 245) from (fun z => z.elim (fun z => absurd (z.symm.trans km40) (by decide)) (fun z => z.elim (fun z => absurd (z.symm.trans km40) (by decide)) (fun z => absurd (z.symm.trans km40) (by decide))))) (by rw [km40]; decide)) (h2_q_21.G hm41 (show ¬ (h.1 m41 = 12 ∨ h.1 m41 = 144 ∨ h.1 m41 = 245) from (fun z => z.elim (fun z => absurd (z.symm.trans km41) (by decide)) (fun z => z.elim (fun z => absurd (z.symm.trans km41) (by decide)) (fun z => absurd (z.symm.trans km41) (by decide))))) (by rw [km41]; decide)) (h2_q_21.G hm44 (show ¬ (h.1 m44 = 12 ∨ h.1 m44 = 144 ∨ h.1 m44 = 245) from (fun z => z.elim (fun z => absurd (z.symm.trans km44) (by decide)) (fun z => z.elim (fun z => absurd (z.symm.trans km44) (by decide)) (fun z => absurd (z.symm.trans km44) (by decide))))) (by rw [km44]; decide)) (h3_q_21.1 45 (by decide)) mL_q_5
  refine wa_istore B [(6, .int r_22), (5, .int r_6), (4, .int i), (3, .ref ot), (2, .ref a0), (1, .ref x0), (0, .ref b)] dL_law_583 (by decide) rfl ?_
  refine wa_goto B 775 dL_law_585 (by decide) ?_
  have z_24 : q_21.1 a0 2 = q.1 a0 2 := (h3_q_21.1 2 (by decide)).trans (h2_q_5.I ha0 (show ¬ (sx_c6 h a0) from (sx_c6.n ka0 (by decide))) 2)
  have y_25 : (q_21.1 a0 2).toInt = (q.1 a0 2).toInt := by rw [z_24]
  have z_26 : q_21.1 a0 45 = q.1 a0 45 := (h3_q_21.1 45 (by decide)).trans (h2_q_5.I ha0 (show ¬ (sx_c6 h a0) from (sx_c6.n ka0 (by decide))) 45)
  have y_27 : (q_21.1 a0 45).toInt = (q.1 a0 45).toInt := by rw [z_26]
  have z_28 : q_21.1 t0 1 = q_5.1 t0 1 := h2_q_21.I ht0 (show ¬ (h.1 t0 = 12 ∨ h.1 t0 = 144 ∨ h.1 t0 = 245) from (fun z => z.elim (fun z => absurd (z.symm.trans kt0) (by decide)) (fun z => z.elim (fun z => absurd (z.symm.trans kt0) (by decide)) (fun z => absurd (z.symm.trans kt0) (by decide))))) 1
  have y_29 : (q_21.1 t0 1).toInt = (q_5.1 t0 1).toInt := by rw [z_28]
  have z_30 : q_21.1 x0 14 = q_5.1 x0 14 := h2_q_21.I hx0 (show ¬ (h.1 x0 = 12 ∨ h.1 x0 = 144 ∨ h.1 x0 = 245) from (fun z => z.elim (fun z => absurd (z.symm.trans kx0) (by decide)) (fun z => z.elim (fun z => absurd (z.symm.trans kx0) (by decide)) (fun z => absurd (z.symm.trans kx0) (by decide))))) 14
  have y_31 : (q_21.1 x0 14).toInt = (q_5.1 x0 14).toInt := by rw [z_30]
  have z_32 : q_21.2.2.1 x0 0 = t0 := (h2_q_21.R hx0 (show ¬ ((h.1 x0 = 12 ∨ h.1 x0 = 144 ∨ h.1 x0 = 245) ∧ (h.1 x0 = 8 ∨ h.1 x0 = 11)) from fun z9 => (show ¬ (h.1 x0 = 12 ∨ h.1 x0 = 144 ∨ h.1 x0 = 245) from (fun z => z.elim (fun z => absurd (z.symm.trans kx0) (by decide)) (fun z => z.elim (fun z => absurd (z.symm.trans kx0) (by decide)) (fun z => absurd (z.symm.trans kx0) (by decide))))) z9.1) 0).trans (h5_q_5)
  have z_33 : q_21.2.2.1 t0 0 = tb := (h2_q_21.R ht0 (fun z9 => absurd z9.2 (by omega)) 0).trans ((h2_q_5.R ht0 (fun z9 => absurd z9.2 (by omega)) 0).trans (etb))
  have z_34 : q_21.2.2.1 x0 9 = fa := (h2_q_21.R hx0 (show ¬ ((h.1 x0 = 12 ∨ h.1 x0 = 144 ∨ h.1 x0 = 245) ∧ (h.1 x0 = 8 ∨ h.1 x0 = 11)) from fun z9 => (show ¬ (h.1 x0 = 12 ∨ h.1 x0 = 144 ∨ h.1 x0 = 245) from (fun z => z.elim (fun z => absurd (z.symm.trans kx0) (by decide)) (fun z => z.elim (fun z => absurd (z.symm.trans kx0) (by decide)) (fun z => absurd (z.symm.trans kx0) (by decide))))) z9.1) 9).trans (hA_q_5)
  have z_35 : q_21.2.2.2.1 tb = q.2.2.2.1 tb := (h2_q_21.G htb (show ¬ (h.1 tb = 12 ∨ h.1 tb = 144 ∨ h.1 tb = 245) from (fun z => z.elim (fun z => absurd (z.symm.trans ktb) (by decide)) (fun z => z.elim (fun z => absurd (z.symm.trans ktb) (by decide)) (fun z => absurd (z.symm.trans ktb) (by decide))))) (by rw [ktb]; decide)).trans (h2_q_5.G htb (show ¬ (sx_c6 h tb) from (sx_c6.t ktb ltb)) (by rw [ktb]; decide))
  have z_36 : q_21.2.2.2.1 m1 = q.2.2.2.1 m1 := (h2_q_21.G hm1 (show ¬ (h.1 m1 = 12 ∨ h.1 m1 = 144 ∨ h.1 m1 = 245) from (fun z => z.elim (fun z => absurd (z.symm.trans km1) (by decide)) (fun z => z.elim (fun z => absurd (z.symm.trans km1) (by decide)) (fun z => absurd (z.symm.trans km1) (by decide))))) (by rw [km1]; decide)).trans (h2_q_5.G hm1 (show ¬ (sx_c6 h m1) from (sx_c6.n km1 (by decide))) (by rw [km1]; decide))
  have hT9 : ty_T (q_21.2.2.2.1 tb) (q_21.2.2.2.1 m1) (q_21.1 t0 1).toInt.toNat := by rw [z_35, z_36]; exact hT.le (by omega)
  have z_37 : q_21.2.2.2.1 m44 = q.2.2.2.1 m44 := (h2_q_21.G hm44 (show ¬ (h.1 m44 = 12 ∨ h.1 m44 = 144 ∨ h.1 m44 = 245) from (fun z => z.elim (fun z => absurd (z.symm.trans km44) (by decide)) (fun z => z.elim (fun z => absurd (z.symm.trans km44) (by decide)) (fun z => absurd (z.symm.trans km44) (by decide))))) (by rw [km44]; decide)).trans (h2_q_5.G hm44 (show ¬ (sx_c6 h m44) from (sx_c6.n km44 (by decide))) (by rw [km44]; decide))
  have hR9 : lc_R h fa m44 x0 q_21 := by
    intro f hf
    obtain ⟨e9, ee9, he9, ke9⟩ := hV.elem (t := 0) hfa kfa (by decide) rfl (j := f) (by omega)
    rw [ee9, show q_21.1 e9 3 = q_5.1 e9 3 from h2_q_21.I he9 (show ¬ (h.1 e9 = 12 ∨ h.1 e9 = 144 ∨ h.1 e9 = 245) from by omega) 3, show q_5.1 e9 3 = q.1 e9 3 from h2_q_5.I he9 (show ¬ (sx_c6 h e9) from by (try unfold sx_mk at *); (try unfold sx_ck at *); (try unfold sx_c6 at *); omega) 3, ← ee9, z_37]
    exact hR f (by omega)
  refine WA.sub [2, 3, 4, 5, 6] rfl ?_
  have hR_uu : q_21.2.2.1 uu = q.2.2.1 uu := by rw [show q_21.2.2.1 uu = q_5.2.2.1 uu from h2_q_21.2 uu huu (fun z9 => absurd z9.2 (by rw [kuu]; decide)), show q_5.2.2.1 uu = q.2.2.1 uu from h2_q_5.2 uu huu (fun z9 => absurd z9.2 (by rw [kuu]; decide))]
  have hR_su : q_21.2.2.1 su = q.2.2.1 su := by rw [show q_21.2.2.1 su = q_5.2.2.1 su from h2_q_21.2 su hsu (fun z9 => absurd z9.2 (by rw [ksu]; decide)), show q_5.2.2.1 su = q.2.2.1 su from h2_q_5.2 su hsu (fun z9 => absurd z9.2 (by rw [ksu]; decide))]
  have z_38 : q_21.1 o0 1 = q.1 o0 1 := (h2_q_21.I ho0 (show ¬ (h.1 o0 = 12 ∨ h.1 o0 = 144 ∨ h.1 o0 = 245) from (fun z => z.elim (fun z => absurd (z.symm.trans ko0) (by decide)) (fun z => z.elim (fun z => absurd (z.symm.trans ko0) (by decide)) (fun z => absurd (z.symm.trans ko0) (by decide))))) 1).trans (h2_q_5.I ho0 (show ¬ (sx_c6 h o0) from (sx_c6.o ko0 lo0)) 1)
  have z_39 : q_21.1 a0 22 = q.1 a0 22 := (h3_q_21.1 22 (by decide)).trans (h2_q_5.I ha0 (show ¬ (sx_c6 h a0) from (sx_c6.n ka0 (by decide))) 22)
  have z_40 : q_21.2.2.2.1 ob = q.2.2.2.1 ob := (h2_q_21.G hob (show ¬ (h.1 ob = 12 ∨ h.1 ob = 144 ∨ h.1 ob = 245) from (fun z => z.elim (fun z => absurd (z.symm.trans kob) (by decide)) (fun z => z.elim (fun z => absurd (z.symm.trans kob) (by decide)) (fun z => absurd (z.symm.trans kob) (by decide))))) (by rw [kob]; decide)).trans (h2_q_5.G hob (show ¬ (sx_c6 h ob) from (sx_c6.u kob lob)) (by rw [kob]; decide))
  have z_41 : q_21.2.2.2.1 m21 = q.2.2.2.1 m21 := (h2_q_21.G hm21 (show ¬ (h.1 m21 = 12 ∨ h.1 m21 = 144 ∨ h.1 m21 = 245) from (fun z => z.elim (fun z => absurd (z.symm.trans km21) (by decide)) (fun z => z.elim (fun z => absurd (z.symm.trans km21) (by decide)) (fun z => absurd (z.symm.trans km21) (by decide))))) (by rw [km21]; decide)).trans (h2_q_5.G hm21 (show ¬ (sx_c6 h m21) from (sx_c6.n km21 (by decide))) (by rw [km21]; decide))
  have hout9 : lc_o (q_21.1 o0 1) (q_21.1 a0 22) (q_21.2.2.2.1 ob) (q_21.2.2.2.1 (mm 21)) := by rw [← xm21, z_38, z_39, z_40, z_41]; exact hout
  have z_42 : q_21.2.2.1 x0 1 = o0 := (h2_q_21.R hx0 (show ¬ ((h.1 x0 = 12 ∨ h.1 x0 = 144 ∨ h.1 x0 = 245) ∧ (h.1 x0 = 8 ∨ h.1 x0 = 11)) from fun z9 => (show ¬ (h.1 x0 = 12 ∨ h.1 x0 = 144 ∨ h.1 x0 = 245) from (fun z => z.elim (fun z => absurd (z.symm.trans kx0) (by decide)) (fun z => z.elim (fun z => absurd (z.symm.trans kx0) (by decide)) (fun z => absurd (z.symm.trans kx0) (by decide))))) z9.1) 1).trans (hO_q_5)
  have z_43 : q_21.2.2.1 o0 0 = ob := (h2_q_21.R ho0 (fun z9 => absurd z9.2 (by omega)) 0).trans ((h2_q_5.R ho0 (fun z9 => absurd z9.2 (by omega)) 0).trans (eob))
  have z_44 : q_21.1 uu 6 = q.1 uu 6 := (h2_q_21.I huu (show ¬ (h.1 uu = 12 ∨ h.1 uu = 144 ∨ h.1 uu = 245) from (fun z => z.elim (fun z => absurd (z.symm.trans kuu) (by decide)) (fun z => z.elim (fun z => absurd (z.symm.trans kuu) (by decide)) (fun z => absurd (z.symm.trans kuu) (by decide))))) 6).trans (h2_q_5.I huu (show ¬ (sx_c6 h uu) from (sx_c6.n kuu (by decide))) 6)
  have z_45 : q_21.1 a0 20 = q.1 a0 20 := (h3_q_21.1 20 (by decide)).trans (h2_q_5.I ha0 (show ¬ (sx_c6 h a0) from (sx_c6.n ka0 (by decide))) 20)
  have z_46 : q_21.2.2.2.1 uc = q.2.2.2.1 uc := (h2_q_21.G huc (show ¬ (h.1 uc = 12 ∨ h.1 uc = 144 ∨ h.1 uc = 245) from (fun z => z.elim (fun z => absurd (z.symm.trans kuc) (by decide)) (fun z => z.elim (fun z => absurd (z.symm.trans kuc) (by decide)) (fun z => absurd (z.symm.trans kuc) (by decide))))) (by rw [kuc]; decide)).trans (h2_q_5.G huc (show ¬ (sx_c6 h uc) from (sx_c6.n kuc (by decide))) (by rw [kuc]; decide))
  have z_47 : q_21.2.2.2.1 m18 = q.2.2.2.1 m18 := (h2_q_21.G hm18 (show ¬ (h.1 m18 = 12 ∨ h.1 m18 = 144 ∨ h.1 m18 = 245) from (fun z => z.elim (fun z => absurd (z.symm.trans km18) (by decide)) (fun z => z.elim (fun z => absurd (z.symm.trans km18) (by decide)) (fun z => absurd (z.symm.trans km18) (by decide))))) (by rw [km18]; decide)).trans (h2_q_5.G hm18 (show ¬ (sx_c6 h m18) from (sx_c6.n km18 (by decide))) (by rw [km18]; decide))
  have z_48 : q_21.2.2.2.1 uf = q.2.2.2.1 uf := (h2_q_21.G huf (show ¬ (h.1 uf = 12 ∨ h.1 uf = 144 ∨ h.1 uf = 245) from (fun z => z.elim (fun z => absurd (z.symm.trans kuf) (by decide)) (fun z => z.elim (fun z => absurd (z.symm.trans kuf) (by decide)) (fun z => absurd (z.symm.trans kuf) (by decide))))) (by rw [kuf]; decide)).trans (h2_q_5.G huf (show ¬ (sx_c6 h uf) from (sx_c6.n kuf (by decide))) (by rw [kuf]; decide))
  have z_49 : q_21.2.2.2.1 m19 = q.2.2.2.1 m19 := (h2_q_21.G hm19 (show ¬ (h.1 m19 = 12 ∨ h.1 m19 = 144 ∨ h.1 m19 = 245) from (fun z => z.elim (fun z => absurd (z.symm.trans km19) (by decide)) (fun z => z.elim (fun z => absurd (z.symm.trans km19) (by decide)) (fun z => absurd (z.symm.trans km19) (by decide))))) (by rw [km19]; decide)).trans (h2_q_5.G hm19 (show ¬ (sx_c6 h m19) from (sx_c6.n km19 (by decide))) (by rw [km19]; decide))
  have z_50 : q_21.2.2.2.1 uw = q.2.2.2.1 uw := (h2_q_21.G huw (show ¬ (h.1 uw = 12 ∨ h.1 uw = 144 ∨ h.1 uw = 245) from (fun z => z.elim (fun z => absurd (z.symm.trans kuw) (by decide)) (fun z => z.elim (fun z => absurd (z.symm.trans kuw) (by decide)) (fun z => absurd (z.symm.trans kuw) (by decide))))) (by rw [kuw]; decide)).trans (h2_q_5.G huw (show ¬ (sx_c6 h uw) from (sx_c6.n kuw (by decide))) (by rw [kuw]; decide))
  have z_51 : q_21.2.2.2.2 un = q.2.2.2.2 un := (h2_q_21.Lg hun (show ¬ (h.1 un = 12 ∨ h.1 un = 144 ∨ h.1 un = 245) from (fun z => z.elim (fun z => absurd (z.symm.trans kun) (by decide)) (fun z => z.elim (fun z => absurd (z.symm.trans kun) (by decide)) (fun z => absurd (z.symm.trans kun) (by decide))))) (by rw [kun]; decide)).trans (h2_q_5.Lg hun (show ¬ (sx_c6 h un) from (sx_c6.n kun (by decide))) (by rw [kun]; decide))
  have z_52 : q_21.2.2.2.2 m17 = q.2.2.2.2 m17 := (h2_q_21.Lg hm17 (show ¬ (h.1 m17 = 12 ∨ h.1 m17 = 144 ∨ h.1 m17 = 245) from (fun z => z.elim (fun z => absurd (z.symm.trans km17) (by decide)) (fun z => z.elim (fun z => absurd (z.symm.trans km17) (by decide)) (fun z => absurd (z.symm.trans km17) (by decide))))) (by rw [km17]; decide)).trans (h2_q_5.Lg hm17 (show ¬ (sx_c6 h m17) from (sx_c6.n km17 (by decide))) (by rw [km17]; decide))
  have hu9 : lc_uq8 q_21 a0 uu (mm 17) (mm 18) (mm 19) := by unfold lc_uq8; rw [← xm17, ← xm18, ← xm19, hR_uu, euc, euf, euw, eun, z_44, z_45, z_46, z_47, z_48, z_49, z_50, z_51, z_52]; exact hu
  have z_53 : q_21.2.2.1 x0 11 = uu := (h2_q_21.R hx0 (show ¬ ((h.1 x0 = 12 ∨ h.1 x0 = 144 ∨ h.1 x0 = 245) ∧ (h.1 x0 = 8 ∨ h.1 x0 = 11)) from fun z9 => (show ¬ (h.1 x0 = 12 ∨ h.1 x0 = 144 ∨ h.1 x0 = 245) from (fun z => z.elim (fun z => absurd (z.symm.trans kx0) (by decide)) (fun z => z.elim (fun z => absurd (z.symm.trans kx0) (by decide)) (fun z => absurd (z.symm.trans kx0) (by decide))))) z9.1) 11).trans (h8_q_5)
  have z_54 : q_21.2.2.1 x0 12 = su := (h2_q_21.R hx0 (show ¬ ((h.1 x0 = 12 ∨ h.1 x0 = 144 ∨ h.1 x0 = 245) ∧ (h.1 x0 = 8 ∨ h.1 x0 = 11)) from fun z9 => (show ¬ (h.1 x0 = 12 ∨ h.1 x0 = 144 ∨ h.1 x0 = 245) from (fun z => z.elim (fun z => absurd (z.symm.trans kx0) (by decide)) (fun z => z.elim (fun z => absurd (z.symm.trans kx0) (by decide)) (fun z => absurd (z.symm.trans kx0) (by decide))))) z9.1) 12).trans (hB_q_5)
  exact hcont _ _ (Or.inr rfl) ⟨⟨⟨hV_q_21, mN_q_21, by rw [← xm18, ← xm19]; exact mF_q_21, by rw [← xm17]; exact mU_q_21, by rw [← xm23, ← xm26, ← xm28, ← xm29]; exact mS_q_21, by rw [← xm40, ← xm41, ← xm44]; exact mL_q_21, z_32, fun k hk => by rw [show q_21.2.2.1 a0 = q_5.2.2.1 a0 from h2_q_21.2 a0 ha0 (fun z9 => absurd z9.2 (by omega)), show q_5.2.2.1 a0 = q.2.2.1 a0 from h2_q_5.2 a0 ha0 (fun z9 => absurd z9.2 (by omega))]; exact em k hk, by omega, by omega⟩, z_33, z_34, by rw [← xm1]; exact hT9, by rw [← xm44]; exact hR9⟩, uu, su, o0, ob, z_53, z_54, hdz.eq hR_uu hR_su, hu9, ⟨z_42, z_43⟩, hout9⟩
set_option maxHeartbeats 4000000 in
set_option maxRecDepth 100000 in
theorem lc6_588 (l : Launch) (hlst : l.stackTraces = false) {Z : Zt} (dC : Nat → ClassId) (dI : Nat → Nat → Nat) (h : Sh) (L : List Nat) (hN : sx_nd L) (B : BX dC dI h L 7 cL_law RL wsL_law Z) {b N : Nat} {xs : Nat → Int32} (hX : va_X b N xs Z.2.2.1 Z.2.2.1.heap) (hbl : b < Z.2.2.1.heap.size) (hbA : ¬ AL L Z.2.2.1.heap.size b) {x0 a0 ot t0 tb fa : Nat} (hfd : lc_fd h fa) {mm : Nat → Nat} (hx0 : x0 ∈ L) (kx0 : h.1 x0 = 11) (ha0 : a0 ∈ L) (ka0 : h.1 a0 = 12) (hot : ot ∈ L) (kot : h.1 ot = 200) (lot : h.2.1 ot = 1) {i : Int32} (hi0 : 0 ≤ i.toInt) (hi1 : i.toInt + 6 ≤ (N : Int)) (hN2 : N ≤ 3072) (hroom : (zl_more Z).2.2.2.2.2.2.2.2.2.1 ≤ room_1.cells ∧ (zl_more Z).2.2.2.2.2.2.2.2.2.2 ≤ room_1.slots) {q : Sg} (hI : lc_I8 h L x0 a0 t0 tb fa mm q) (hcont : ∀ (Z2 : Zt) (q2 : Sg), (Z2 = Z ∨ Z2 = zl_more Z) → lc_I8 h L x0 a0 t0 tb fa mm q2 → WA l dC dI h L room_1 7 Z2 q2 775 [(4, .int i), (3, .ref ot), (2, .ref a0), (1, .ref x0), (0, .ref b)] []) : WA l dC dI h L room_1 7 Z q 588 [(4, .int i), (3, .ref ot), (2, .ref a0), (1, .ref x0), (0, .ref b)] [] := by
  obtain ⟨hI, uu, su, o0, ob, euu, esu, hdz, hu0, ⟨eo0, eob⟩, hout0⟩ := hI
  obtain ⟨hI, etb, efa, hT0, hR0⟩ := hI
  obtain ⟨hV, mN, mF0, mU0, mS0, mL0, et0, em, hte, hfe⟩ := hI
  obtain ⟨ht0, kt0, lt0⟩ : t0 ∈ L ∧ h.1 t0 = 7 ∧ h.2.1 t0 = 1 := by obtain ⟨r9, e9, z1, z2, z3⟩ := hV.refn (t := 7) (n := 1) hx0 kx0 0 rfl (by decide) rfl (by decide); rw [← et0, e9]; exact ⟨z1, z2, z3⟩
  obtain ⟨m1, xm1⟩ : ∃ z, z = mm 1 := ⟨_, rfl⟩
  have em1 : q.2.2.1 a0 1 = m1 := by rw [xm1]; exact em 1 (by decide)
  obtain ⟨hm1, km1, lm1⟩ : m1 ∈ L ∧ h.1 m1 = 111 ∧ h.2.1 m1 = 440 := by obtain ⟨r9, e9, z1, z2, z3⟩ := hV.refn (t := 111) (n := 440) ha0 ka0 1 rfl (by decide) rfl (by decide); rw [← em1, e9]; exact ⟨z1, z2, z3⟩
  obtain ⟨m3, xm3⟩ : ∃ z, z = mm 3 := ⟨_, rfl⟩
  have em3 : q.2.2.1 a0 3 = m3 := by rw [xm3]; exact em 3 (by decide)
  obtain ⟨hm3, km3, lm3⟩ : m3 ∈ L ∧ h.1 m3 = 113 ∧ h.2.1 m3 = 500 := by obtain ⟨r9, e9, z1, z2, z3⟩ := hV.refn (t := 113) (n := 500) ha0 ka0 3 rfl (by decide) rfl (by decide); rw [← em3, e9]; exact ⟨z1, z2, z3⟩
  obtain ⟨m16, xm16⟩ : ∃ z, z = mm 16 := ⟨_, rfl⟩
  have em16 : q.2.2.1 a0 16 = m16 := by rw [xm16]; exact em 16 (by decide)
  obtain ⟨hm16, km16, lm16⟩ : m16 ∈ L ∧ h.1 m16 = 226 ∧ h.2.1 m16 = 6 := by obtain ⟨r9, e9, z1, z2, z3⟩ := hV.refn (t := 226) (n := 6) ha0 ka0 16 rfl (by decide) rfl (by decide); rw [← em16, e9]; exact ⟨z1, z2, z3⟩
  obtain ⟨m17, xm17⟩ : ∃ z, z = mm 17 := ⟨_, rfl⟩
  have em17 : q.2.2.1 a0 17 = m17 := by rw [xm17]; exact em 17 (by decide)
  obtain ⟨hm17, km17, lm17⟩ : m17 ∈ L ∧ h.1 m17 = 227 ∧ h.2.1 m17 = 30 := by obtain ⟨r9, e9, z1, z2, z3⟩ := hV.refn (t := 227) (n := 30) ha0 ka0 17 rfl (by decide) rfl (by decide); rw [← em17, e9]; exact ⟨z1, z2, z3⟩
  obtain ⟨m18, xm18⟩ : ∃ z, z = mm 18 := ⟨_, rfl⟩
  have em18 : q.2.2.1 a0 18 = m18 := by rw [xm18]; exact em 18 (by decide)
  obtain ⟨hm18, km18, lm18⟩ : m18 ∈ L ∧ h.1 m18 = 128 ∧ h.2.1 m18 = 6 := by obtain ⟨r9, e9, z1, z2, z3⟩ := hV.refn (t := 128) (n := 6) ha0 ka0 18 rfl (by decide) rfl (by decide); rw [← em18, e9]; exact ⟨z1, z2, z3⟩
  obtain ⟨m19, xm19⟩ : ∃ z, z = mm 19 := ⟨_, rfl⟩
  have em19 : q.2.2.1 a0 19 = m19 := by rw [xm19]; exact em 19 (by decide)
  obtain ⟨hm19, km19, lm19⟩ : m19 ∈ L ∧ h.1 m19 = 129 ∧ h.2.1 m19 = 30 := by obtain ⟨r9, e9, z1, z2, z3⟩ := hV.refn (t := 129) (n := 30) ha0 ka0 19 rfl (by decide) rfl (by decide); rw [← em19, e9]; exact ⟨z1, z2, z3⟩
  obtain ⟨m21, xm21⟩ : ∃ z, z = mm 21 := ⟨_, rfl⟩
  have em21 : q.2.2.1 a0 21 = m21 := by rw [xm21]; exact em 21 (by decide)
  obtain ⟨hm21, km21, lm21⟩ : m21 ∈ L ∧ h.1 m21 = 131 ∧ h.2.1 m21 = 80 := by obtain ⟨r9, e9, z1, z2, z3⟩ := hV.refn (t := 131) (n := 80) ha0 ka0 21 rfl (by decide) rfl (by decide); rw [← em21, e9]; exact ⟨z1, z2, z3⟩
  obtain ⟨m23, xm23⟩ : ∃ z, z = mm 23 := ⟨_, rfl⟩
  have em23 : q.2.2.1 a0 23 = m23 := by rw [xm23]; exact em 23 (by decide)
  obtain ⟨hm23, km23, lm23⟩ : m23 ∈ L ∧ h.1 m23 = 133 ∧ h.2.1 m23 = 9 := by obtain ⟨r9, e9, z1, z2, z3⟩ := hV.refn (t := 133) (n := 9) ha0 ka0 23 rfl (by decide) rfl (by decide); rw [← em23, e9]; exact ⟨z1, z2, z3⟩
  obtain ⟨m24, xm24⟩ : ∃ z, z = mm 24 := ⟨_, rfl⟩
  have em24 : q.2.2.1 a0 24 = m24 := by rw [xm24]; exact em 24 (by decide)
  obtain ⟨hm24, km24, lm24⟩ : m24 ∈ L ∧ h.1 m24 = 134 ∧ h.2.1 m24 = 108 := by obtain ⟨r9, e9, z1, z2, z3⟩ := hV.refn (t := 134) (n := 108) ha0 ka0 24 rfl (by decide) rfl (by decide); rw [← em24, e9]; exact ⟨z1, z2, z3⟩
  obtain ⟨m25, xm25⟩ : ∃ z, z = mm 25 := ⟨_, rfl⟩
  have em25 : q.2.2.1 a0 25 = m25 := by rw [xm25]; exact em 25 (by decide)
  obtain ⟨hm25, km25, lm25⟩ : m25 ∈ L ∧ h.1 m25 = 135 ∧ h.2.1 m25 = 108 := by obtain ⟨r9, e9, z1, z2, z3⟩ := hV.refn (t := 135) (n := 108) ha0 ka0 25 rfl (by decide) rfl (by decide); rw [← em25, e9]; exact ⟨z1, z2, z3⟩
  obtain ⟨m26, xm26⟩ : ∃ z, z = mm 26 := ⟨_, rfl⟩
  have em26 : q.2.2.1 a0 26 = m26 := by rw [xm26]; exact em 26 (by decide)
  obtain ⟨hm26, km26, lm26⟩ : m26 ∈ L ∧ h.1 m26 = 136 ∧ h.2.1 m26 = 108 := by obtain ⟨r9, e9, z1, z2, z3⟩ := hV.refn (t := 136) (n := 108) ha0 ka0 26 rfl (by decide) rfl (by decide); rw [← em26, e9]; exact ⟨z1, z2, z3⟩
  obtain ⟨m27, xm27⟩ : ∃ z, z = mm 27 := ⟨_, rfl⟩
  have em27 : q.2.2.1 a0 27 = m27 := by rw [xm27]; exact em 27 (by decide)
  obtain ⟨hm27, km27, lm27⟩ : m27 ∈ L ∧ h.1 m27 = 137 ∧ h.2.1 m27 = 9 := by obtain ⟨r9, e9, z1, z2, z3⟩ := hV.refn (t := 137) (n := 9) ha0 ka0 27 rfl (by decide) rfl (by decide); rw [← em27, e9]; exact ⟨z1, z2, z3⟩
  obtain ⟨m28, xm28⟩ : ∃ z, z = mm 28 := ⟨_, rfl⟩
  have em28 : q.2.2.1 a0 28 = m28 := by rw [xm28]; exact em 28 (by decide)
  obtain ⟨hm28, km28, lm28⟩ : m28 ∈ L ∧ h.1 m28 = 138 ∧ h.2.1 m28 = 540 := by obtain ⟨r9, e9, z1, z2, z3⟩ := hV.refn (t := 138) (n := 540) ha0 ka0 28 rfl (by decide) rfl (by decide); rw [← em28, e9]; exact ⟨z1, z2, z3⟩
  obtain ⟨m29, xm29⟩ : ∃ z, z = mm 29 := ⟨_, rfl⟩
  have em29 : q.2.2.1 a0 29 = m29 := by rw [xm29]; exact em 29 (by decide)
  obtain ⟨hm29, km29, lm29⟩ : m29 ∈ L ∧ h.1 m29 = 139 ∧ h.2.1 m29 = 540 := by obtain ⟨r9, e9, z1, z2, z3⟩ := hV.refn (t := 139) (n := 540) ha0 ka0 29 rfl (by decide) rfl (by decide); rw [← em29, e9]; exact ⟨z1, z2, z3⟩
  obtain ⟨m30, xm30⟩ : ∃ z, z = mm 30 := ⟨_, rfl⟩
  have em30 : q.2.2.1 a0 30 = m30 := by rw [xm30]; exact em 30 (by decide)
  obtain ⟨hm30, km30, lm30⟩ : m30 ∈ L ∧ h.1 m30 = 140 ∧ h.2.1 m30 = 540 := by obtain ⟨r9, e9, z1, z2, z3⟩ := hV.refn (t := 140) (n := 540) ha0 ka0 30 rfl (by decide) rfl (by decide); rw [← em30, e9]; exact ⟨z1, z2, z3⟩
  obtain ⟨m34, xm34⟩ : ∃ z, z = mm 34 := ⟨_, rfl⟩
  have em34 : q.2.2.1 a0 34 = m34 := by rw [xm34]; exact em 34 (by decide)
  obtain ⟨hm34, km34, lm34⟩ : m34 ∈ L ∧ h.1 m34 = 144 ∧ h.2.1 m34 = 4 := by obtain ⟨r9, e9, z1, z2, z3⟩ := hV.refn (t := 144) (n := 4) ha0 ka0 34 rfl (by decide) rfl (by decide); rw [← em34, e9]; exact ⟨z1, z2, z3⟩
  obtain ⟨m35, xm35⟩ : ∃ z, z = mm 35 := ⟨_, rfl⟩
  have em35 : q.2.2.1 a0 35 = m35 := by rw [xm35]; exact em 35 (by decide)
  obtain ⟨hm35, km35, lm35⟩ : m35 ∈ L ∧ h.1 m35 = 245 ∧ h.2.1 m35 = 12 := by obtain ⟨r9, e9, z1, z2, z3⟩ := hV.refn (t := 245) (n := 12) ha0 ka0 35 rfl (by decide) rfl (by decide); rw [← em35, e9]; exact ⟨z1, z2, z3⟩
  obtain ⟨m40, xm40⟩ : ∃ z, z = mm 40 := ⟨_, rfl⟩
  have em40 : q.2.2.1 a0 40 = m40 := by rw [xm40]; exact em 40 (by decide)
  obtain ⟨hm40, km40, lm40⟩ : m40 ∈ L ∧ h.1 m40 = 150 ∧ h.2.1 m40 = 2400 := by obtain ⟨r9, e9, z1, z2, z3⟩ := hV.refn (t := 150) (n := 2400) ha0 ka0 40 rfl (by decide) rfl (by decide); rw [← em40, e9]; exact ⟨z1, z2, z3⟩
  obtain ⟨m41, xm41⟩ : ∃ z, z = mm 41 := ⟨_, rfl⟩
  have em41 : q.2.2.1 a0 41 = m41 := by rw [xm41]; exact em 41 (by decide)
  obtain ⟨hm41, km41, lm41⟩ : m41 ∈ L ∧ h.1 m41 = 151 ∧ h.2.1 m41 = 12 := by obtain ⟨r9, e9, z1, z2, z3⟩ := hV.refn (t := 151) (n := 12) ha0 ka0 41 rfl (by decide) rfl (by decide); rw [← em41, e9]; exact ⟨z1, z2, z3⟩
  obtain ⟨m42, xm42⟩ : ∃ z, z = mm 42 := ⟨_, rfl⟩
  have em42 : q.2.2.1 a0 42 = m42 := by rw [xm42]; exact em 42 (by decide)
  obtain ⟨hm42, km42, lm42⟩ : m42 ∈ L ∧ h.1 m42 = 152 ∧ h.2.1 m42 = 12 := by obtain ⟨r9, e9, z1, z2, z3⟩ := hV.refn (t := 152) (n := 12) ha0 ka0 42 rfl (by decide) rfl (by decide); rw [← em42, e9]; exact ⟨z1, z2, z3⟩
  obtain ⟨m43, xm43⟩ : ∃ z, z = mm 43 := ⟨_, rfl⟩
  have em43 : q.2.2.1 a0 43 = m43 := by rw [xm43]; exact em 43 (by decide)
  obtain ⟨hm43, km43, lm43⟩ : m43 ∈ L ∧ h.1 m43 = 153 ∧ h.2.1 m43 = 12 := by obtain ⟨r9, e9, z1, z2, z3⟩ := hV.refn (t := 153) (n := 12) ha0 ka0 43 rfl (by decide) rfl (by decide); rw [← em43, e9]; exact ⟨z1, z2, z3⟩
  obtain ⟨m44, xm44⟩ : ∃ z, z = mm 44 := ⟨_, rfl⟩
  have em44 : q.2.2.1 a0 44 = m44 := by rw [xm44]; exact em 44 (by decide)
  obtain ⟨hm44, km44, lm44⟩ : m44 ∈ L ∧ h.1 m44 = 154 ∧ h.2.1 m44 = 12 := by obtain ⟨r9, e9, z1, z2, z3⟩ := hV.refn (t := 154) (n := 12) ha0 ka0 44 rfl (by decide) rfl (by decide); rw [← em44, e9]; exact ⟨z1, z2, z3⟩
  obtain ⟨m46, xm46⟩ : ∃ z, z = mm 46 := ⟨_, rfl⟩
  have em46 : q.2.2.1 a0 46 = m46 := by rw [xm46]; exact em 46 (by decide)
  obtain ⟨hm46, km46, lm46⟩ : m46 ∈ L ∧ h.1 m46 = 156 ∧ h.2.1 m46 = 144 := by obtain ⟨r9, e9, z1, z2, z3⟩ := hV.refn (t := 156) (n := 144) ha0 ka0 46 rfl (by decide) rfl (by decide); rw [← em46, e9]; exact ⟨z1, z2, z3⟩
  obtain ⟨m47, xm47⟩ : ∃ z, z = mm 47 := ⟨_, rfl⟩
  have em47 : q.2.2.1 a0 47 = m47 := by rw [xm47]; exact em 47 (by decide)
  obtain ⟨hm47, km47, lm47⟩ : m47 ∈ L ∧ h.1 m47 = 157 ∧ h.2.1 m47 = 4096 := by obtain ⟨r9, e9, z1, z2, z3⟩ := hV.refn (t := 157) (n := 4096) ha0 ka0 47 rfl (by decide) rfl (by decide); rw [← em47, e9]; exact ⟨z1, z2, z3⟩
  obtain ⟨m48, xm48⟩ : ∃ z, z = mm 48 := ⟨_, rfl⟩
  have em48 : q.2.2.1 a0 48 = m48 := by rw [xm48]; exact em 48 (by decide)
  obtain ⟨hm48, km48, lm48⟩ : m48 ∈ L ∧ h.1 m48 = 158 ∧ h.2.1 m48 = 12 := by obtain ⟨r9, e9, z1, z2, z3⟩ := hV.refn (t := 158) (n := 12) ha0 ka0 48 rfl (by decide) rfl (by decide); rw [← em48, e9]; exact ⟨z1, z2, z3⟩
  have mF : mv_F m18 m19 q := by rw [xm18, xm19]; exact mF0
  have mU : mv_U m17 q := by rw [xm17]; exact mU0
  have mS : mv_S m23 m26 m28 m29 q := by rw [xm23, xm26, xm28, xm29]; exact mS0
  have mL : mv_L m40 m41 m44 a0 q := by rw [xm40, xm41, xm44]; exact mL0
  have hF : sx_fr h L (fun _ => True) q q := sx_fr.rf
  obtain ⟨htb, ktb, ltb⟩ : tb ∈ L ∧ h.1 tb = 300 ∧ h.2.1 tb = 440 := by obtain ⟨r9, e9, z1, z2, z3⟩ := hV.refn (t := 300) (n := 440) ht0 kt0 0 rfl (by decide) (by rw [lt0]; rfl) (by decide); rw [← etb, e9]; exact ⟨z1, z2, z3⟩
  obtain ⟨hfa, kfa, lfa⟩ : fa ∈ L ∧ h.1 fa = 403 ∧ h.2.1 fa = 12 := by obtain ⟨r9, e9, z1, z2, z3⟩ := hV.refn (t := 403) (n := 12) hx0 kx0 9 rfl (by decide) rfl (by decide); rw [← efa, e9]; exact ⟨z1, z2, z3⟩
  have hT : ty_T (q.2.2.2.1 tb) (q.2.2.2.1 m1) (q.1 t0 1).toInt.toNat := by rw [xm1]; exact hT0
  have hR : lc_R h fa m44 x0 q := by rw [xm44]; exact hR0
  have gx14 : (0 : Int) ≤ (q.1 x0 14).toInt ∧ (q.1 x0 14).toInt ≤ 12 := hV.int hx0 kx0 14
  have gt1 : (0 : Int) ≤ (q.1 t0 1).toInt ∧ (q.1 t0 1).toInt ≤ 440 := by have z9 := hV.int ht0 kt0 1; rw [etb, ltb] at z9; exact z9
  obtain ⟨huu, kuu⟩ : uu ∈ L ∧ h.1 uu = 9 := by obtain ⟨r9, e9, z1, z2⟩ := hV.ref (t := 9) hx0 kx0 11 rfl (by decide); rw [← euu, e9]; exact ⟨z1, z2⟩
  obtain ⟨hsu, ksu⟩ : su ∈ L ∧ h.1 su = 9 := by obtain ⟨r9, e9, z1, z2⟩ := hV.ref (t := 9) hx0 kx0 12 rfl (by decide); rw [← esu, e9]; exact ⟨z1, z2⟩
  have nuu_su : ¬ uu = su := hdz.1
  obtain ⟨uc, euc⟩ : ∃ z, q.2.2.1 uu 1 = z := ⟨_, rfl⟩
  obtain ⟨huc, kuc, luc⟩ : uc ∈ L ∧ h.1 uc = 101 ∧ h.2.1 uc = 3 := by obtain ⟨r9, e9, z1, z2, z3⟩ := hV.refn (t := 101) (n := 3) huu kuu 1 rfl (by decide) rfl (by decide); rw [← euc, e9]; exact ⟨z1, z2, z3⟩
  obtain ⟨un, eun⟩ : ∃ z, q.2.2.1 uu 2 = z := ⟨_, rfl⟩
  obtain ⟨hun, kun, lun⟩ : un ∈ L ∧ h.1 un = 202 ∧ h.2.1 un = 15 := by obtain ⟨r9, e9, z1, z2, z3⟩ := hV.refn (t := 202) (n := 15) huu kuu 2 rfl (by decide) rfl (by decide); rw [← eun, e9]; exact ⟨z1, z2, z3⟩
  obtain ⟨uf, euf⟩ : ∃ z, q.2.2.1 uu 3 = z := ⟨_, rfl⟩
  obtain ⟨huf, kuf, luf⟩ : uf ∈ L ∧ h.1 uf = 102 ∧ h.2.1 uf = 15 := by obtain ⟨r9, e9, z1, z2, z3⟩ := hV.refn (t := 102) (n := 15) huu kuu 3 rfl (by decide) rfl (by decide); rw [← euf, e9]; exact ⟨z1, z2, z3⟩
  obtain ⟨uw, euw⟩ : ∃ z, q.2.2.1 uu 4 = z := ⟨_, rfl⟩
  obtain ⟨huw, kuw, luw⟩ : uw ∈ L ∧ h.1 uw = 103 ∧ h.2.1 uw = 15 := by obtain ⟨r9, e9, z1, z2, z3⟩ := hV.refn (t := 103) (n := 15) huu kuu 4 rfl (by decide) rfl (by decide); rw [← euw, e9]; exact ⟨z1, z2, z3⟩
  have hu : lc_u8 (q.1 uu 6) (q.1 a0 20) (q.2.2.2.1 uc) (q.2.2.2.1 m18) (q.2.2.2.1 uf) (q.2.2.2.1 m19) (q.2.2.2.1 uw) (q.2.2.2.2 un) (q.2.2.2.2 m17) := by rw [← euc, ← euf, ← euw, ← eun, xm17, xm18, xm19]; exact hu0
  obtain ⟨ho0, ko0, lo0⟩ : o0 ∈ L ∧ h.1 o0 = 7 ∧ h.2.1 o0 = 2 := by obtain ⟨r9, e9, z1, z2, z3⟩ := hV.refn (t := 7) (n := 2) hx0 kx0 1 rfl (by decide) rfl (by decide); rw [← eo0, e9]; exact ⟨z1, z2, z3⟩
  obtain ⟨hob, kob, lob⟩ : ob ∈ L ∧ h.1 ob = 300 ∧ h.2.1 ob = 59 := by obtain ⟨r9, e9, z1, z2, z3⟩ := hV.refn (t := 300) (n := 59) ho0 ko0 0 rfl (by decide) (by rw [lo0]; rfl) (by decide); rw [← eob, e9]; exact ⟨z1, z2, z3⟩
  have nt0_o0 : ¬ t0 = o0 := fun z9 => absurd (z9 ▸ lt0 : h.2.1 o0 = 1) (by rw [lo0]; decide)
  have ntb_ob : ¬ tb = ob := fun z9 => absurd (z9 ▸ ltb : h.2.1 ob = 440) (by rw [lob]; decide)
  have hout : lc_o (q.1 o0 1) (q.1 a0 22) (q.2.2.2.1 ob) (q.2.2.2.1 m21) := by rw [xm21]; exact hout0
  refine wa_aload_n B dL_law_588 rfl 3 rfl ?_
  refine wa_aload_n B dL_law_589 rfl 4 rfl ?_
  refine wa_iload B dL_law_590 0 rfl ?_
  refine wa_iconst B 1 dL_law_592 (by decide) ?_
  refine wa_iadd B dL_law_593 (fun v_1 ev_1 => ?_)
  subst ev_1
  have t_2 : (i + 1).toInt = i.toInt + 1 := by have b0 := zx_bd i; exact zx_add (show (-2147483648 : Int) ≤ i.toInt + 1 by omega) (show i.toInt + 1 < (2147483648 : Int) by omega)
  refine wa_sld B hX hbl hbA (i := (i + 1)) (show 0 ≤ (i + 1).toInt by omega) (show (i + 1).toInt < (N : Int) by omega) dL_law_594 ?_
  refine wa_callVi B (x := (RX11, TX11, 16)) (As := [.int ((xs ((i + 1) : Int32).toNatClampNeg))]) (rest := []) (k_X11_wrong_c l dC dI h L hN q hV (a0 := x0) hx0 kx0 ((xs ((i + 1) : Int32).toNatClampNeg)) (t0 := t0) et0 (tb := tb) etb (fa := fa) efa (uu := uu) euu (o0 := o0) eo0 (ob := ob) eob  ) (cwV 1 B.1.2.2.2.2 gL_law_X11_wrong rfl rfl rfl (by decide +kernel) ⟨Nat.le_of_ble_eq_true rfl, Nat.le_of_ble_eq_true rfl⟩) hx0 kx0 (by decide) rfl rfl rfl (Nat.le_of_ble_eq_true rfl) dL_law_595 (fun r_4 q_3 w_5 => ?_)
  obtain ⟨hV_q_3, h2_q_3, hw_5⟩ := w_5
  have mN_q_3 : mv_N a0 q_3 := mv_N.eq (h2_q_3.I ha0 (show ¬ (sx_c6 h a0) from (sx_c6.n ka0 (by decide))) 8) (h2_q_3.J ha0 (show ¬ (sx_c6 h a0) from (sx_c6.n ka0 (by decide))) 11) mN
  have mF_q_3 : mv_F m18 m19 q_3 := mv_F.eq (h2_q_3.G hm18 (show ¬ (sx_c6 h m18) from (sx_c6.n km18 (by decide))) (by rw [km18]; decide)) (h2_q_3.G hm19 (show ¬ (sx_c6 h m19) from (sx_c6.n km19 (by decide))) (by rw [km19]; decide)) mF
  have mU_q_3 : mv_U m17 q_3 := mv_U.eq (h2_q_3.Lg hm17 (show ¬ (sx_c6 h m17) from (sx_c6.n km17 (by decide))) (by rw [km17]; decide)) mU
  have mS_q_3 : mv_S m23 m26 m28 m29 q_3 := mv_S.eq (h2_q_3.G hm23 (show ¬ (sx_c6 h m23) from (sx_c6.n km23 (by decide))) (by rw [km23]; decide)) (h2_q_3.G hm26 (show ¬ (sx_c6 h m26) from (sx_c6.n km26 (by decide))) (by rw [km26]; decide)) (h2_q_3.G hm28 (show ¬ (sx_c6 h m28) from (sx_c6.n km28 (by decide))) (by rw [km28]; decide)) (h2_q_3.G hm29 (show ¬ (sx_c6 h m29) from (sx_c6.n km29 (by decide))) (by rw [km29]; decide)) mS
  have mL_q_3 : mv_L m40 m41 m44 a0 q_3 := mv_L.eq (h2_q_3.G hm40 (show ¬ (sx_c6 h m40) from (sx_c6.n km40 (by decide))) (by rw [km40]; decide)) (h2_q_3.G hm41 (show ¬ (sx_c6 h m41) from (sx_c6.n km41 (by decide))) (by rw [km41]; decide)) (h2_q_3.G hm44 (show ¬ (sx_c6 h m44) from (sx_c6.n km44 (by decide))) (by rw [km44]; decide)) (h2_q_3.I ha0 (show ¬ (sx_c6 h a0) from (sx_c6.n ka0 (by decide))) 45) mL
  have hB_q_3 := hw_5.2.2.2.2.1.trans esu
  refine wa_pop B dL_law_598 rfl ?_
  refine wa_aload_n B dL_law_599 rfl 2 rfl ?_
  refine wa_aload_n B dL_law_600 rfl 4 rfl ?_
  refine wa_iload B dL_law_601 0 rfl ?_
  refine wa_iconst B 1 dL_law_603 (by decide) ?_
  refine wa_iadd B dL_law_604 (fun v_6 ev_6 => ?_)
  subst ev_6
  refine wa_sld B hX hbl hbA (i := (i + 1)) (show 0 ≤ (i + 1).toInt by omega) (show (i + 1).toInt < (N : Int) by omega) dL_law_605 ?_
  have z_7 : q_3.2.2.1 a0 18 = m18 := (h2_q_3.R ha0 (fun z9 => absurd z9.2 (by omega)) 18).trans (em18)
  have z_8 : q_3.2.2.1 a0 19 = m19 := (h2_q_3.R ha0 (fun z9 => absurd z9.2 (by omega)) 19).trans (em19)
  have z_9 : q_3.2.2.1 a0 23 = m23 := (h2_q_3.R ha0 (fun z9 => absurd z9.2 (by omega)) 23).trans (em23)
  have z_10 : q_3.2.2.1 a0 25 = m25 := (h2_q_3.R ha0 (fun z9 => absurd z9.2 (by omega)) 25).trans (em25)
  have z_11 : q_3.2.2.1 a0 26 = m26 := (h2_q_3.R ha0 (fun z9 => absurd z9.2 (by omega)) 26).trans (em26)
  have z_12 : q_3.2.2.1 a0 27 = m27 := (h2_q_3.R ha0 (fun z9 => absurd z9.2 (by omega)) 27).trans (em27)
  have z_13 : q_3.2.2.1 a0 28 = m28 := (h2_q_3.R ha0 (fun z9 => absurd z9.2 (by omega)) 28).trans (em28)
  have z_14 : q_3.2.2.1 a0 29 = m29 := (h2_q_3.R ha0 (fun z9 => absurd z9.2 (by omega)) 29).trans (em29)
  have z_15 : q_3.2.2.1 a0 30 = m30 := (h2_q_3.R ha0 (fun z9 => absurd z9.2 (by omega)) 30).trans (em30)
  have z_16 : q_3.2.2.1 a0 34 = m34 := (h2_q_3.R ha0 (fun z9 => absurd z9.2 (by omega)) 34).trans (em34)
  have z_17 : q_3.2.2.1 a0 35 = m35 := (h2_q_3.R ha0 (fun z9 => absurd z9.2 (by omega)) 35).trans (em35)
  refine wa_callVi B (x := (RX12, TX12, 51)) (As := [.int ((xs ((i + 1) : Int32).toNatClampNeg))]) (rest := []) (k_X12_wrong l dC dI h L hN q_3 hV_q_3 (a0 := a0) ha0 ka0 ((xs ((i + 1) : Int32).toNatClampNeg)) (m18 := m18) z_7 (m19 := m19) z_8 (m23 := m23) z_9 (m25 := m25) z_10 (m26 := m26) z_11 (m27 := m27) z_12 (m28 := m28) z_13 (m29 := m29) z_14 (m30 := m30) z_15 (m34 := m34) z_16 (m35 := m35) z_17 mS_q_3 ) (cwV 1 B.1.2.2.2.2 gL_law_X12_wrong rfl rfl rfl (by decide +kernel) ⟨Nat.le_of_ble_eq_true rfl, Nat.le_of_ble_eq_true rfl⟩) ha0 ka0 (by decide) rfl rfl rfl (Nat.le_of_ble_eq_true rfl) dL_law_606 (fun r_19 q_18 w_20 => ?_)
  obtain ⟨hV_q_18, h2_q_18, h3_q_18, mS_q_18⟩ := w_20
  have mN_q_18 : mv_N a0 q_18 := mv_N.eq (h3_q_18.1 8 (by decide)) (h3_q_18.2 11 (by decide)) mN_q_3
  have mF_q_18 : mv_F m18 m19 q_18 := mv_F.eq (h2_q_18.G hm18 (show ¬ (h.1 m18 = 12 ∨ h.1 m18 = 144 ∨ h.1 m18 = 245) from (fun z => z.elim (fun z => absurd (z.symm.trans km18) (by decide)) (fun z => z.elim (fun z => absurd (z.symm.trans km18) (by decide)) (fun z => absurd (z.symm.trans km18) (by decide))))) (by rw [km18]; decide)) (h2_q_18.G hm19 (show ¬ (h.1 m19 = 12 ∨ h.1 m19 = 144 ∨ h.1 m19 = 245) from (fun z => z.elim (fun z => absurd (z.symm.trans km19) (by decide)) (fun z => z.elim (fun z => absurd (z.symm.trans km19) (by decide)) (fun z => absurd (z.symm.trans km19) (by decide))))) (by rw [km19]; decide)) mF_q_3
  have mU_q_18 : mv_U m17 q_18 := mv_U.eq (h2_q_18.Lg hm17 (show ¬ (h.1 m17 = 12 ∨ h.1 m17 = 144 ∨ h.1 m17 = 245) from (fun z => z.elim (fun z => absurd (z.symm.trans km17) (by decide)) (fun z => z.elim (fun z => absurd (z.symm.trans km17) (by decide)) (fun z => absurd (z.symm.trans km17) (by decide))))) (by rw [km17]; decide)) mU_q_3
  have mL_q_18 : mv_L m40 m41 m44 a0 q_18 := mv_L.eq (h2_q_18.G hm40 (show ¬ (h.1 m40 = 12 ∨ h.1 m40 = 144 ∨ h.1 m40 = 245) from (fun z => z.elim (fun z => absurd (z.symm.trans km40) (by decide)) (fun z => z.elim (fun z => absurd (z.symm.trans km40) (by decide)) (fun z => absurd (z.symm.trans km40) (by decide))))) (by rw [km40]; decide)) (h2_q_18.G hm41 (show ¬ (h.1 m41 = 12 ∨ h.1 m41 = 144 ∨ h.1 m41 = 245) from (fun z => z.elim (fun z => absurd (z.symm.trans km41) (by decide)) (fun z => z.elim (fun z => absurd (z.symm.trans km41) (by decide)) (fun z => absurd (z.symm.trans km41) (by decide))))) (by rw [km41]; decide)) (h2_q_18.G hm44 (show ¬ (h.1 m44 = 12 ∨ h.1 m44 = 144 ∨ h.1 m44 = 245) from (fun z => z.elim (fun z => absurd (z.symm.trans km44) (by decide)) (fun z => z.elim (fun z => absurd (z.symm.trans km44) (by decide)) (fun z => absurd (z.symm.trans km44) (by decide))))) (by rw [km44]; decide)) (h3_q_18.1 45 (by decide)) mL_q_3
  refine wa_pop B dL_law_609 rfl ?_
  refine wa_goto B 775 dL_law_610 (by decide) ?_
  have z_21 : q_18.1 a0 2 = q.1 a0 2 := (h3_q_18.1 2 (by decide)).trans (h2_q_3.I ha0 (show ¬ (sx_c6 h a0) from (sx_c6.n ka0 (by decide))) 2)
  have y_22 : (q_18.1 a0 2).toInt = (q.1 a0 2).toInt := by rw [z_21]
  have z_23 : q_18.1 a0 45 = q.1 a0 45 := (h3_q_18.1 45 (by decide)).trans (h2_q_3.I ha0 (show ¬ (sx_c6 h a0) from (sx_c6.n ka0 (by decide))) 45)
  have y_24 : (q_18.1 a0 45).toInt = (q.1 a0 45).toInt := by rw [z_23]
  have z_25 : q_18.1 t0 1 = q_3.1 t0 1 := h2_q_18.I ht0 (show ¬ (h.1 t0 = 12 ∨ h.1 t0 = 144 ∨ h.1 t0 = 245) from (fun z => z.elim (fun z => absurd (z.symm.trans kt0) (by decide)) (fun z => z.elim (fun z => absurd (z.symm.trans kt0) (by decide)) (fun z => absurd (z.symm.trans kt0) (by decide))))) 1
  have y_26 : (q_18.1 t0 1).toInt = (q_3.1 t0 1).toInt := by rw [z_25]
  have z_27 : q_18.1 x0 14 = q_3.1 x0 14 := h2_q_18.I hx0 (show ¬ (h.1 x0 = 12 ∨ h.1 x0 = 144 ∨ h.1 x0 = 245) from (fun z => z.elim (fun z => absurd (z.symm.trans kx0) (by decide)) (fun z => z.elim (fun z => absurd (z.symm.trans kx0) (by decide)) (fun z => absurd (z.symm.trans kx0) (by decide))))) 14
  have y_28 : (q_18.1 x0 14).toInt = (q_3.1 x0 14).toInt := by rw [z_27]
  have z_29 : q_18.2.2.1 x0 0 = t0 := (h2_q_18.R hx0 (show ¬ ((h.1 x0 = 12 ∨ h.1 x0 = 144 ∨ h.1 x0 = 245) ∧ (h.1 x0 = 8 ∨ h.1 x0 = 11)) from fun z9 => (show ¬ (h.1 x0 = 12 ∨ h.1 x0 = 144 ∨ h.1 x0 = 245) from (fun z => z.elim (fun z => absurd (z.symm.trans kx0) (by decide)) (fun z => z.elim (fun z => absurd (z.symm.trans kx0) (by decide)) (fun z => absurd (z.symm.trans kx0) (by decide))))) z9.1) 0).trans (hw_5.1)
  have z_30 : q_18.2.2.1 t0 0 = tb := (h2_q_18.R ht0 (fun z9 => absurd z9.2 (by omega)) 0).trans ((h2_q_3.R ht0 (fun z9 => absurd z9.2 (by omega)) 0).trans (etb))
  have z_31 : q_18.2.2.1 x0 9 = fa := (h2_q_18.R hx0 (show ¬ ((h.1 x0 = 12 ∨ h.1 x0 = 144 ∨ h.1 x0 = 245) ∧ (h.1 x0 = 8 ∨ h.1 x0 = 11)) from fun z9 => (show ¬ (h.1 x0 = 12 ∨ h.1 x0 = 144 ∨ h.1 x0 = 245) from (fun z => z.elim (fun z => absurd (z.symm.trans kx0) (by decide)) (fun z => z.elim (fun z => absurd (z.symm.trans kx0) (by decide)) (fun z => absurd (z.symm.trans kx0) (by decide))))) z9.1) 9).trans (hw_5.2.2.2.2.2.1)
  have z_32 : q_18.2.2.2.1 tb = q.2.2.2.1 tb := (h2_q_18.G htb (show ¬ (h.1 tb = 12 ∨ h.1 tb = 144 ∨ h.1 tb = 245) from (fun z => z.elim (fun z => absurd (z.symm.trans ktb) (by decide)) (fun z => z.elim (fun z => absurd (z.symm.trans ktb) (by decide)) (fun z => absurd (z.symm.trans ktb) (by decide))))) (by rw [ktb]; decide)).trans (h2_q_3.G htb (show ¬ (sx_c6 h tb) from (sx_c6.t ktb ltb)) (by rw [ktb]; decide))
  have z_33 : q_18.2.2.2.1 m1 = q.2.2.2.1 m1 := (h2_q_18.G hm1 (show ¬ (h.1 m1 = 12 ∨ h.1 m1 = 144 ∨ h.1 m1 = 245) from (fun z => z.elim (fun z => absurd (z.symm.trans km1) (by decide)) (fun z => z.elim (fun z => absurd (z.symm.trans km1) (by decide)) (fun z => absurd (z.symm.trans km1) (by decide))))) (by rw [km1]; decide)).trans (h2_q_3.G hm1 (show ¬ (sx_c6 h m1) from (sx_c6.n km1 (by decide))) (by rw [km1]; decide))
  have hT9 : ty_T (q_18.2.2.2.1 tb) (q_18.2.2.2.1 m1) (q_18.1 t0 1).toInt.toNat := by rw [z_32, z_33]; exact hT.le (by omega)
  have z_34 : q_18.2.2.2.1 m44 = q.2.2.2.1 m44 := (h2_q_18.G hm44 (show ¬ (h.1 m44 = 12 ∨ h.1 m44 = 144 ∨ h.1 m44 = 245) from (fun z => z.elim (fun z => absurd (z.symm.trans km44) (by decide)) (fun z => z.elim (fun z => absurd (z.symm.trans km44) (by decide)) (fun z => absurd (z.symm.trans km44) (by decide))))) (by rw [km44]; decide)).trans (h2_q_3.G hm44 (show ¬ (sx_c6 h m44) from (sx_c6.n km44 (by decide))) (by rw [km44]; decide))
  have hR9 : lc_R h fa m44 x0 q_18 := by
    intro f hf
    obtain ⟨e9, ee9, he9, ke9⟩ := hV.elem (t := 0) hfa kfa (by decide) rfl (j := f) (by omega)
    rw [ee9, show q_18.1 e9 3 = q_3.1 e9 3 from h2_q_18.I he9 (show ¬ (h.1 e9 = 12 ∨ h.1 e9 = 144 ∨ h.1 e9 = 245) from by omega) 3, show q_3.1 e9 3 = q.1 e9 3 from h2_q_3.I he9 (show ¬ (sx_c6 h e9) from by (try unfold sx_mk at *); (try unfold sx_ck at *); (try unfold sx_c6 at *); omega) 3, ← ee9, z_34]
    exact hR f (by omega)
  have hR_uu : q_18.2.2.1 uu = q.2.2.1 uu := by rw [show q_18.2.2.1 uu = q_3.2.2.1 uu from h2_q_18.2 uu huu (fun z9 => absurd z9.2 (by rw [kuu]; decide)), show q_3.2.2.1 uu = q.2.2.1 uu from h2_q_3.2 uu huu (fun z9 => absurd z9.2 (by rw [kuu]; decide))]
  have hR_su : q_18.2.2.1 su = q.2.2.1 su := by rw [show q_18.2.2.1 su = q_3.2.2.1 su from h2_q_18.2 su hsu (fun z9 => absurd z9.2 (by rw [ksu]; decide)), show q_3.2.2.1 su = q.2.2.1 su from h2_q_3.2 su hsu (fun z9 => absurd z9.2 (by rw [ksu]; decide))]
  have z_35 : q_18.1 o0 1 = q.1 o0 1 := (h2_q_18.I ho0 (show ¬ (h.1 o0 = 12 ∨ h.1 o0 = 144 ∨ h.1 o0 = 245) from (fun z => z.elim (fun z => absurd (z.symm.trans ko0) (by decide)) (fun z => z.elim (fun z => absurd (z.symm.trans ko0) (by decide)) (fun z => absurd (z.symm.trans ko0) (by decide))))) 1).trans (h2_q_3.I ho0 (show ¬ (sx_c6 h o0) from (sx_c6.o ko0 lo0)) 1)
  have z_36 : q_18.1 a0 22 = q.1 a0 22 := (h3_q_18.1 22 (by decide)).trans (h2_q_3.I ha0 (show ¬ (sx_c6 h a0) from (sx_c6.n ka0 (by decide))) 22)
  have z_37 : q_18.2.2.2.1 ob = q.2.2.2.1 ob := (h2_q_18.G hob (show ¬ (h.1 ob = 12 ∨ h.1 ob = 144 ∨ h.1 ob = 245) from (fun z => z.elim (fun z => absurd (z.symm.trans kob) (by decide)) (fun z => z.elim (fun z => absurd (z.symm.trans kob) (by decide)) (fun z => absurd (z.symm.trans kob) (by decide))))) (by rw [kob]; decide)).trans (h2_q_3.G hob (show ¬ (sx_c6 h ob) from (sx_c6.u kob lob)) (by rw [kob]; decide))
  have z_38 : q_18.2.2.2.1 m21 = q.2.2.2.1 m21 := (h2_q_18.G hm21 (show ¬ (h.1 m21 = 12 ∨ h.1 m21 = 144 ∨ h.1 m21 = 245) from (fun z => z.elim (fun z => absurd (z.symm.trans km21) (by decide)) (fun z => z.elim (fun z => absurd (z.symm.trans km21) (by decide)) (fun z => absurd (z.symm.trans km21) (by decide))))) (by rw [km21]; decide)).trans (h2_q_3.G hm21 (show ¬ (sx_c6 h m21) from (sx_c6.n km21 (by decide))) (by rw [km21]; decide))
  have hout9 : lc_o (q_18.1 o0 1) (q_18.1 a0 22) (q_18.2.2.2.1 ob) (q_18.2.2.2.1 (mm 21)) := by rw [← xm21, z_35, z_36, z_37, z_38]; exact hout
  have z_39 : q_18.2.2.1 x0 1 = o0 := (h2_q_18.R hx0 (show ¬ ((h.1 x0 = 12 ∨ h.1 x0 = 144 ∨ h.1 x0 = 245) ∧ (h.1 x0 = 8 ∨ h.1 x0 = 11)) from fun z9 => (show ¬ (h.1 x0 = 12 ∨ h.1 x0 = 144 ∨ h.1 x0 = 245) from (fun z => z.elim (fun z => absurd (z.symm.trans kx0) (by decide)) (fun z => z.elim (fun z => absurd (z.symm.trans kx0) (by decide)) (fun z => absurd (z.symm.trans kx0) (by decide))))) z9.1) 1).trans (hw_5.2.2.2.2.2.2)
  have z_40 : q_18.2.2.1 o0 0 = ob := (h2_q_18.R ho0 (fun z9 => absurd z9.2 (by omega)) 0).trans ((h2_q_3.R ho0 (fun z9 => absurd z9.2 (by omega)) 0).trans (eob))
  have z_41 : q_18.1 uu 6 = q.1 uu 6 := (h2_q_18.I huu (show ¬ (h.1 uu = 12 ∨ h.1 uu = 144 ∨ h.1 uu = 245) from (fun z => z.elim (fun z => absurd (z.symm.trans kuu) (by decide)) (fun z => z.elim (fun z => absurd (z.symm.trans kuu) (by decide)) (fun z => absurd (z.symm.trans kuu) (by decide))))) 6).trans (h2_q_3.I huu (show ¬ (sx_c6 h uu) from (sx_c6.n kuu (by decide))) 6)
  have z_42 : q_18.1 a0 20 = q.1 a0 20 := (h3_q_18.1 20 (by decide)).trans (h2_q_3.I ha0 (show ¬ (sx_c6 h a0) from (sx_c6.n ka0 (by decide))) 20)
  have z_43 : q_18.2.2.2.1 uc = q.2.2.2.1 uc := (h2_q_18.G huc (show ¬ (h.1 uc = 12 ∨ h.1 uc = 144 ∨ h.1 uc = 245) from (fun z => z.elim (fun z => absurd (z.symm.trans kuc) (by decide)) (fun z => z.elim (fun z => absurd (z.symm.trans kuc) (by decide)) (fun z => absurd (z.symm.trans kuc) (by decide))))) (by rw [kuc]; decide)).trans (h2_q_3.G huc (show ¬ (sx_c6 h uc) from (sx_c6.n kuc (by decide))) (by rw [kuc]; decide))
  have z_44 : q_18.2.2.2.1 m18 = q.2.2.2.1 m18 := (h2_q_18.G hm18 (show ¬ (h.1 m18 = 12 ∨ h.1 m18 = 144 ∨ h.1 m18 = 245) from (fun z => z.elim (fun z => absurd (z.symm.trans km18) (by decide)) (fun z => z.elim (fun z => absurd (z.symm.trans km18) (by decide)) (fun z => absurd (z.symm.trans km18) (by decide))))) (by rw [km18]; decide)).trans (h2_q_3.G hm18 (show ¬ (sx_c6 h m18) from (sx_c6.n km18 (by decide))) (by rw [km18]; decide))
  have z_45 : q_18.2.2.2.1 uf = q.2.2.2.1 uf := (h2_q_18.G huf (show ¬ (h.1 uf = 12 ∨ h.1 uf = 144 ∨ h.1 uf = 245) from (fun z => z.elim (fun z => absurd (z.symm.trans kuf) (by decide)) (fun z => z.elim (fun z => absurd (z.symm.trans kuf) (by decide)) (fun z => absurd (z.symm.trans kuf) (by decide))))) (by rw [kuf]; decide)).trans (h2_q_3.G huf (show ¬ (sx_c6 h uf) from (sx_c6.n kuf (by decide))) (by rw [kuf]; decide))
  have z_46 : q_18.2.2.2.1 m19 = q.2.2.2.1 m19 := (h2_q_18.G hm19 (show ¬ (h.1 m19 = 12 ∨ h.1 m19 = 144 ∨ h.1 m19 = 245) from (fun z => z.elim (fun z => absurd (z.symm.trans km19) (by decide)) (fun z => z.elim (fun z => absurd (z.symm.trans km19) (by decide)) (fun z => absurd (z.symm.trans km19) (by decide))))) (by rw [km19]; decide)).trans (h2_q_3.G hm19 (show ¬ (sx_c6 h m19) from (sx_c6.n km19 (by decide))) (by rw [km19]; decide))
  have z_47 : q_18.2.2.2.1 uw = q.2.2.2.1 uw := (h2_q_18.G huw (show ¬ (h.1 uw = 12 ∨ h.1 uw = 144 ∨ h.1 uw = 245) from (fun z => z.elim (fun z => absurd (z.symm.trans kuw) (by decide)) (fun z => z.elim (fun z => absurd (z.symm.trans kuw) (by decide)) (fun z => absurd (z.symm.trans kuw) (by decide))))) (by rw [kuw]; decide)).trans (h2_q_3.G huw (show ¬ (sx_c6 h uw) from (sx_c6.n kuw (by decide))) (by rw [kuw]; decide))
  have z_48 : q_18.2.2.2.2 un = q.2.2.2.2 un := (h2_q_18.Lg hun (show ¬ (h.1 un = 12 ∨ h.1 un = 144 ∨ h.1 un = 245) from (fun z => z.elim (fun z => absurd (z.symm.trans kun) (by decide)) (fun z => z.elim (fun z => absurd (z.symm.trans kun) (by decide)) (fun z => absurd (z.symm.trans kun) (by decide))))) (by rw [kun]; decide)).trans (h2_q_3.Lg hun (show ¬ (sx_c6 h un) from (sx_c6.n kun (by decide))) (by rw [kun]; decide))
  have z_49 : q_18.2.2.2.2 m17 = q.2.2.2.2 m17 := (h2_q_18.Lg hm17 (show ¬ (h.1 m17 = 12 ∨ h.1 m17 = 144 ∨ h.1 m17 = 245) from (fun z => z.elim (fun z => absurd (z.symm.trans km17) (by decide)) (fun z => z.elim (fun z => absurd (z.symm.trans km17) (by decide)) (fun z => absurd (z.symm.trans km17) (by decide))))) (by rw [km17]; decide)).trans (h2_q_3.Lg hm17 (show ¬ (sx_c6 h m17) from (sx_c6.n km17 (by decide))) (by rw [km17]; decide))
  have hu9 : lc_uq8 q_18 a0 uu (mm 17) (mm 18) (mm 19) := by unfold lc_uq8; rw [← xm17, ← xm18, ← xm19, hR_uu, euc, euf, euw, eun, z_41, z_42, z_43, z_44, z_45, z_46, z_47, z_48, z_49]; exact hu
  have z_50 : q_18.2.2.1 x0 11 = uu := (h2_q_18.R hx0 (show ¬ ((h.1 x0 = 12 ∨ h.1 x0 = 144 ∨ h.1 x0 = 245) ∧ (h.1 x0 = 8 ∨ h.1 x0 = 11)) from fun z9 => (show ¬ (h.1 x0 = 12 ∨ h.1 x0 = 144 ∨ h.1 x0 = 245) from (fun z => z.elim (fun z => absurd (z.symm.trans kx0) (by decide)) (fun z => z.elim (fun z => absurd (z.symm.trans kx0) (by decide)) (fun z => absurd (z.symm.trans kx0) (by decide))))) z9.1) 11).trans (hw_5.2.2.2.1)
  have z_51 : q_18.2.2.1 x0 12 = su := (h2_q_18.R hx0 (show ¬ ((h.1 x0 = 12 ∨ h.1 x0 = 144 ∨ h.1 x0 = 245) ∧ (h.1 x0 = 8 ∨ h.1 x0 = 11)) from fun z9 => (show ¬ (h.1 x0 = 12 ∨ h.1 x0 = 144 ∨ h.1 x0 = 245) from (fun z => z.elim (fun z => absurd (z.symm.trans kx0) (by decide)) (fun z => z.elim (fun z => absurd (z.symm.trans kx0) (by decide)) (fun z => absurd (z.symm.trans kx0) (by decide))))) z9.1) 12).trans (hB_q_3)
  exact hcont _ _ (Or.inl rfl) ⟨⟨⟨hV_q_18, mN_q_18, by rw [← xm18, ← xm19]; exact mF_q_18, by rw [← xm17]; exact mU_q_18, by rw [← xm23, ← xm26, ← xm28, ← xm29]; exact mS_q_18, by rw [← xm40, ← xm41, ← xm44]; exact mL_q_18, z_29, fun k hk => by rw [show q_18.2.2.1 a0 = q_3.2.2.1 a0 from h2_q_18.2 a0 ha0 (fun z9 => absurd z9.2 (by omega)), show q_3.2.2.1 a0 = q.2.2.1 a0 from h2_q_3.2 a0 ha0 (fun z9 => absurd z9.2 (by omega))]; exact em k hk, by omega, by omega⟩, z_30, z_31, by rw [← xm1]; exact hT9, by rw [← xm44]; exact hR9⟩, uu, su, o0, ob, z_50, z_51, hdz.eq hR_uu hR_su, hu9, ⟨z_39, z_40⟩, hout9⟩
set_option maxHeartbeats 4000000 in
set_option maxRecDepth 100000 in
theorem lc6_613 (l : Launch) (hlst : l.stackTraces = false) {Z : Zt} (dC : Nat → ClassId) (dI : Nat → Nat → Nat) (h : Sh) (L : List Nat) (hN : sx_nd L) (B : BX dC dI h L 7 cL_law RL wsL_law Z) {b N : Nat} {xs : Nat → Int32} (hX : va_X b N xs Z.2.2.1 Z.2.2.1.heap) (hbl : b < Z.2.2.1.heap.size) (hbA : ¬ AL L Z.2.2.1.heap.size b) {x0 a0 ot t0 tb fa : Nat} (hfd : lc_fd h fa) {mm : Nat → Nat} (hx0 : x0 ∈ L) (kx0 : h.1 x0 = 11) (ha0 : a0 ∈ L) (ka0 : h.1 a0 = 12) (hot : ot ∈ L) (kot : h.1 ot = 200) (lot : h.2.1 ot = 1) {i : Int32} (hi0 : 0 ≤ i.toInt) (hi1 : i.toInt + 6 ≤ (N : Int)) (hN2 : N ≤ 3072) (hroom : (zl_more Z).2.2.2.2.2.2.2.2.2.1 ≤ room_1.cells ∧ (zl_more Z).2.2.2.2.2.2.2.2.2.2 ≤ room_1.slots) {q : Sg} (hI : lc_I8 h L x0 a0 t0 tb fa mm q) (hcont : ∀ (Z2 : Zt) (q2 : Sg), (Z2 = Z ∨ Z2 = zl_more Z) → lc_I8 h L x0 a0 t0 tb fa mm q2 → WA l dC dI h L room_1 7 Z2 q2 775 [(4, .int i), (3, .ref ot), (2, .ref a0), (1, .ref x0), (0, .ref b)] []) : WA l dC dI h L room_1 7 Z q 613 [(4, .int i), (3, .ref ot), (2, .ref a0), (1, .ref x0), (0, .ref b)] [] := by
  obtain ⟨hI, uu, su, o0, ob, euu, esu, hdz, hu0, ⟨eo0, eob⟩, hout0⟩ := hI
  obtain ⟨hI, etb, efa, hT0, hR0⟩ := hI
  obtain ⟨hV, mN, mF0, mU0, mS0, mL0, et0, em, hte, hfe⟩ := hI
  obtain ⟨ht0, kt0, lt0⟩ : t0 ∈ L ∧ h.1 t0 = 7 ∧ h.2.1 t0 = 1 := by obtain ⟨r9, e9, z1, z2, z3⟩ := hV.refn (t := 7) (n := 1) hx0 kx0 0 rfl (by decide) rfl (by decide); rw [← et0, e9]; exact ⟨z1, z2, z3⟩
  obtain ⟨m1, xm1⟩ : ∃ z, z = mm 1 := ⟨_, rfl⟩
  have em1 : q.2.2.1 a0 1 = m1 := by rw [xm1]; exact em 1 (by decide)
  obtain ⟨hm1, km1, lm1⟩ : m1 ∈ L ∧ h.1 m1 = 111 ∧ h.2.1 m1 = 440 := by obtain ⟨r9, e9, z1, z2, z3⟩ := hV.refn (t := 111) (n := 440) ha0 ka0 1 rfl (by decide) rfl (by decide); rw [← em1, e9]; exact ⟨z1, z2, z3⟩
  obtain ⟨m3, xm3⟩ : ∃ z, z = mm 3 := ⟨_, rfl⟩
  have em3 : q.2.2.1 a0 3 = m3 := by rw [xm3]; exact em 3 (by decide)
  obtain ⟨hm3, km3, lm3⟩ : m3 ∈ L ∧ h.1 m3 = 113 ∧ h.2.1 m3 = 500 := by obtain ⟨r9, e9, z1, z2, z3⟩ := hV.refn (t := 113) (n := 500) ha0 ka0 3 rfl (by decide) rfl (by decide); rw [← em3, e9]; exact ⟨z1, z2, z3⟩
  obtain ⟨m16, xm16⟩ : ∃ z, z = mm 16 := ⟨_, rfl⟩
  have em16 : q.2.2.1 a0 16 = m16 := by rw [xm16]; exact em 16 (by decide)
  obtain ⟨hm16, km16, lm16⟩ : m16 ∈ L ∧ h.1 m16 = 226 ∧ h.2.1 m16 = 6 := by obtain ⟨r9, e9, z1, z2, z3⟩ := hV.refn (t := 226) (n := 6) ha0 ka0 16 rfl (by decide) rfl (by decide); rw [← em16, e9]; exact ⟨z1, z2, z3⟩
  obtain ⟨m17, xm17⟩ : ∃ z, z = mm 17 := ⟨_, rfl⟩
  have em17 : q.2.2.1 a0 17 = m17 := by rw [xm17]; exact em 17 (by decide)
  obtain ⟨hm17, km17, lm17⟩ : m17 ∈ L ∧ h.1 m17 = 227 ∧ h.2.1 m17 = 30 := by obtain ⟨r9, e9, z1, z2, z3⟩ := hV.refn (t := 227) (n := 30) ha0 ka0 17 rfl (by decide) rfl (by decide); rw [← em17, e9]; exact ⟨z1, z2, z3⟩
  obtain ⟨m18, xm18⟩ : ∃ z, z = mm 18 := ⟨_, rfl⟩
  have em18 : q.2.2.1 a0 18 = m18 := by rw [xm18]; exact em 18 (by decide)
  obtain ⟨hm18, km18, lm18⟩ : m18 ∈ L ∧ h.1 m18 = 128 ∧ h.2.1 m18 = 6 := by obtain ⟨r9, e9, z1, z2, z3⟩ := hV.refn (t := 128) (n := 6) ha0 ka0 18 rfl (by decide) rfl (by decide); rw [← em18, e9]; exact ⟨z1, z2, z3⟩
  obtain ⟨m19, xm19⟩ : ∃ z, z = mm 19 := ⟨_, rfl⟩
  have em19 : q.2.2.1 a0 19 = m19 := by rw [xm19]; exact em 19 (by decide)
  obtain ⟨hm19, km19, lm19⟩ : m19 ∈ L ∧ h.1 m19 = 129 ∧ h.2.1 m19 = 30 := by obtain ⟨r9, e9, z1, z2, z3⟩ := hV.refn (t := 129) (n := 30) ha0 ka0 19 rfl (by decide) rfl (by decide); rw [← em19, e9]; exact ⟨z1, z2, z3⟩
  obtain ⟨m21, xm21⟩ : ∃ z, z = mm 21 := ⟨_, rfl⟩
  have em21 : q.2.2.1 a0 21 = m21 := by rw [xm21]; exact em 21 (by decide)
  obtain ⟨hm21, km21, lm21⟩ : m21 ∈ L ∧ h.1 m21 = 131 ∧ h.2.1 m21 = 80 := by obtain ⟨r9, e9, z1, z2, z3⟩ := hV.refn (t := 131) (n := 80) ha0 ka0 21 rfl (by decide) rfl (by decide); rw [← em21, e9]; exact ⟨z1, z2, z3⟩
  obtain ⟨m23, xm23⟩ : ∃ z, z = mm 23 := ⟨_, rfl⟩
  have em23 : q.2.2.1 a0 23 = m23 := by rw [xm23]; exact em 23 (by decide)
  obtain ⟨hm23, km23, lm23⟩ : m23 ∈ L ∧ h.1 m23 = 133 ∧ h.2.1 m23 = 9 := by obtain ⟨r9, e9, z1, z2, z3⟩ := hV.refn (t := 133) (n := 9) ha0 ka0 23 rfl (by decide) rfl (by decide); rw [← em23, e9]; exact ⟨z1, z2, z3⟩
  obtain ⟨m24, xm24⟩ : ∃ z, z = mm 24 := ⟨_, rfl⟩
  have em24 : q.2.2.1 a0 24 = m24 := by rw [xm24]; exact em 24 (by decide)
  obtain ⟨hm24, km24, lm24⟩ : m24 ∈ L ∧ h.1 m24 = 134 ∧ h.2.1 m24 = 108 := by obtain ⟨r9, e9, z1, z2, z3⟩ := hV.refn (t := 134) (n := 108) ha0 ka0 24 rfl (by decide) rfl (by decide); rw [← em24, e9]; exact ⟨z1, z2, z3⟩
  obtain ⟨m25, xm25⟩ : ∃ z, z = mm 25 := ⟨_, rfl⟩
  have em25 : q.2.2.1 a0 25 = m25 := by rw [xm25]; exact em 25 (by decide)
  obtain ⟨hm25, km25, lm25⟩ : m25 ∈ L ∧ h.1 m25 = 135 ∧ h.2.1 m25 = 108 := by obtain ⟨r9, e9, z1, z2, z3⟩ := hV.refn (t := 135) (n := 108) ha0 ka0 25 rfl (by decide) rfl (by decide); rw [← em25, e9]; exact ⟨z1, z2, z3⟩
  obtain ⟨m26, xm26⟩ : ∃ z, z = mm 26 := ⟨_, rfl⟩
  have em26 : q.2.2.1 a0 26 = m26 := by rw [xm26]; exact em 26 (by decide)
  obtain ⟨hm26, km26, lm26⟩ : m26 ∈ L ∧ h.1 m26 = 136 ∧ h.2.1 m26 = 108 := by obtain ⟨r9, e9, z1, z2, z3⟩ := hV.refn (t := 136) (n := 108) ha0 ka0 26 rfl (by decide) rfl (by decide); rw [← em26, e9]; exact ⟨z1, z2, z3⟩
  obtain ⟨m27, xm27⟩ : ∃ z, z = mm 27 := ⟨_, rfl⟩
  have em27 : q.2.2.1 a0 27 = m27 := by rw [xm27]; exact em 27 (by decide)
  obtain ⟨hm27, km27, lm27⟩ : m27 ∈ L ∧ h.1 m27 = 137 ∧ h.2.1 m27 = 9 := by obtain ⟨r9, e9, z1, z2, z3⟩ := hV.refn (t := 137) (n := 9) ha0 ka0 27 rfl (by decide) rfl (by decide); rw [← em27, e9]; exact ⟨z1, z2, z3⟩
  obtain ⟨m28, xm28⟩ : ∃ z, z = mm 28 := ⟨_, rfl⟩
  have em28 : q.2.2.1 a0 28 = m28 := by rw [xm28]; exact em 28 (by decide)
  obtain ⟨hm28, km28, lm28⟩ : m28 ∈ L ∧ h.1 m28 = 138 ∧ h.2.1 m28 = 540 := by obtain ⟨r9, e9, z1, z2, z3⟩ := hV.refn (t := 138) (n := 540) ha0 ka0 28 rfl (by decide) rfl (by decide); rw [← em28, e9]; exact ⟨z1, z2, z3⟩
  obtain ⟨m29, xm29⟩ : ∃ z, z = mm 29 := ⟨_, rfl⟩
  have em29 : q.2.2.1 a0 29 = m29 := by rw [xm29]; exact em 29 (by decide)
  obtain ⟨hm29, km29, lm29⟩ : m29 ∈ L ∧ h.1 m29 = 139 ∧ h.2.1 m29 = 540 := by obtain ⟨r9, e9, z1, z2, z3⟩ := hV.refn (t := 139) (n := 540) ha0 ka0 29 rfl (by decide) rfl (by decide); rw [← em29, e9]; exact ⟨z1, z2, z3⟩
  obtain ⟨m30, xm30⟩ : ∃ z, z = mm 30 := ⟨_, rfl⟩
  have em30 : q.2.2.1 a0 30 = m30 := by rw [xm30]; exact em 30 (by decide)
  obtain ⟨hm30, km30, lm30⟩ : m30 ∈ L ∧ h.1 m30 = 140 ∧ h.2.1 m30 = 540 := by obtain ⟨r9, e9, z1, z2, z3⟩ := hV.refn (t := 140) (n := 540) ha0 ka0 30 rfl (by decide) rfl (by decide); rw [← em30, e9]; exact ⟨z1, z2, z3⟩
  obtain ⟨m34, xm34⟩ : ∃ z, z = mm 34 := ⟨_, rfl⟩
  have em34 : q.2.2.1 a0 34 = m34 := by rw [xm34]; exact em 34 (by decide)
  obtain ⟨hm34, km34, lm34⟩ : m34 ∈ L ∧ h.1 m34 = 144 ∧ h.2.1 m34 = 4 := by obtain ⟨r9, e9, z1, z2, z3⟩ := hV.refn (t := 144) (n := 4) ha0 ka0 34 rfl (by decide) rfl (by decide); rw [← em34, e9]; exact ⟨z1, z2, z3⟩
  obtain ⟨m35, xm35⟩ : ∃ z, z = mm 35 := ⟨_, rfl⟩
  have em35 : q.2.2.1 a0 35 = m35 := by rw [xm35]; exact em 35 (by decide)
  obtain ⟨hm35, km35, lm35⟩ : m35 ∈ L ∧ h.1 m35 = 245 ∧ h.2.1 m35 = 12 := by obtain ⟨r9, e9, z1, z2, z3⟩ := hV.refn (t := 245) (n := 12) ha0 ka0 35 rfl (by decide) rfl (by decide); rw [← em35, e9]; exact ⟨z1, z2, z3⟩
  obtain ⟨m40, xm40⟩ : ∃ z, z = mm 40 := ⟨_, rfl⟩
  have em40 : q.2.2.1 a0 40 = m40 := by rw [xm40]; exact em 40 (by decide)
  obtain ⟨hm40, km40, lm40⟩ : m40 ∈ L ∧ h.1 m40 = 150 ∧ h.2.1 m40 = 2400 := by obtain ⟨r9, e9, z1, z2, z3⟩ := hV.refn (t := 150) (n := 2400) ha0 ka0 40 rfl (by decide) rfl (by decide); rw [← em40, e9]; exact ⟨z1, z2, z3⟩
  obtain ⟨m41, xm41⟩ : ∃ z, z = mm 41 := ⟨_, rfl⟩
  have em41 : q.2.2.1 a0 41 = m41 := by rw [xm41]; exact em 41 (by decide)
  obtain ⟨hm41, km41, lm41⟩ : m41 ∈ L ∧ h.1 m41 = 151 ∧ h.2.1 m41 = 12 := by obtain ⟨r9, e9, z1, z2, z3⟩ := hV.refn (t := 151) (n := 12) ha0 ka0 41 rfl (by decide) rfl (by decide); rw [← em41, e9]; exact ⟨z1, z2, z3⟩
  obtain ⟨m42, xm42⟩ : ∃ z, z = mm 42 := ⟨_, rfl⟩
  have em42 : q.2.2.1 a0 42 = m42 := by rw [xm42]; exact em 42 (by decide)
  obtain ⟨hm42, km42, lm42⟩ : m42 ∈ L ∧ h.1 m42 = 152 ∧ h.2.1 m42 = 12 := by obtain ⟨r9, e9, z1, z2, z3⟩ := hV.refn (t := 152) (n := 12) ha0 ka0 42 rfl (by decide) rfl (by decide); rw [← em42, e9]; exact ⟨z1, z2, z3⟩
  obtain ⟨m43, xm43⟩ : ∃ z, z = mm 43 := ⟨_, rfl⟩
  have em43 : q.2.2.1 a0 43 = m43 := by rw [xm43]; exact em 43 (by decide)
  obtain ⟨hm43, km43, lm43⟩ : m43 ∈ L ∧ h.1 m43 = 153 ∧ h.2.1 m43 = 12 := by obtain ⟨r9, e9, z1, z2, z3⟩ := hV.refn (t := 153) (n := 12) ha0 ka0 43 rfl (by decide) rfl (by decide); rw [← em43, e9]; exact ⟨z1, z2, z3⟩
  obtain ⟨m44, xm44⟩ : ∃ z, z = mm 44 := ⟨_, rfl⟩
  have em44 : q.2.2.1 a0 44 = m44 := by rw [xm44]; exact em 44 (by decide)
  obtain ⟨hm44, km44, lm44⟩ : m44 ∈ L ∧ h.1 m44 = 154 ∧ h.2.1 m44 = 12 := by obtain ⟨r9, e9, z1, z2, z3⟩ := hV.refn (t := 154) (n := 12) ha0 ka0 44 rfl (by decide) rfl (by decide); rw [← em44, e9]; exact ⟨z1, z2, z3⟩
  obtain ⟨m46, xm46⟩ : ∃ z, z = mm 46 := ⟨_, rfl⟩
  have em46 : q.2.2.1 a0 46 = m46 := by rw [xm46]; exact em 46 (by decide)
  obtain ⟨hm46, km46, lm46⟩ : m46 ∈ L ∧ h.1 m46 = 156 ∧ h.2.1 m46 = 144 := by obtain ⟨r9, e9, z1, z2, z3⟩ := hV.refn (t := 156) (n := 144) ha0 ka0 46 rfl (by decide) rfl (by decide); rw [← em46, e9]; exact ⟨z1, z2, z3⟩
  obtain ⟨m47, xm47⟩ : ∃ z, z = mm 47 := ⟨_, rfl⟩
  have em47 : q.2.2.1 a0 47 = m47 := by rw [xm47]; exact em 47 (by decide)
  obtain ⟨hm47, km47, lm47⟩ : m47 ∈ L ∧ h.1 m47 = 157 ∧ h.2.1 m47 = 4096 := by obtain ⟨r9, e9, z1, z2, z3⟩ := hV.refn (t := 157) (n := 4096) ha0 ka0 47 rfl (by decide) rfl (by decide); rw [← em47, e9]; exact ⟨z1, z2, z3⟩
  obtain ⟨m48, xm48⟩ : ∃ z, z = mm 48 := ⟨_, rfl⟩
  have em48 : q.2.2.1 a0 48 = m48 := by rw [xm48]; exact em 48 (by decide)
  obtain ⟨hm48, km48, lm48⟩ : m48 ∈ L ∧ h.1 m48 = 158 ∧ h.2.1 m48 = 12 := by obtain ⟨r9, e9, z1, z2, z3⟩ := hV.refn (t := 158) (n := 12) ha0 ka0 48 rfl (by decide) rfl (by decide); rw [← em48, e9]; exact ⟨z1, z2, z3⟩
  have mF : mv_F m18 m19 q := by rw [xm18, xm19]; exact mF0
  have mU : mv_U m17 q := by rw [xm17]; exact mU0
  have mS : mv_S m23 m26 m28 m29 q := by rw [xm23, xm26, xm28, xm29]; exact mS0
  have mL : mv_L m40 m41 m44 a0 q := by rw [xm40, xm41, xm44]; exact mL0
  have hF : sx_fr h L (fun _ => True) q q := sx_fr.rf
  obtain ⟨htb, ktb, ltb⟩ : tb ∈ L ∧ h.1 tb = 300 ∧ h.2.1 tb = 440 := by obtain ⟨r9, e9, z1, z2, z3⟩ := hV.refn (t := 300) (n := 440) ht0 kt0 0 rfl (by decide) (by rw [lt0]; rfl) (by decide); rw [← etb, e9]; exact ⟨z1, z2, z3⟩
  obtain ⟨hfa, kfa, lfa⟩ : fa ∈ L ∧ h.1 fa = 403 ∧ h.2.1 fa = 12 := by obtain ⟨r9, e9, z1, z2, z3⟩ := hV.refn (t := 403) (n := 12) hx0 kx0 9 rfl (by decide) rfl (by decide); rw [← efa, e9]; exact ⟨z1, z2, z3⟩
  have hT : ty_T (q.2.2.2.1 tb) (q.2.2.2.1 m1) (q.1 t0 1).toInt.toNat := by rw [xm1]; exact hT0
  have hR : lc_R h fa m44 x0 q := by rw [xm44]; exact hR0
  have gx14 : (0 : Int) ≤ (q.1 x0 14).toInt ∧ (q.1 x0 14).toInt ≤ 12 := hV.int hx0 kx0 14
  have gt1 : (0 : Int) ≤ (q.1 t0 1).toInt ∧ (q.1 t0 1).toInt ≤ 440 := by have z9 := hV.int ht0 kt0 1; rw [etb, ltb] at z9; exact z9
  obtain ⟨huu, kuu⟩ : uu ∈ L ∧ h.1 uu = 9 := by obtain ⟨r9, e9, z1, z2⟩ := hV.ref (t := 9) hx0 kx0 11 rfl (by decide); rw [← euu, e9]; exact ⟨z1, z2⟩
  obtain ⟨hsu, ksu⟩ : su ∈ L ∧ h.1 su = 9 := by obtain ⟨r9, e9, z1, z2⟩ := hV.ref (t := 9) hx0 kx0 12 rfl (by decide); rw [← esu, e9]; exact ⟨z1, z2⟩
  have nuu_su : ¬ uu = su := hdz.1
  obtain ⟨uc, euc⟩ : ∃ z, q.2.2.1 uu 1 = z := ⟨_, rfl⟩
  obtain ⟨huc, kuc, luc⟩ : uc ∈ L ∧ h.1 uc = 101 ∧ h.2.1 uc = 3 := by obtain ⟨r9, e9, z1, z2, z3⟩ := hV.refn (t := 101) (n := 3) huu kuu 1 rfl (by decide) rfl (by decide); rw [← euc, e9]; exact ⟨z1, z2, z3⟩
  obtain ⟨un, eun⟩ : ∃ z, q.2.2.1 uu 2 = z := ⟨_, rfl⟩
  obtain ⟨hun, kun, lun⟩ : un ∈ L ∧ h.1 un = 202 ∧ h.2.1 un = 15 := by obtain ⟨r9, e9, z1, z2, z3⟩ := hV.refn (t := 202) (n := 15) huu kuu 2 rfl (by decide) rfl (by decide); rw [← eun, e9]; exact ⟨z1, z2, z3⟩
  obtain ⟨uf, euf⟩ : ∃ z, q.2.2.1 uu 3 = z := ⟨_, rfl⟩
  obtain ⟨huf, kuf, luf⟩ : uf ∈ L ∧ h.1 uf = 102 ∧ h.2.1 uf = 15 := by obtain ⟨r9, e9, z1, z2, z3⟩ := hV.refn (t := 102) (n := 15) huu kuu 3 rfl (by decide) rfl (by decide); rw [← euf, e9]; exact ⟨z1, z2, z3⟩
  obtain ⟨uw, euw⟩ : ∃ z, q.2.2.1 uu 4 = z := ⟨_, rfl⟩
  obtain ⟨huw, kuw, luw⟩ : uw ∈ L ∧ h.1 uw = 103 ∧ h.2.1 uw = 15 := by obtain ⟨r9, e9, z1, z2, z3⟩ := hV.refn (t := 103) (n := 15) huu kuu 4 rfl (by decide) rfl (by decide); rw [← euw, e9]; exact ⟨z1, z2, z3⟩
  have hu : lc_u8 (q.1 uu 6) (q.1 a0 20) (q.2.2.2.1 uc) (q.2.2.2.1 m18) (q.2.2.2.1 uf) (q.2.2.2.1 m19) (q.2.2.2.1 uw) (q.2.2.2.2 un) (q.2.2.2.2 m17) := by rw [← euc, ← euf, ← euw, ← eun, xm17, xm18, xm19]; exact hu0
  obtain ⟨ho0, ko0, lo0⟩ : o0 ∈ L ∧ h.1 o0 = 7 ∧ h.2.1 o0 = 2 := by obtain ⟨r9, e9, z1, z2, z3⟩ := hV.refn (t := 7) (n := 2) hx0 kx0 1 rfl (by decide) rfl (by decide); rw [← eo0, e9]; exact ⟨z1, z2, z3⟩
  obtain ⟨hob, kob, lob⟩ : ob ∈ L ∧ h.1 ob = 300 ∧ h.2.1 ob = 59 := by obtain ⟨r9, e9, z1, z2, z3⟩ := hV.refn (t := 300) (n := 59) ho0 ko0 0 rfl (by decide) (by rw [lo0]; rfl) (by decide); rw [← eob, e9]; exact ⟨z1, z2, z3⟩
  have nt0_o0 : ¬ t0 = o0 := fun z9 => absurd (z9 ▸ lt0 : h.2.1 o0 = 1) (by rw [lo0]; decide)
  have ntb_ob : ¬ tb = ob := fun z9 => absurd (z9 ▸ ltb : h.2.1 ob = 440) (by rw [lob]; decide)
  have hout : lc_o (q.1 o0 1) (q.1 a0 22) (q.2.2.2.1 ob) (q.2.2.2.1 m21) := by rw [xm21]; exact hout0
  refine wa_aload_n B dL_law_613 rfl 3 rfl ?_
  refine wa_aload_n B dL_law_614 rfl 4 rfl ?_
  refine wa_iload B dL_law_615 0 rfl ?_
  refine wa_iconst B 1 dL_law_617 (by decide) ?_
  refine wa_iadd B dL_law_618 (fun v_1 ev_1 => ?_)
  subst ev_1
  have t_2 : (i + 1).toInt = i.toInt + 1 := by have b0 := zx_bd i; exact zx_add (show (-2147483648 : Int) ≤ i.toInt + 1 by omega) (show i.toInt + 1 < (2147483648 : Int) by omega)
  refine wa_sld B hX hbl hbA (i := (i + 1)) (show 0 ≤ (i + 1).toInt by omega) (show (i + 1).toInt < (N : Int) by omega) dL_law_619 ?_
  refine wa_aload_n B dL_law_620 rfl 4 rfl ?_
  refine wa_iload B dL_law_621 0 rfl ?_
  refine wa_iconst B 2 dL_law_623 (by decide) ?_
  refine wa_iadd B dL_law_624 (fun v_3 ev_3 => ?_)
  subst ev_3
  have t_4 : (i + 2).toInt = i.toInt + 2 := by have b0 := zx_bd i; exact zx_add (show (-2147483648 : Int) ≤ i.toInt + 2 by omega) (show i.toInt + 2 < (2147483648 : Int) by omega)
  refine wa_sld B hX hbl hbA (i := (i + 2)) (show 0 ≤ (i + 2).toInt by omega) (show (i + 2).toInt < (N : Int) by omega) dL_law_625 ?_
  obtain ⟨f9, e9f, k9f⟩ : ∃ r : Nat, lc_hd ((q.1 x0 14).toInt < 12 → h.2.2.2 fa (q.1 x0 14).toNatClampNeg = r) ∧ lc_hd (¬ (q.1 x0 14).toInt < 12 → h.1 r ≠ 0) := by
    by_cases z9 : (q.1 x0 14).toInt < 12
    · exact ⟨_, fun _ => rfl, fun z8 => absurd z9 z8⟩
    · exact ⟨x0, fun z8 => absurd z8 z9, fun _ => by rw [kx0]; decide⟩
  refine wa_callVi B (x := (RX11, TX11, 16)) (As := [.int ((xs ((i + 1) : Int32).toNatClampNeg)), .int ((xs ((i + 2) : Int32).toNatClampNeg))]) (rest := []) (k_X11_fragment_c l dC dI h L hN q hV (a0 := x0) hx0 kx0 ((xs ((i + 1) : Int32).toNatClampNeg)) ((xs ((i + 2) : Int32).toNatClampNeg)) (t0 := t0) et0 (tb := tb) etb (fa := fa) efa (uu := uu) euu (o0 := o0) eo0 (ob := ob) eob f9 e9f ) (cwV 2 B.1.2.2.2.2 gL_law_X11_fragment rfl rfl rfl (by decide +kernel) ⟨Nat.le_of_ble_eq_true rfl, Nat.le_of_ble_eq_true rfl⟩) hx0 kx0 (by decide) rfl rfl rfl (Nat.le_of_ble_eq_true rfl) dL_law_626 (fun r_6 q_5 w_7 => ?_)
  obtain ⟨hV_q_5, h2_q_5, hw_7⟩ := w_7
  obtain ⟨a9w_7, b9w_7, c9w_7, u9w_7, v9w_7, d9w_7, y9w_7⟩ := hw_7
  replace y9w_7 := lc_hd.i y9w_7
  have mN_q_5 : mv_N a0 q_5 := mv_N.eq (h2_q_5.I ha0 (show ¬ (h.1 a0 = 11 ∨ h.1 a0 = 7 ∧ ¬ h.2.1 a0 = 2 ∨ a0 = f9 ∧ h.1 a0 = 0 ∨ h.1 a0 = 300 ∧ ¬ h.2.1 a0 = 440 ∧ ¬ h.2.1 a0 = 59) from by omega) 8) (h2_q_5.J ha0 (show ¬ (h.1 a0 = 11 ∨ h.1 a0 = 7 ∧ ¬ h.2.1 a0 = 2 ∨ a0 = f9 ∧ h.1 a0 = 0 ∨ h.1 a0 = 300 ∧ ¬ h.2.1 a0 = 440 ∧ ¬ h.2.1 a0 = 59) from by omega) 11) mN
  have mF_q_5 : mv_F m18 m19 q_5 := mv_F.eq (h2_q_5.G hm18 (show ¬ (h.1 m18 = 11 ∨ h.1 m18 = 7 ∧ ¬ h.2.1 m18 = 2 ∨ m18 = f9 ∧ h.1 m18 = 0 ∨ h.1 m18 = 300 ∧ ¬ h.2.1 m18 = 440 ∧ ¬ h.2.1 m18 = 59) from by omega) (by rw [km18]; decide)) (h2_q_5.G hm19 (show ¬ (h.1 m19 = 11 ∨ h.1 m19 = 7 ∧ ¬ h.2.1 m19 = 2 ∨ m19 = f9 ∧ h.1 m19 = 0 ∨ h.1 m19 = 300 ∧ ¬ h.2.1 m19 = 440 ∧ ¬ h.2.1 m19 = 59) from by omega) (by rw [km19]; decide)) mF
  have mU_q_5 : mv_U m17 q_5 := mv_U.eq (h2_q_5.Lg hm17 (show ¬ (h.1 m17 = 11 ∨ h.1 m17 = 7 ∧ ¬ h.2.1 m17 = 2 ∨ m17 = f9 ∧ h.1 m17 = 0 ∨ h.1 m17 = 300 ∧ ¬ h.2.1 m17 = 440 ∧ ¬ h.2.1 m17 = 59) from by omega) (by rw [km17]; decide)) mU
  have mS_q_5 : mv_S m23 m26 m28 m29 q_5 := mv_S.eq (h2_q_5.G hm23 (show ¬ (h.1 m23 = 11 ∨ h.1 m23 = 7 ∧ ¬ h.2.1 m23 = 2 ∨ m23 = f9 ∧ h.1 m23 = 0 ∨ h.1 m23 = 300 ∧ ¬ h.2.1 m23 = 440 ∧ ¬ h.2.1 m23 = 59) from by omega) (by rw [km23]; decide)) (h2_q_5.G hm26 (show ¬ (h.1 m26 = 11 ∨ h.1 m26 = 7 ∧ ¬ h.2.1 m26 = 2 ∨ m26 = f9 ∧ h.1 m26 = 0 ∨ h.1 m26 = 300 ∧ ¬ h.2.1 m26 = 440 ∧ ¬ h.2.1 m26 = 59) from by omega) (by rw [km26]; decide)) (h2_q_5.G hm28 (show ¬ (h.1 m28 = 11 ∨ h.1 m28 = 7 ∧ ¬ h.2.1 m28 = 2 ∨ m28 = f9 ∧ h.1 m28 = 0 ∨ h.1 m28 = 300 ∧ ¬ h.2.1 m28 = 440 ∧ ¬ h.2.1 m28 = 59) from by omega) (by rw [km28]; decide)) (h2_q_5.G hm29 (show ¬ (h.1 m29 = 11 ∨ h.1 m29 = 7 ∧ ¬ h.2.1 m29 = 2 ∨ m29 = f9 ∧ h.1 m29 = 0 ∨ h.1 m29 = 300 ∧ ¬ h.2.1 m29 = 440 ∧ ¬ h.2.1 m29 = 59) from by omega) (by rw [km29]; decide)) mS
  have mL_q_5 : mv_L m40 m41 m44 a0 q_5 := mv_L.eq (h2_q_5.G hm40 (show ¬ (h.1 m40 = 11 ∨ h.1 m40 = 7 ∧ ¬ h.2.1 m40 = 2 ∨ m40 = f9 ∧ h.1 m40 = 0 ∨ h.1 m40 = 300 ∧ ¬ h.2.1 m40 = 440 ∧ ¬ h.2.1 m40 = 59) from by omega) (by rw [km40]; decide)) (h2_q_5.G hm41 (show ¬ (h.1 m41 = 11 ∨ h.1 m41 = 7 ∧ ¬ h.2.1 m41 = 2 ∨ m41 = f9 ∧ h.1 m41 = 0 ∨ h.1 m41 = 300 ∧ ¬ h.2.1 m41 = 440 ∧ ¬ h.2.1 m41 = 59) from by omega) (by rw [km41]; decide)) (h2_q_5.G hm44 (show ¬ (h.1 m44 = 11 ∨ h.1 m44 = 7 ∧ ¬ h.2.1 m44 = 2 ∨ m44 = f9 ∧ h.1 m44 = 0 ∨ h.1 m44 = 300 ∧ ¬ h.2.1 m44 = 440 ∧ ¬ h.2.1 m44 = 59) from by omega) (by rw [km44]; decide)) (h2_q_5.I ha0 (show ¬ (h.1 a0 = 11 ∨ h.1 a0 = 7 ∧ ¬ h.2.1 a0 = 2 ∨ a0 = f9 ∧ h.1 a0 = 0 ∨ h.1 a0 = 300 ∧ ¬ h.2.1 a0 = 440 ∧ ¬ h.2.1 a0 = 59) from by omega) 45) mL
  have hB_q_5 := v9w_7.trans esu
  refine wa_pop B dL_law_629 rfl ?_
  refine wa_aload_n B dL_law_630 rfl 2 rfl ?_
  refine wa_aload_n B dL_law_631 rfl 4 rfl ?_
  refine wa_iload B dL_law_632 0 rfl ?_
  refine wa_iconst B 1 dL_law_634 (by decide) ?_
  refine wa_iadd B dL_law_635 (fun v_8 ev_8 => ?_)
  subst ev_8
  refine wa_sld B hX hbl hbA (i := (i + 1)) (show 0 ≤ (i + 1).toInt by omega) (show (i + 1).toInt < (N : Int) by omega) dL_law_636 ?_
  refine wa_aload_n B dL_law_637 rfl 4 rfl ?_
  refine wa_iload B dL_law_638 0 rfl ?_
  refine wa_iconst B 2 dL_law_640 (by decide) ?_
  refine wa_iadd B dL_law_641 (fun v_9 ev_9 => ?_)
  subst ev_9
  refine wa_sld B hX hbl hbA (i := (i + 2)) (show 0 ≤ (i + 2).toInt by omega) (show (i + 2).toInt < (N : Int) by omega) dL_law_642 ?_
  have z_10 : q_5.2.2.1 a0 1 = m1 := (h2_q_5.R ha0 (fun z9 => absurd z9.2 (by omega)) 1).trans (em1)
  have z_11 : q_5.2.2.1 a0 40 = m40 := (h2_q_5.R ha0 (fun z9 => absurd z9.2 (by omega)) 40).trans (em40)
  have z_12 : q_5.2.2.1 a0 44 = m44 := (h2_q_5.R ha0 (fun z9 => absurd z9.2 (by omega)) 44).trans (em44)
  have z_13 : q_5.2.2.1 a0 41 = m41 := (h2_q_5.R ha0 (fun z9 => absurd z9.2 (by omega)) 41).trans (em41)
  have z_14 : q_5.2.2.1 a0 42 = m42 := (h2_q_5.R ha0 (fun z9 => absurd z9.2 (by omega)) 42).trans (em42)
  have z_15 : q_5.2.2.1 a0 43 = m43 := (h2_q_5.R ha0 (fun z9 => absurd z9.2 (by omega)) 43).trans (em43)
  have z_16 : q_5.1 a0 2 = q.1 a0 2 := h2_q_5.I ha0 (show ¬ (h.1 a0 = 11 ∨ h.1 a0 = 7 ∧ ¬ h.2.1 a0 = 2 ∨ a0 = f9 ∧ h.1 a0 = 0 ∨ h.1 a0 = 300 ∧ ¬ h.2.1 a0 = 440 ∧ ¬ h.2.1 a0 = 59) from by omega) 2
  have y_17 : (q_5.1 a0 2).toInt = (q.1 a0 2).toInt := by rw [z_16]
  have z_18 : q_5.1 a0 45 = q.1 a0 45 := h2_q_5.I ha0 (show ¬ (h.1 a0 = 11 ∨ h.1 a0 = 7 ∧ ¬ h.2.1 a0 = 2 ∨ a0 = f9 ∧ h.1 a0 = 0 ∨ h.1 a0 = 300 ∧ ¬ h.2.1 a0 = 440 ∧ ¬ h.2.1 a0 = 59) from by omega) 45
  have y_19 : (q_5.1 a0 45).toInt = (q.1 a0 45).toInt := by rw [z_18]
  refine wa_callVi B (x := (RX12, TX12, 51)) (As := [.int ((xs ((i + 1) : Int32).toNatClampNeg)), .int ((xs ((i + 2) : Int32).toNatClampNeg))]) (rest := []) (k_X12_fragment_c l dC dI h L hN q_5 hV_q_5 (a0 := a0) ha0 ka0 ((xs ((i + 1) : Int32).toNatClampNeg)) ((xs ((i + 2) : Int32).toNatClampNeg)) (m1 := m1) z_10 (m40 := m40) z_11 (m44 := m44) z_12 (m41 := m41) z_13 (m42 := m42) z_14 (m43 := m43) z_15 mL_q_5 ) (cwV 2 B.1.2.2.2.2 gL_law_X12_fragment rfl rfl rfl (by decide +kernel) ⟨Nat.le_of_ble_eq_true rfl, Nat.le_of_ble_eq_true rfl⟩) ha0 ka0 (by decide) rfl rfl rfl (Nat.le_of_ble_eq_true rfl) dL_law_643 (fun r_21 q_20 w_22 => ?_)
  obtain ⟨hV_q_20, h2_q_20, h3_q_20, mL_q_20, hw_22⟩ := w_22
  obtain ⟨a9w_22, b9w_22, y9w_22⟩ := hw_22
  replace y9w_22 := lc_hd.i y9w_22
  have z_23 : q_5.2.2.2.1 m1 = q.2.2.2.1 m1 := h2_q_5.G hm1 (show ¬ (h.1 m1 = 11 ∨ h.1 m1 = 7 ∧ ¬ h.2.1 m1 = 2 ∨ m1 = f9 ∧ h.1 m1 = 0 ∨ h.1 m1 = 300 ∧ ¬ h.2.1 m1 = 440 ∧ ¬ h.2.1 m1 = 59) from by omega) (by rw [km1]; decide)
  have z_24 : q_5.2.2.2.1 m44 = q.2.2.2.1 m44 := h2_q_5.G hm44 (show ¬ (h.1 m44 = 11 ∨ h.1 m44 = 7 ∧ ¬ h.2.1 m44 = 2 ∨ m44 = f9 ∧ h.1 m44 = 0 ∨ h.1 m44 = 300 ∧ ¬ h.2.1 m44 = 440 ∧ ¬ h.2.1 m44 = 59) from by omega) (by rw [km44]; decide)
  have mN_q_20 : mv_N a0 q_20 := mv_N.eq (h3_q_20.1 8 (by decide)) (h3_q_20.2 11 (by decide)) mN_q_5
  have mF_q_20 : mv_F m18 m19 q_20 := mv_F.eq (h2_q_20.G hm18 (show ¬ (h.1 m18 = 12 ∨ h.1 m18 = 150 ∨ h.1 m18 = 154 ∨ h.1 m18 = 151 ∨ h.1 m18 = 152 ∨ h.1 m18 = 153) from (fun z => z.elim (fun z => absurd (z.symm.trans km18) (by decide)) (fun z => z.elim (fun z => absurd (z.symm.trans km18) (by decide)) (fun z => z.elim (fun z => absurd (z.symm.trans km18) (by decide)) (fun z => z.elim (fun z => absurd (z.symm.trans km18) (by decide)) (fun z => z.elim (fun z => absurd (z.symm.trans km18) (by decide)) (fun z => absurd (z.symm.trans km18) (by decide)))))))) (by rw [km18]; decide)) (h2_q_20.G hm19 (show ¬ (h.1 m19 = 12 ∨ h.1 m19 = 150 ∨ h.1 m19 = 154 ∨ h.1 m19 = 151 ∨ h.1 m19 = 152 ∨ h.1 m19 = 153) from (fun z => z.elim (fun z => absurd (z.symm.trans km19) (by decide)) (fun z => z.elim (fun z => absurd (z.symm.trans km19) (by decide)) (fun z => z.elim (fun z => absurd (z.symm.trans km19) (by decide)) (fun z => z.elim (fun z => absurd (z.symm.trans km19) (by decide)) (fun z => z.elim (fun z => absurd (z.symm.trans km19) (by decide)) (fun z => absurd (z.symm.trans km19) (by decide)))))))) (by rw [km19]; decide)) mF_q_5
  have mU_q_20 : mv_U m17 q_20 := mv_U.eq (h2_q_20.Lg hm17 (show ¬ (h.1 m17 = 12 ∨ h.1 m17 = 150 ∨ h.1 m17 = 154 ∨ h.1 m17 = 151 ∨ h.1 m17 = 152 ∨ h.1 m17 = 153) from (fun z => z.elim (fun z => absurd (z.symm.trans km17) (by decide)) (fun z => z.elim (fun z => absurd (z.symm.trans km17) (by decide)) (fun z => z.elim (fun z => absurd (z.symm.trans km17) (by decide)) (fun z => z.elim (fun z => absurd (z.symm.trans km17) (by decide)) (fun z => z.elim (fun z => absurd (z.symm.trans km17) (by decide)) (fun z => absurd (z.symm.trans km17) (by decide)))))))) (by rw [km17]; decide)) mU_q_5
  have mS_q_20 : mv_S m23 m26 m28 m29 q_20 := mv_S.eq (h2_q_20.G hm23 (show ¬ (h.1 m23 = 12 ∨ h.1 m23 = 150 ∨ h.1 m23 = 154 ∨ h.1 m23 = 151 ∨ h.1 m23 = 152 ∨ h.1 m23 = 153) from (fun z => z.elim (fun z => absurd (z.symm.trans km23) (by decide)) (fun z => z.elim (fun z => absurd (z.symm.trans km23) (by decide)) (fun z => z.elim (fun z => absurd (z.symm.trans km23) (by decide)) (fun z => z.elim (fun z => absurd (z.symm.trans km23) (by decide)) (fun z => z.elim (fun z => absurd (z.symm.trans km23) (by decide)) (fun z => absurd (z.symm.trans km23) (by decide)))))))) (by rw [km23]; decide)) (h2_q_20.G hm26 (show ¬ (h.1 m26 = 12 ∨ h.1 m26 = 150 ∨ h.1 m26 = 154 ∨ h.1 m26 = 151 ∨ h.1 m26 = 152 ∨ h.1 m26 = 153) from (fun z => z.elim (fun z => absurd (z.symm.trans km26) (by decide)) (fun z => z.elim (fun z => absurd (z.symm.trans km26) (by decide)) (fun z => z.elim (fun z => absurd (z.symm.trans km26) (by decide)) (fun z => z.elim (fun z => absurd (z.symm.trans km26) (by decide)) (fun z => z.elim (fun z => absurd (z.symm.trans km26) (by decide)) (fun z => absurd (z.symm.trans km26) (by decide)))))))) (by rw [km26]; decide)) (h2_q_20.G hm28 (show ¬ (h.1 m28 = 12 ∨ h.1 m28 = 150 ∨ h.1 m28 = 154 ∨ h.1 m28 = 151 ∨ h.1 m28 = 152 ∨ h.1 m28 = 153) from (fun z => z.elim (fun z => absurd (z.symm.trans km28) (by decide)) (fun z => z.elim (fun z => absurd (z.symm.trans km28) (by decide)) (fun z => z.elim (fun z => absurd (z.symm.trans km28) (by decide)) (fun z => z.elim (fun z => absurd (z.symm.trans km28) (by decide)) (fun z => z.elim (fun z => absurd (z.symm.trans km28) (by decide)) (fun z => absurd (z.symm.trans km28) (by decide)))))))) (by rw [km28]; decide)) (h2_q_20.G hm29 (show ¬ (h.1 m29 = 12 ∨ h.1 m29 = 150 ∨ h.1 m29 = 154 ∨ h.1 m29 = 151 ∨ h.1 m29 = 152 ∨ h.1 m29 = 153) from (fun z => z.elim (fun z => absurd (z.symm.trans km29) (by decide)) (fun z => z.elim (fun z => absurd (z.symm.trans km29) (by decide)) (fun z => z.elim (fun z => absurd (z.symm.trans km29) (by decide)) (fun z => z.elim (fun z => absurd (z.symm.trans km29) (by decide)) (fun z => z.elim (fun z => absurd (z.symm.trans km29) (by decide)) (fun z => absurd (z.symm.trans km29) (by decide)))))))) (by rw [km29]; decide)) mS_q_5
  refine wa_pop B dL_law_646 rfl ?_
  refine wa_goto B 775 dL_law_647 (by decide) ?_
  have z_25 : q_20.1 t0 1 = q_5.1 t0 1 := h2_q_20.I ht0 (show ¬ (h.1 t0 = 12 ∨ h.1 t0 = 150 ∨ h.1 t0 = 154 ∨ h.1 t0 = 151 ∨ h.1 t0 = 152 ∨ h.1 t0 = 153) from (fun z => z.elim (fun z => absurd (z.symm.trans kt0) (by decide)) (fun z => z.elim (fun z => absurd (z.symm.trans kt0) (by decide)) (fun z => z.elim (fun z => absurd (z.symm.trans kt0) (by decide)) (fun z => z.elim (fun z => absurd (z.symm.trans kt0) (by decide)) (fun z => z.elim (fun z => absurd (z.symm.trans kt0) (by decide)) (fun z => absurd (z.symm.trans kt0) (by decide)))))))) 1
  have y_26 : (q_20.1 t0 1).toInt = (q_5.1 t0 1).toInt := by rw [z_25]
  have z_27 : q_20.1 x0 14 = q_5.1 x0 14 := h2_q_20.I hx0 (show ¬ (h.1 x0 = 12 ∨ h.1 x0 = 150 ∨ h.1 x0 = 154 ∨ h.1 x0 = 151 ∨ h.1 x0 = 152 ∨ h.1 x0 = 153) from (fun z => z.elim (fun z => absurd (z.symm.trans kx0) (by decide)) (fun z => z.elim (fun z => absurd (z.symm.trans kx0) (by decide)) (fun z => z.elim (fun z => absurd (z.symm.trans kx0) (by decide)) (fun z => z.elim (fun z => absurd (z.symm.trans kx0) (by decide)) (fun z => z.elim (fun z => absurd (z.symm.trans kx0) (by decide)) (fun z => absurd (z.symm.trans kx0) (by decide)))))))) 14
  have y_28 : (q_20.1 x0 14).toInt = (q_5.1 x0 14).toInt := by rw [z_27]
  have z_29 : q_20.2.2.1 x0 0 = t0 := (h2_q_20.R hx0 (show ¬ ((h.1 x0 = 12 ∨ h.1 x0 = 150 ∨ h.1 x0 = 154 ∨ h.1 x0 = 151 ∨ h.1 x0 = 152 ∨ h.1 x0 = 153) ∧ (h.1 x0 = 8 ∨ h.1 x0 = 11)) from fun z9 => (show ¬ (h.1 x0 = 12 ∨ h.1 x0 = 150 ∨ h.1 x0 = 154 ∨ h.1 x0 = 151 ∨ h.1 x0 = 152 ∨ h.1 x0 = 153) from (fun z => z.elim (fun z => absurd (z.symm.trans kx0) (by decide)) (fun z => z.elim (fun z => absurd (z.symm.trans kx0) (by decide)) (fun z => z.elim (fun z => absurd (z.symm.trans kx0) (by decide)) (fun z => z.elim (fun z => absurd (z.symm.trans kx0) (by decide)) (fun z => z.elim (fun z => absurd (z.symm.trans kx0) (by decide)) (fun z => absurd (z.symm.trans kx0) (by decide)))))))) z9.1) 0).trans (a9w_7)
  have z_30 : q_20.2.2.1 t0 0 = tb := (h2_q_20.R ht0 (fun z9 => absurd z9.2 (by omega)) 0).trans ((h2_q_5.R ht0 (fun z9 => absurd z9.2 (by omega)) 0).trans (etb))
  have z_31 : q_20.2.2.1 x0 9 = fa := (h2_q_20.R hx0 (show ¬ ((h.1 x0 = 12 ∨ h.1 x0 = 150 ∨ h.1 x0 = 154 ∨ h.1 x0 = 151 ∨ h.1 x0 = 152 ∨ h.1 x0 = 153) ∧ (h.1 x0 = 8 ∨ h.1 x0 = 11)) from fun z9 => (show ¬ (h.1 x0 = 12 ∨ h.1 x0 = 150 ∨ h.1 x0 = 154 ∨ h.1 x0 = 151 ∨ h.1 x0 = 152 ∨ h.1 x0 = 153) from (fun z => z.elim (fun z => absurd (z.symm.trans kx0) (by decide)) (fun z => z.elim (fun z => absurd (z.symm.trans kx0) (by decide)) (fun z => z.elim (fun z => absurd (z.symm.trans kx0) (by decide)) (fun z => z.elim (fun z => absurd (z.symm.trans kx0) (by decide)) (fun z => z.elim (fun z => absurd (z.symm.trans kx0) (by decide)) (fun z => absurd (z.symm.trans kx0) (by decide)))))))) z9.1) 9).trans (d9w_7.1)
  have hT9 : ty_T (q_20.2.2.2.1 tb) (q_20.2.2.2.1 m1) (q_20.1 t0 1).toInt.toNat := by rw [show (q_20.1 t0 1).toInt.toNat = 0 by omega]; exact fun j hj => absurd hj (Nat.not_lt_zero j)
  have hR9 : lc_R h fa m44 x0 q_20 := by
    intro f hf
    exact lc_frag (n1 := (xs (i + 1 : Int32).toNatClampNeg)) (n2 := (xs (i + 2 : Int32).toNatClampNeg)) hfd hV hV_q_20 hfa kfa lfa hx0 kx0 hT hR hte hfe e9f k9f (fun e9 he9 ke9 ne9 => h2_q_5.I he9 (show ¬ (h.1 e9 = 11 ∨ h.1 e9 = 7 ∧ ¬ h.2.1 e9 = 2 ∨ e9 = f9 ∧ h.1 e9 = 0 ∨ h.1 e9 = 300 ∧ ¬ h.2.1 e9 = 440 ∧ ¬ h.2.1 e9 = 59) from by omega) 3) (fun e9 he9 ke9 => h2_q_20.I he9 (show ¬ (h.1 e9 = 12 ∨ h.1 e9 = 150 ∨ h.1 e9 = 154 ∨ h.1 e9 = 151 ∨ h.1 e9 = 152 ∨ h.1 e9 = 153) from by omega) 3) (h2_q_20.I hx0 (show ¬ (h.1 x0 = 12 ∨ h.1 x0 = 150 ∨ h.1 x0 = 154 ∨ h.1 x0 = 151 ∨ h.1 x0 = 152 ∨ h.1 x0 = 153) from (fun z => z.elim (fun z => absurd (z.symm.trans kx0) (by decide)) (fun z => z.elim (fun z => absurd (z.symm.trans kx0) (by decide)) (fun z => z.elim (fun z => absurd (z.symm.trans kx0) (by decide)) (fun z => z.elim (fun z => absurd (z.symm.trans kx0) (by decide)) (fun z => z.elim (fun z => absurd (z.symm.trans kx0) (by decide)) (fun z => absurd (z.symm.trans kx0) (by decide)))))))) 14) (h2_q_5.I ha0 (show ¬ (h.1 a0 = 11 ∨ h.1 a0 = 7 ∧ ¬ h.2.1 a0 = 2 ∨ a0 = f9 ∧ h.1 a0 = 0 ∨ h.1 a0 = 300 ∧ ¬ h.2.1 a0 = 440 ∧ ¬ h.2.1 a0 = 59) from by omega) 2) (h2_q_5.I ha0 (show ¬ (h.1 a0 = 11 ∨ h.1 a0 = 7 ∧ ¬ h.2.1 a0 = 2 ∨ a0 = f9 ∧ h.1 a0 = 0 ∨ h.1 a0 = 300 ∧ ¬ h.2.1 a0 = 440 ∧ ¬ h.2.1 a0 = 59) from by omega) 45) (h2_q_5.G hm1 (show ¬ (h.1 m1 = 11 ∨ h.1 m1 = 7 ∧ ¬ h.2.1 m1 = 2 ∨ m1 = f9 ∧ h.1 m1 = 0 ∨ h.1 m1 = 300 ∧ ¬ h.2.1 m1 = 440 ∧ ¬ h.2.1 m1 = 59) from by omega) (by rw [km1]; decide)) (h2_q_5.G hm44 (show ¬ (h.1 m44 = 11 ∨ h.1 m44 = 7 ∧ ¬ h.2.1 m44 = 2 ∨ m44 = f9 ∧ h.1 m44 = 0 ∨ h.1 m44 = 300 ∧ ¬ h.2.1 m44 = 440 ∧ ¬ h.2.1 m44 = 59) from by omega) (by rw [km44]; decide)) c9w_7 y9w_7 y9w_22 f hf
  have hR_uu : q_20.2.2.1 uu = q.2.2.1 uu := by rw [show q_20.2.2.1 uu = q_5.2.2.1 uu from h2_q_20.2 uu huu (fun z9 => absurd z9.2 (by rw [kuu]; decide)), show q_5.2.2.1 uu = q.2.2.1 uu from h2_q_5.2 uu huu (fun z9 => absurd z9.2 (by rw [kuu]; decide))]
  have hR_su : q_20.2.2.1 su = q.2.2.1 su := by rw [show q_20.2.2.1 su = q_5.2.2.1 su from h2_q_20.2 su hsu (fun z9 => absurd z9.2 (by rw [ksu]; decide)), show q_5.2.2.1 su = q.2.2.1 su from h2_q_5.2 su hsu (fun z9 => absurd z9.2 (by rw [ksu]; decide))]
  have z_32 : q_20.1 o0 1 = q.1 o0 1 := (h2_q_20.I ho0 (show ¬ (h.1 o0 = 12 ∨ h.1 o0 = 150 ∨ h.1 o0 = 154 ∨ h.1 o0 = 151 ∨ h.1 o0 = 152 ∨ h.1 o0 = 153) from (fun z => z.elim (fun z => absurd (z.symm.trans ko0) (by decide)) (fun z => z.elim (fun z => absurd (z.symm.trans ko0) (by decide)) (fun z => z.elim (fun z => absurd (z.symm.trans ko0) (by decide)) (fun z => z.elim (fun z => absurd (z.symm.trans ko0) (by decide)) (fun z => z.elim (fun z => absurd (z.symm.trans ko0) (by decide)) (fun z => absurd (z.symm.trans ko0) (by decide)))))))) 1).trans (h2_q_5.I ho0 (show ¬ (h.1 o0 = 11 ∨ h.1 o0 = 7 ∧ ¬ h.2.1 o0 = 2 ∨ o0 = f9 ∧ h.1 o0 = 0 ∨ h.1 o0 = 300 ∧ ¬ h.2.1 o0 = 440 ∧ ¬ h.2.1 o0 = 59) from by omega) 1)
  have z_33 : q_20.1 a0 22 = q.1 a0 22 := (h3_q_20.1 22 (by decide)).trans (h2_q_5.I ha0 (show ¬ (h.1 a0 = 11 ∨ h.1 a0 = 7 ∧ ¬ h.2.1 a0 = 2 ∨ a0 = f9 ∧ h.1 a0 = 0 ∨ h.1 a0 = 300 ∧ ¬ h.2.1 a0 = 440 ∧ ¬ h.2.1 a0 = 59) from by omega) 22)
  have z_34 : q_20.2.2.2.1 ob = q.2.2.2.1 ob := (h2_q_20.G hob (show ¬ (h.1 ob = 12 ∨ h.1 ob = 150 ∨ h.1 ob = 154 ∨ h.1 ob = 151 ∨ h.1 ob = 152 ∨ h.1 ob = 153) from (fun z => z.elim (fun z => absurd (z.symm.trans kob) (by decide)) (fun z => z.elim (fun z => absurd (z.symm.trans kob) (by decide)) (fun z => z.elim (fun z => absurd (z.symm.trans kob) (by decide)) (fun z => z.elim (fun z => absurd (z.symm.trans kob) (by decide)) (fun z => z.elim (fun z => absurd (z.symm.trans kob) (by decide)) (fun z => absurd (z.symm.trans kob) (by decide)))))))) (by rw [kob]; decide)).trans (h2_q_5.G hob (show ¬ (h.1 ob = 11 ∨ h.1 ob = 7 ∧ ¬ h.2.1 ob = 2 ∨ ob = f9 ∧ h.1 ob = 0 ∨ h.1 ob = 300 ∧ ¬ h.2.1 ob = 440 ∧ ¬ h.2.1 ob = 59) from by omega) (by rw [kob]; decide))
  have z_35 : q_20.2.2.2.1 m21 = q.2.2.2.1 m21 := (h2_q_20.G hm21 (show ¬ (h.1 m21 = 12 ∨ h.1 m21 = 150 ∨ h.1 m21 = 154 ∨ h.1 m21 = 151 ∨ h.1 m21 = 152 ∨ h.1 m21 = 153) from (fun z => z.elim (fun z => absurd (z.symm.trans km21) (by decide)) (fun z => z.elim (fun z => absurd (z.symm.trans km21) (by decide)) (fun z => z.elim (fun z => absurd (z.symm.trans km21) (by decide)) (fun z => z.elim (fun z => absurd (z.symm.trans km21) (by decide)) (fun z => z.elim (fun z => absurd (z.symm.trans km21) (by decide)) (fun z => absurd (z.symm.trans km21) (by decide)))))))) (by rw [km21]; decide)).trans (h2_q_5.G hm21 (show ¬ (h.1 m21 = 11 ∨ h.1 m21 = 7 ∧ ¬ h.2.1 m21 = 2 ∨ m21 = f9 ∧ h.1 m21 = 0 ∨ h.1 m21 = 300 ∧ ¬ h.2.1 m21 = 440 ∧ ¬ h.2.1 m21 = 59) from by omega) (by rw [km21]; decide))
  have hout9 : lc_o (q_20.1 o0 1) (q_20.1 a0 22) (q_20.2.2.2.1 ob) (q_20.2.2.2.1 (mm 21)) := by rw [← xm21, z_32, z_33, z_34, z_35]; exact hout
  have z_36 : q_20.2.2.1 x0 1 = o0 := (h2_q_20.R hx0 (show ¬ ((h.1 x0 = 12 ∨ h.1 x0 = 150 ∨ h.1 x0 = 154 ∨ h.1 x0 = 151 ∨ h.1 x0 = 152 ∨ h.1 x0 = 153) ∧ (h.1 x0 = 8 ∨ h.1 x0 = 11)) from fun z9 => (show ¬ (h.1 x0 = 12 ∨ h.1 x0 = 150 ∨ h.1 x0 = 154 ∨ h.1 x0 = 151 ∨ h.1 x0 = 152 ∨ h.1 x0 = 153) from (fun z => z.elim (fun z => absurd (z.symm.trans kx0) (by decide)) (fun z => z.elim (fun z => absurd (z.symm.trans kx0) (by decide)) (fun z => z.elim (fun z => absurd (z.symm.trans kx0) (by decide)) (fun z => z.elim (fun z => absurd (z.symm.trans kx0) (by decide)) (fun z => z.elim (fun z => absurd (z.symm.trans kx0) (by decide)) (fun z => absurd (z.symm.trans kx0) (by decide)))))))) z9.1) 1).trans (d9w_7.2)
  have z_37 : q_20.2.2.1 o0 0 = ob := (h2_q_20.R ho0 (fun z9 => absurd z9.2 (by omega)) 0).trans ((h2_q_5.R ho0 (fun z9 => absurd z9.2 (by omega)) 0).trans (eob))
  have z_38 : q_20.1 uu 6 = q.1 uu 6 := (h2_q_20.I huu (show ¬ (h.1 uu = 12 ∨ h.1 uu = 150 ∨ h.1 uu = 154 ∨ h.1 uu = 151 ∨ h.1 uu = 152 ∨ h.1 uu = 153) from (fun z => z.elim (fun z => absurd (z.symm.trans kuu) (by decide)) (fun z => z.elim (fun z => absurd (z.symm.trans kuu) (by decide)) (fun z => z.elim (fun z => absurd (z.symm.trans kuu) (by decide)) (fun z => z.elim (fun z => absurd (z.symm.trans kuu) (by decide)) (fun z => z.elim (fun z => absurd (z.symm.trans kuu) (by decide)) (fun z => absurd (z.symm.trans kuu) (by decide)))))))) 6).trans (h2_q_5.I huu (show ¬ (h.1 uu = 11 ∨ h.1 uu = 7 ∧ ¬ h.2.1 uu = 2 ∨ uu = f9 ∧ h.1 uu = 0 ∨ h.1 uu = 300 ∧ ¬ h.2.1 uu = 440 ∧ ¬ h.2.1 uu = 59) from by omega) 6)
  have z_39 : q_20.1 a0 20 = q.1 a0 20 := (h3_q_20.1 20 (by decide)).trans (h2_q_5.I ha0 (show ¬ (h.1 a0 = 11 ∨ h.1 a0 = 7 ∧ ¬ h.2.1 a0 = 2 ∨ a0 = f9 ∧ h.1 a0 = 0 ∨ h.1 a0 = 300 ∧ ¬ h.2.1 a0 = 440 ∧ ¬ h.2.1 a0 = 59) from by omega) 20)
  have z_40 : q_20.2.2.2.1 uc = q.2.2.2.1 uc := (h2_q_20.G huc (show ¬ (h.1 uc = 12 ∨ h.1 uc = 150 ∨ h.1 uc = 154 ∨ h.1 uc = 151 ∨ h.1 uc = 152 ∨ h.1 uc = 153) from (fun z => z.elim (fun z => absurd (z.symm.trans kuc) (by decide)) (fun z => z.elim (fun z => absurd (z.symm.trans kuc) (by decide)) (fun z => z.elim (fun z => absurd (z.symm.trans kuc) (by decide)) (fun z => z.elim (fun z => absurd (z.symm.trans kuc) (by decide)) (fun z => z.elim (fun z => absurd (z.symm.trans kuc) (by decide)) (fun z => absurd (z.symm.trans kuc) (by decide)))))))) (by rw [kuc]; decide)).trans (h2_q_5.G huc (show ¬ (h.1 uc = 11 ∨ h.1 uc = 7 ∧ ¬ h.2.1 uc = 2 ∨ uc = f9 ∧ h.1 uc = 0 ∨ h.1 uc = 300 ∧ ¬ h.2.1 uc = 440 ∧ ¬ h.2.1 uc = 59) from by omega) (by rw [kuc]; decide))
  have z_41 : q_20.2.2.2.1 m18 = q.2.2.2.1 m18 := (h2_q_20.G hm18 (show ¬ (h.1 m18 = 12 ∨ h.1 m18 = 150 ∨ h.1 m18 = 154 ∨ h.1 m18 = 151 ∨ h.1 m18 = 152 ∨ h.1 m18 = 153) from (fun z => z.elim (fun z => absurd (z.symm.trans km18) (by decide)) (fun z => z.elim (fun z => absurd (z.symm.trans km18) (by decide)) (fun z => z.elim (fun z => absurd (z.symm.trans km18) (by decide)) (fun z => z.elim (fun z => absurd (z.symm.trans km18) (by decide)) (fun z => z.elim (fun z => absurd (z.symm.trans km18) (by decide)) (fun z => absurd (z.symm.trans km18) (by decide)))))))) (by rw [km18]; decide)).trans (h2_q_5.G hm18 (show ¬ (h.1 m18 = 11 ∨ h.1 m18 = 7 ∧ ¬ h.2.1 m18 = 2 ∨ m18 = f9 ∧ h.1 m18 = 0 ∨ h.1 m18 = 300 ∧ ¬ h.2.1 m18 = 440 ∧ ¬ h.2.1 m18 = 59) from by omega) (by rw [km18]; decide))
  have z_42 : q_20.2.2.2.1 uf = q.2.2.2.1 uf := (h2_q_20.G huf (show ¬ (h.1 uf = 12 ∨ h.1 uf = 150 ∨ h.1 uf = 154 ∨ h.1 uf = 151 ∨ h.1 uf = 152 ∨ h.1 uf = 153) from (fun z => z.elim (fun z => absurd (z.symm.trans kuf) (by decide)) (fun z => z.elim (fun z => absurd (z.symm.trans kuf) (by decide)) (fun z => z.elim (fun z => absurd (z.symm.trans kuf) (by decide)) (fun z => z.elim (fun z => absurd (z.symm.trans kuf) (by decide)) (fun z => z.elim (fun z => absurd (z.symm.trans kuf) (by decide)) (fun z => absurd (z.symm.trans kuf) (by decide)))))))) (by rw [kuf]; decide)).trans (h2_q_5.G huf (show ¬ (h.1 uf = 11 ∨ h.1 uf = 7 ∧ ¬ h.2.1 uf = 2 ∨ uf = f9 ∧ h.1 uf = 0 ∨ h.1 uf = 300 ∧ ¬ h.2.1 uf = 440 ∧ ¬ h.2.1 uf = 59) from by omega) (by rw [kuf]; decide))
  have z_43 : q_20.2.2.2.1 m19 = q.2.2.2.1 m19 := (h2_q_20.G hm19 (show ¬ (h.1 m19 = 12 ∨ h.1 m19 = 150 ∨ h.1 m19 = 154 ∨ h.1 m19 = 151 ∨ h.1 m19 = 152 ∨ h.1 m19 = 153) from (fun z => z.elim (fun z => absurd (z.symm.trans km19) (by decide)) (fun z => z.elim (fun z => absurd (z.symm.trans km19) (by decide)) (fun z => z.elim (fun z => absurd (z.symm.trans km19) (by decide)) (fun z => z.elim (fun z => absurd (z.symm.trans km19) (by decide)) (fun z => z.elim (fun z => absurd (z.symm.trans km19) (by decide)) (fun z => absurd (z.symm.trans km19) (by decide)))))))) (by rw [km19]; decide)).trans (h2_q_5.G hm19 (show ¬ (h.1 m19 = 11 ∨ h.1 m19 = 7 ∧ ¬ h.2.1 m19 = 2 ∨ m19 = f9 ∧ h.1 m19 = 0 ∨ h.1 m19 = 300 ∧ ¬ h.2.1 m19 = 440 ∧ ¬ h.2.1 m19 = 59) from by omega) (by rw [km19]; decide))
  have z_44 : q_20.2.2.2.1 uw = q.2.2.2.1 uw := (h2_q_20.G huw (show ¬ (h.1 uw = 12 ∨ h.1 uw = 150 ∨ h.1 uw = 154 ∨ h.1 uw = 151 ∨ h.1 uw = 152 ∨ h.1 uw = 153) from (fun z => z.elim (fun z => absurd (z.symm.trans kuw) (by decide)) (fun z => z.elim (fun z => absurd (z.symm.trans kuw) (by decide)) (fun z => z.elim (fun z => absurd (z.symm.trans kuw) (by decide)) (fun z => z.elim (fun z => absurd (z.symm.trans kuw) (by decide)) (fun z => z.elim (fun z => absurd (z.symm.trans kuw) (by decide)) (fun z => absurd (z.symm.trans kuw) (by decide)))))))) (by rw [kuw]; decide)).trans (h2_q_5.G huw (show ¬ (h.1 uw = 11 ∨ h.1 uw = 7 ∧ ¬ h.2.1 uw = 2 ∨ uw = f9 ∧ h.1 uw = 0 ∨ h.1 uw = 300 ∧ ¬ h.2.1 uw = 440 ∧ ¬ h.2.1 uw = 59) from by omega) (by rw [kuw]; decide))
  have z_45 : q_20.2.2.2.2 un = q.2.2.2.2 un := (h2_q_20.Lg hun (show ¬ (h.1 un = 12 ∨ h.1 un = 150 ∨ h.1 un = 154 ∨ h.1 un = 151 ∨ h.1 un = 152 ∨ h.1 un = 153) from (fun z => z.elim (fun z => absurd (z.symm.trans kun) (by decide)) (fun z => z.elim (fun z => absurd (z.symm.trans kun) (by decide)) (fun z => z.elim (fun z => absurd (z.symm.trans kun) (by decide)) (fun z => z.elim (fun z => absurd (z.symm.trans kun) (by decide)) (fun z => z.elim (fun z => absurd (z.symm.trans kun) (by decide)) (fun z => absurd (z.symm.trans kun) (by decide)))))))) (by rw [kun]; decide)).trans (h2_q_5.Lg hun (show ¬ (h.1 un = 11 ∨ h.1 un = 7 ∧ ¬ h.2.1 un = 2 ∨ un = f9 ∧ h.1 un = 0 ∨ h.1 un = 300 ∧ ¬ h.2.1 un = 440 ∧ ¬ h.2.1 un = 59) from by omega) (by rw [kun]; decide))
  have z_46 : q_20.2.2.2.2 m17 = q.2.2.2.2 m17 := (h2_q_20.Lg hm17 (show ¬ (h.1 m17 = 12 ∨ h.1 m17 = 150 ∨ h.1 m17 = 154 ∨ h.1 m17 = 151 ∨ h.1 m17 = 152 ∨ h.1 m17 = 153) from (fun z => z.elim (fun z => absurd (z.symm.trans km17) (by decide)) (fun z => z.elim (fun z => absurd (z.symm.trans km17) (by decide)) (fun z => z.elim (fun z => absurd (z.symm.trans km17) (by decide)) (fun z => z.elim (fun z => absurd (z.symm.trans km17) (by decide)) (fun z => z.elim (fun z => absurd (z.symm.trans km17) (by decide)) (fun z => absurd (z.symm.trans km17) (by decide)))))))) (by rw [km17]; decide)).trans (h2_q_5.Lg hm17 (show ¬ (h.1 m17 = 11 ∨ h.1 m17 = 7 ∧ ¬ h.2.1 m17 = 2 ∨ m17 = f9 ∧ h.1 m17 = 0 ∨ h.1 m17 = 300 ∧ ¬ h.2.1 m17 = 440 ∧ ¬ h.2.1 m17 = 59) from by omega) (by rw [km17]; decide))
  have hu9 : lc_uq8 q_20 a0 uu (mm 17) (mm 18) (mm 19) := by unfold lc_uq8; rw [← xm17, ← xm18, ← xm19, hR_uu, euc, euf, euw, eun, z_38, z_39, z_40, z_41, z_42, z_43, z_44, z_45, z_46]; exact hu
  have z_47 : q_20.2.2.1 x0 11 = uu := (h2_q_20.R hx0 (show ¬ ((h.1 x0 = 12 ∨ h.1 x0 = 150 ∨ h.1 x0 = 154 ∨ h.1 x0 = 151 ∨ h.1 x0 = 152 ∨ h.1 x0 = 153) ∧ (h.1 x0 = 8 ∨ h.1 x0 = 11)) from fun z9 => (show ¬ (h.1 x0 = 12 ∨ h.1 x0 = 150 ∨ h.1 x0 = 154 ∨ h.1 x0 = 151 ∨ h.1 x0 = 152 ∨ h.1 x0 = 153) from (fun z => z.elim (fun z => absurd (z.symm.trans kx0) (by decide)) (fun z => z.elim (fun z => absurd (z.symm.trans kx0) (by decide)) (fun z => z.elim (fun z => absurd (z.symm.trans kx0) (by decide)) (fun z => z.elim (fun z => absurd (z.symm.trans kx0) (by decide)) (fun z => z.elim (fun z => absurd (z.symm.trans kx0) (by decide)) (fun z => absurd (z.symm.trans kx0) (by decide)))))))) z9.1) 11).trans (u9w_7)
  have z_48 : q_20.2.2.1 x0 12 = su := (h2_q_20.R hx0 (show ¬ ((h.1 x0 = 12 ∨ h.1 x0 = 150 ∨ h.1 x0 = 154 ∨ h.1 x0 = 151 ∨ h.1 x0 = 152 ∨ h.1 x0 = 153) ∧ (h.1 x0 = 8 ∨ h.1 x0 = 11)) from fun z9 => (show ¬ (h.1 x0 = 12 ∨ h.1 x0 = 150 ∨ h.1 x0 = 154 ∨ h.1 x0 = 151 ∨ h.1 x0 = 152 ∨ h.1 x0 = 153) from (fun z => z.elim (fun z => absurd (z.symm.trans kx0) (by decide)) (fun z => z.elim (fun z => absurd (z.symm.trans kx0) (by decide)) (fun z => z.elim (fun z => absurd (z.symm.trans kx0) (by decide)) (fun z => z.elim (fun z => absurd (z.symm.trans kx0) (by decide)) (fun z => z.elim (fun z => absurd (z.symm.trans kx0) (by decide)) (fun z => absurd (z.symm.trans kx0) (by decide)))))))) z9.1) 12).trans (hB_q_5)
  exact hcont _ _ (Or.inl rfl) ⟨⟨⟨hV_q_20, mN_q_20, by rw [← xm18, ← xm19]; exact mF_q_20, by rw [← xm17]; exact mU_q_20, by rw [← xm23, ← xm26, ← xm28, ← xm29]; exact mS_q_20, by rw [← xm40, ← xm41, ← xm44]; exact mL_q_20, z_29, fun k hk => by rw [show q_20.2.2.1 a0 = q_5.2.2.1 a0 from h2_q_20.2 a0 ha0 (fun z9 => absurd z9.2 (by omega)), show q_5.2.2.1 a0 = q.2.2.1 a0 from h2_q_5.2 a0 ha0 (fun z9 => absurd z9.2 (by omega))]; exact em k hk, by omega, by omega⟩, z_30, z_31, by rw [← xm1]; exact hT9, by rw [← xm44]; exact hR9⟩, uu, su, o0, ob, z_47, z_48, hdz.eq hR_uu hR_su, hu9, ⟨z_36, z_37⟩, hout9⟩
set_option maxHeartbeats 4000000 in
set_option maxRecDepth 100000 in
theorem lc6_650 (l : Launch) (hlst : l.stackTraces = false) {Z : Zt} (dC : Nat → ClassId) (dI : Nat → Nat → Nat) (h : Sh) (L : List Nat) (hN : sx_nd L) (B : BX dC dI h L 7 cL_law RL wsL_law Z) {b N : Nat} {xs : Nat → Int32} (hX : va_X b N xs Z.2.2.1 Z.2.2.1.heap) (hbl : b < Z.2.2.1.heap.size) (hbA : ¬ AL L Z.2.2.1.heap.size b) {x0 a0 ot t0 tb fa : Nat} (hfd : lc_fd h fa) {mm : Nat → Nat} (hx0 : x0 ∈ L) (kx0 : h.1 x0 = 11) (ha0 : a0 ∈ L) (ka0 : h.1 a0 = 12) (hot : ot ∈ L) (kot : h.1 ot = 200) (lot : h.2.1 ot = 1) {i : Int32} (hi0 : 0 ≤ i.toInt) (hi1 : i.toInt + 6 ≤ (N : Int)) (hN2 : N ≤ 3072) (hroom : (zl_more Z).2.2.2.2.2.2.2.2.2.1 ≤ room_1.cells ∧ (zl_more Z).2.2.2.2.2.2.2.2.2.2 ≤ room_1.slots) {q : Sg} (hI : lc_I8 h L x0 a0 t0 tb fa mm q) (hcont : ∀ (Z2 : Zt) (q2 : Sg), (Z2 = Z ∨ Z2 = zl_more Z) → lc_I8 h L x0 a0 t0 tb fa mm q2 → WA l dC dI h L room_1 7 Z2 q2 775 [(4, .int i), (3, .ref ot), (2, .ref a0), (1, .ref x0), (0, .ref b)] []) : WA l dC dI h L room_1 7 Z q 650 [(4, .int i), (3, .ref ot), (2, .ref a0), (1, .ref x0), (0, .ref b)] [] := by
  obtain ⟨hI, uu, su, o0, ob, euu, esu, hdz, hu0, ⟨eo0, eob⟩, hout0⟩ := hI
  obtain ⟨hI, etb, efa, hT0, hR0⟩ := hI
  obtain ⟨hV, mN, mF0, mU0, mS0, mL0, et0, em, hte, hfe⟩ := hI
  obtain ⟨ht0, kt0, lt0⟩ : t0 ∈ L ∧ h.1 t0 = 7 ∧ h.2.1 t0 = 1 := by obtain ⟨r9, e9, z1, z2, z3⟩ := hV.refn (t := 7) (n := 1) hx0 kx0 0 rfl (by decide) rfl (by decide); rw [← et0, e9]; exact ⟨z1, z2, z3⟩
  obtain ⟨m1, xm1⟩ : ∃ z, z = mm 1 := ⟨_, rfl⟩
  have em1 : q.2.2.1 a0 1 = m1 := by rw [xm1]; exact em 1 (by decide)
  obtain ⟨hm1, km1, lm1⟩ : m1 ∈ L ∧ h.1 m1 = 111 ∧ h.2.1 m1 = 440 := by obtain ⟨r9, e9, z1, z2, z3⟩ := hV.refn (t := 111) (n := 440) ha0 ka0 1 rfl (by decide) rfl (by decide); rw [← em1, e9]; exact ⟨z1, z2, z3⟩
  obtain ⟨m3, xm3⟩ : ∃ z, z = mm 3 := ⟨_, rfl⟩
  have em3 : q.2.2.1 a0 3 = m3 := by rw [xm3]; exact em 3 (by decide)
  obtain ⟨hm3, km3, lm3⟩ : m3 ∈ L ∧ h.1 m3 = 113 ∧ h.2.1 m3 = 500 := by obtain ⟨r9, e9, z1, z2, z3⟩ := hV.refn (t := 113) (n := 500) ha0 ka0 3 rfl (by decide) rfl (by decide); rw [← em3, e9]; exact ⟨z1, z2, z3⟩
  obtain ⟨m16, xm16⟩ : ∃ z, z = mm 16 := ⟨_, rfl⟩
  have em16 : q.2.2.1 a0 16 = m16 := by rw [xm16]; exact em 16 (by decide)
  obtain ⟨hm16, km16, lm16⟩ : m16 ∈ L ∧ h.1 m16 = 226 ∧ h.2.1 m16 = 6 := by obtain ⟨r9, e9, z1, z2, z3⟩ := hV.refn (t := 226) (n := 6) ha0 ka0 16 rfl (by decide) rfl (by decide); rw [← em16, e9]; exact ⟨z1, z2, z3⟩
  obtain ⟨m17, xm17⟩ : ∃ z, z = mm 17 := ⟨_, rfl⟩
  have em17 : q.2.2.1 a0 17 = m17 := by rw [xm17]; exact em 17 (by decide)
  obtain ⟨hm17, km17, lm17⟩ : m17 ∈ L ∧ h.1 m17 = 227 ∧ h.2.1 m17 = 30 := by obtain ⟨r9, e9, z1, z2, z3⟩ := hV.refn (t := 227) (n := 30) ha0 ka0 17 rfl (by decide) rfl (by decide); rw [← em17, e9]; exact ⟨z1, z2, z3⟩
  obtain ⟨m18, xm18⟩ : ∃ z, z = mm 18 := ⟨_, rfl⟩
  have em18 : q.2.2.1 a0 18 = m18 := by rw [xm18]; exact em 18 (by decide)
  obtain ⟨hm18, km18, lm18⟩ : m18 ∈ L ∧ h.1 m18 = 128 ∧ h.2.1 m18 = 6 := by obtain ⟨r9, e9, z1, z2, z3⟩ := hV.refn (t := 128) (n := 6) ha0 ka0 18 rfl (by decide) rfl (by decide); rw [← em18, e9]; exact ⟨z1, z2, z3⟩
  obtain ⟨m19, xm19⟩ : ∃ z, z = mm 19 := ⟨_, rfl⟩
  have em19 : q.2.2.1 a0 19 = m19 := by rw [xm19]; exact em 19 (by decide)
  obtain ⟨hm19, km19, lm19⟩ : m19 ∈ L ∧ h.1 m19 = 129 ∧ h.2.1 m19 = 30 := by obtain ⟨r9, e9, z1, z2, z3⟩ := hV.refn (t := 129) (n := 30) ha0 ka0 19 rfl (by decide) rfl (by decide); rw [← em19, e9]; exact ⟨z1, z2, z3⟩
  obtain ⟨m21, xm21⟩ : ∃ z, z = mm 21 := ⟨_, rfl⟩
  have em21 : q.2.2.1 a0 21 = m21 := by rw [xm21]; exact em 21 (by decide)
  obtain ⟨hm21, km21, lm21⟩ : m21 ∈ L ∧ h.1 m21 = 131 ∧ h.2.1 m21 = 80 := by obtain ⟨r9, e9, z1, z2, z3⟩ := hV.refn (t := 131) (n := 80) ha0 ka0 21 rfl (by decide) rfl (by decide); rw [← em21, e9]; exact ⟨z1, z2, z3⟩
  obtain ⟨m23, xm23⟩ : ∃ z, z = mm 23 := ⟨_, rfl⟩
  have em23 : q.2.2.1 a0 23 = m23 := by rw [xm23]; exact em 23 (by decide)
  obtain ⟨hm23, km23, lm23⟩ : m23 ∈ L ∧ h.1 m23 = 133 ∧ h.2.1 m23 = 9 := by obtain ⟨r9, e9, z1, z2, z3⟩ := hV.refn (t := 133) (n := 9) ha0 ka0 23 rfl (by decide) rfl (by decide); rw [← em23, e9]; exact ⟨z1, z2, z3⟩
  obtain ⟨m24, xm24⟩ : ∃ z, z = mm 24 := ⟨_, rfl⟩
  have em24 : q.2.2.1 a0 24 = m24 := by rw [xm24]; exact em 24 (by decide)
  obtain ⟨hm24, km24, lm24⟩ : m24 ∈ L ∧ h.1 m24 = 134 ∧ h.2.1 m24 = 108 := by obtain ⟨r9, e9, z1, z2, z3⟩ := hV.refn (t := 134) (n := 108) ha0 ka0 24 rfl (by decide) rfl (by decide); rw [← em24, e9]; exact ⟨z1, z2, z3⟩
  obtain ⟨m25, xm25⟩ : ∃ z, z = mm 25 := ⟨_, rfl⟩
  have em25 : q.2.2.1 a0 25 = m25 := by rw [xm25]; exact em 25 (by decide)
  obtain ⟨hm25, km25, lm25⟩ : m25 ∈ L ∧ h.1 m25 = 135 ∧ h.2.1 m25 = 108 := by obtain ⟨r9, e9, z1, z2, z3⟩ := hV.refn (t := 135) (n := 108) ha0 ka0 25 rfl (by decide) rfl (by decide); rw [← em25, e9]; exact ⟨z1, z2, z3⟩
  obtain ⟨m26, xm26⟩ : ∃ z, z = mm 26 := ⟨_, rfl⟩
  have em26 : q.2.2.1 a0 26 = m26 := by rw [xm26]; exact em 26 (by decide)
  obtain ⟨hm26, km26, lm26⟩ : m26 ∈ L ∧ h.1 m26 = 136 ∧ h.2.1 m26 = 108 := by obtain ⟨r9, e9, z1, z2, z3⟩ := hV.refn (t := 136) (n := 108) ha0 ka0 26 rfl (by decide) rfl (by decide); rw [← em26, e9]; exact ⟨z1, z2, z3⟩
  obtain ⟨m27, xm27⟩ : ∃ z, z = mm 27 := ⟨_, rfl⟩
  have em27 : q.2.2.1 a0 27 = m27 := by rw [xm27]; exact em 27 (by decide)
  obtain ⟨hm27, km27, lm27⟩ : m27 ∈ L ∧ h.1 m27 = 137 ∧ h.2.1 m27 = 9 := by obtain ⟨r9, e9, z1, z2, z3⟩ := hV.refn (t := 137) (n := 9) ha0 ka0 27 rfl (by decide) rfl (by decide); rw [← em27, e9]; exact ⟨z1, z2, z3⟩
  obtain ⟨m28, xm28⟩ : ∃ z, z = mm 28 := ⟨_, rfl⟩
  have em28 : q.2.2.1 a0 28 = m28 := by rw [xm28]; exact em 28 (by decide)
  obtain ⟨hm28, km28, lm28⟩ : m28 ∈ L ∧ h.1 m28 = 138 ∧ h.2.1 m28 = 540 := by obtain ⟨r9, e9, z1, z2, z3⟩ := hV.refn (t := 138) (n := 540) ha0 ka0 28 rfl (by decide) rfl (by decide); rw [← em28, e9]; exact ⟨z1, z2, z3⟩
  obtain ⟨m29, xm29⟩ : ∃ z, z = mm 29 := ⟨_, rfl⟩
  have em29 : q.2.2.1 a0 29 = m29 := by rw [xm29]; exact em 29 (by decide)
  obtain ⟨hm29, km29, lm29⟩ : m29 ∈ L ∧ h.1 m29 = 139 ∧ h.2.1 m29 = 540 := by obtain ⟨r9, e9, z1, z2, z3⟩ := hV.refn (t := 139) (n := 540) ha0 ka0 29 rfl (by decide) rfl (by decide); rw [← em29, e9]; exact ⟨z1, z2, z3⟩
  obtain ⟨m30, xm30⟩ : ∃ z, z = mm 30 := ⟨_, rfl⟩
  have em30 : q.2.2.1 a0 30 = m30 := by rw [xm30]; exact em 30 (by decide)
  obtain ⟨hm30, km30, lm30⟩ : m30 ∈ L ∧ h.1 m30 = 140 ∧ h.2.1 m30 = 540 := by obtain ⟨r9, e9, z1, z2, z3⟩ := hV.refn (t := 140) (n := 540) ha0 ka0 30 rfl (by decide) rfl (by decide); rw [← em30, e9]; exact ⟨z1, z2, z3⟩
  obtain ⟨m34, xm34⟩ : ∃ z, z = mm 34 := ⟨_, rfl⟩
  have em34 : q.2.2.1 a0 34 = m34 := by rw [xm34]; exact em 34 (by decide)
  obtain ⟨hm34, km34, lm34⟩ : m34 ∈ L ∧ h.1 m34 = 144 ∧ h.2.1 m34 = 4 := by obtain ⟨r9, e9, z1, z2, z3⟩ := hV.refn (t := 144) (n := 4) ha0 ka0 34 rfl (by decide) rfl (by decide); rw [← em34, e9]; exact ⟨z1, z2, z3⟩
  obtain ⟨m35, xm35⟩ : ∃ z, z = mm 35 := ⟨_, rfl⟩
  have em35 : q.2.2.1 a0 35 = m35 := by rw [xm35]; exact em 35 (by decide)
  obtain ⟨hm35, km35, lm35⟩ : m35 ∈ L ∧ h.1 m35 = 245 ∧ h.2.1 m35 = 12 := by obtain ⟨r9, e9, z1, z2, z3⟩ := hV.refn (t := 245) (n := 12) ha0 ka0 35 rfl (by decide) rfl (by decide); rw [← em35, e9]; exact ⟨z1, z2, z3⟩
  obtain ⟨m40, xm40⟩ : ∃ z, z = mm 40 := ⟨_, rfl⟩
  have em40 : q.2.2.1 a0 40 = m40 := by rw [xm40]; exact em 40 (by decide)
  obtain ⟨hm40, km40, lm40⟩ : m40 ∈ L ∧ h.1 m40 = 150 ∧ h.2.1 m40 = 2400 := by obtain ⟨r9, e9, z1, z2, z3⟩ := hV.refn (t := 150) (n := 2400) ha0 ka0 40 rfl (by decide) rfl (by decide); rw [← em40, e9]; exact ⟨z1, z2, z3⟩
  obtain ⟨m41, xm41⟩ : ∃ z, z = mm 41 := ⟨_, rfl⟩
  have em41 : q.2.2.1 a0 41 = m41 := by rw [xm41]; exact em 41 (by decide)
  obtain ⟨hm41, km41, lm41⟩ : m41 ∈ L ∧ h.1 m41 = 151 ∧ h.2.1 m41 = 12 := by obtain ⟨r9, e9, z1, z2, z3⟩ := hV.refn (t := 151) (n := 12) ha0 ka0 41 rfl (by decide) rfl (by decide); rw [← em41, e9]; exact ⟨z1, z2, z3⟩
  obtain ⟨m42, xm42⟩ : ∃ z, z = mm 42 := ⟨_, rfl⟩
  have em42 : q.2.2.1 a0 42 = m42 := by rw [xm42]; exact em 42 (by decide)
  obtain ⟨hm42, km42, lm42⟩ : m42 ∈ L ∧ h.1 m42 = 152 ∧ h.2.1 m42 = 12 := by obtain ⟨r9, e9, z1, z2, z3⟩ := hV.refn (t := 152) (n := 12) ha0 ka0 42 rfl (by decide) rfl (by decide); rw [← em42, e9]; exact ⟨z1, z2, z3⟩
  obtain ⟨m43, xm43⟩ : ∃ z, z = mm 43 := ⟨_, rfl⟩
  have em43 : q.2.2.1 a0 43 = m43 := by rw [xm43]; exact em 43 (by decide)
  obtain ⟨hm43, km43, lm43⟩ : m43 ∈ L ∧ h.1 m43 = 153 ∧ h.2.1 m43 = 12 := by obtain ⟨r9, e9, z1, z2, z3⟩ := hV.refn (t := 153) (n := 12) ha0 ka0 43 rfl (by decide) rfl (by decide); rw [← em43, e9]; exact ⟨z1, z2, z3⟩
  obtain ⟨m44, xm44⟩ : ∃ z, z = mm 44 := ⟨_, rfl⟩
  have em44 : q.2.2.1 a0 44 = m44 := by rw [xm44]; exact em 44 (by decide)
  obtain ⟨hm44, km44, lm44⟩ : m44 ∈ L ∧ h.1 m44 = 154 ∧ h.2.1 m44 = 12 := by obtain ⟨r9, e9, z1, z2, z3⟩ := hV.refn (t := 154) (n := 12) ha0 ka0 44 rfl (by decide) rfl (by decide); rw [← em44, e9]; exact ⟨z1, z2, z3⟩
  obtain ⟨m46, xm46⟩ : ∃ z, z = mm 46 := ⟨_, rfl⟩
  have em46 : q.2.2.1 a0 46 = m46 := by rw [xm46]; exact em 46 (by decide)
  obtain ⟨hm46, km46, lm46⟩ : m46 ∈ L ∧ h.1 m46 = 156 ∧ h.2.1 m46 = 144 := by obtain ⟨r9, e9, z1, z2, z3⟩ := hV.refn (t := 156) (n := 144) ha0 ka0 46 rfl (by decide) rfl (by decide); rw [← em46, e9]; exact ⟨z1, z2, z3⟩
  obtain ⟨m47, xm47⟩ : ∃ z, z = mm 47 := ⟨_, rfl⟩
  have em47 : q.2.2.1 a0 47 = m47 := by rw [xm47]; exact em 47 (by decide)
  obtain ⟨hm47, km47, lm47⟩ : m47 ∈ L ∧ h.1 m47 = 157 ∧ h.2.1 m47 = 4096 := by obtain ⟨r9, e9, z1, z2, z3⟩ := hV.refn (t := 157) (n := 4096) ha0 ka0 47 rfl (by decide) rfl (by decide); rw [← em47, e9]; exact ⟨z1, z2, z3⟩
  obtain ⟨m48, xm48⟩ : ∃ z, z = mm 48 := ⟨_, rfl⟩
  have em48 : q.2.2.1 a0 48 = m48 := by rw [xm48]; exact em 48 (by decide)
  obtain ⟨hm48, km48, lm48⟩ : m48 ∈ L ∧ h.1 m48 = 158 ∧ h.2.1 m48 = 12 := by obtain ⟨r9, e9, z1, z2, z3⟩ := hV.refn (t := 158) (n := 12) ha0 ka0 48 rfl (by decide) rfl (by decide); rw [← em48, e9]; exact ⟨z1, z2, z3⟩
  have mF : mv_F m18 m19 q := by rw [xm18, xm19]; exact mF0
  have mU : mv_U m17 q := by rw [xm17]; exact mU0
  have mS : mv_S m23 m26 m28 m29 q := by rw [xm23, xm26, xm28, xm29]; exact mS0
  have mL : mv_L m40 m41 m44 a0 q := by rw [xm40, xm41, xm44]; exact mL0
  have hF : sx_fr h L (fun _ => True) q q := sx_fr.rf
  obtain ⟨htb, ktb, ltb⟩ : tb ∈ L ∧ h.1 tb = 300 ∧ h.2.1 tb = 440 := by obtain ⟨r9, e9, z1, z2, z3⟩ := hV.refn (t := 300) (n := 440) ht0 kt0 0 rfl (by decide) (by rw [lt0]; rfl) (by decide); rw [← etb, e9]; exact ⟨z1, z2, z3⟩
  obtain ⟨hfa, kfa, lfa⟩ : fa ∈ L ∧ h.1 fa = 403 ∧ h.2.1 fa = 12 := by obtain ⟨r9, e9, z1, z2, z3⟩ := hV.refn (t := 403) (n := 12) hx0 kx0 9 rfl (by decide) rfl (by decide); rw [← efa, e9]; exact ⟨z1, z2, z3⟩
  have hT : ty_T (q.2.2.2.1 tb) (q.2.2.2.1 m1) (q.1 t0 1).toInt.toNat := by rw [xm1]; exact hT0
  have hR : lc_R h fa m44 x0 q := by rw [xm44]; exact hR0
  have gx14 : (0 : Int) ≤ (q.1 x0 14).toInt ∧ (q.1 x0 14).toInt ≤ 12 := hV.int hx0 kx0 14
  have gt1 : (0 : Int) ≤ (q.1 t0 1).toInt ∧ (q.1 t0 1).toInt ≤ 440 := by have z9 := hV.int ht0 kt0 1; rw [etb, ltb] at z9; exact z9
  obtain ⟨huu, kuu⟩ : uu ∈ L ∧ h.1 uu = 9 := by obtain ⟨r9, e9, z1, z2⟩ := hV.ref (t := 9) hx0 kx0 11 rfl (by decide); rw [← euu, e9]; exact ⟨z1, z2⟩
  obtain ⟨hsu, ksu⟩ : su ∈ L ∧ h.1 su = 9 := by obtain ⟨r9, e9, z1, z2⟩ := hV.ref (t := 9) hx0 kx0 12 rfl (by decide); rw [← esu, e9]; exact ⟨z1, z2⟩
  have nuu_su : ¬ uu = su := hdz.1
  obtain ⟨uc, euc⟩ : ∃ z, q.2.2.1 uu 1 = z := ⟨_, rfl⟩
  obtain ⟨huc, kuc, luc⟩ : uc ∈ L ∧ h.1 uc = 101 ∧ h.2.1 uc = 3 := by obtain ⟨r9, e9, z1, z2, z3⟩ := hV.refn (t := 101) (n := 3) huu kuu 1 rfl (by decide) rfl (by decide); rw [← euc, e9]; exact ⟨z1, z2, z3⟩
  obtain ⟨un, eun⟩ : ∃ z, q.2.2.1 uu 2 = z := ⟨_, rfl⟩
  obtain ⟨hun, kun, lun⟩ : un ∈ L ∧ h.1 un = 202 ∧ h.2.1 un = 15 := by obtain ⟨r9, e9, z1, z2, z3⟩ := hV.refn (t := 202) (n := 15) huu kuu 2 rfl (by decide) rfl (by decide); rw [← eun, e9]; exact ⟨z1, z2, z3⟩
  obtain ⟨uf, euf⟩ : ∃ z, q.2.2.1 uu 3 = z := ⟨_, rfl⟩
  obtain ⟨huf, kuf, luf⟩ : uf ∈ L ∧ h.1 uf = 102 ∧ h.2.1 uf = 15 := by obtain ⟨r9, e9, z1, z2, z3⟩ := hV.refn (t := 102) (n := 15) huu kuu 3 rfl (by decide) rfl (by decide); rw [← euf, e9]; exact ⟨z1, z2, z3⟩
  obtain ⟨uw, euw⟩ : ∃ z, q.2.2.1 uu 4 = z := ⟨_, rfl⟩
  obtain ⟨huw, kuw, luw⟩ : uw ∈ L ∧ h.1 uw = 103 ∧ h.2.1 uw = 15 := by obtain ⟨r9, e9, z1, z2, z3⟩ := hV.refn (t := 103) (n := 15) huu kuu 4 rfl (by decide) rfl (by decide); rw [← euw, e9]; exact ⟨z1, z2, z3⟩
  have hu : lc_u8 (q.1 uu 6) (q.1 a0 20) (q.2.2.2.1 uc) (q.2.2.2.1 m18) (q.2.2.2.1 uf) (q.2.2.2.1 m19) (q.2.2.2.1 uw) (q.2.2.2.2 un) (q.2.2.2.2 m17) := by rw [← euc, ← euf, ← euw, ← eun, xm17, xm18, xm19]; exact hu0
  obtain ⟨ho0, ko0, lo0⟩ : o0 ∈ L ∧ h.1 o0 = 7 ∧ h.2.1 o0 = 2 := by obtain ⟨r9, e9, z1, z2, z3⟩ := hV.refn (t := 7) (n := 2) hx0 kx0 1 rfl (by decide) rfl (by decide); rw [← eo0, e9]; exact ⟨z1, z2, z3⟩
  obtain ⟨hob, kob, lob⟩ : ob ∈ L ∧ h.1 ob = 300 ∧ h.2.1 ob = 59 := by obtain ⟨r9, e9, z1, z2, z3⟩ := hV.refn (t := 300) (n := 59) ho0 ko0 0 rfl (by decide) (by rw [lo0]; rfl) (by decide); rw [← eob, e9]; exact ⟨z1, z2, z3⟩
  have nt0_o0 : ¬ t0 = o0 := fun z9 => absurd (z9 ▸ lt0 : h.2.1 o0 = 1) (by rw [lo0]; decide)
  have ntb_ob : ¬ tb = ob := fun z9 => absurd (z9 ▸ ltb : h.2.1 ob = 440) (by rw [lob]; decide)
  have hout : lc_o (q.1 o0 1) (q.1 a0 22) (q.2.2.2.1 ob) (q.2.2.2.1 m21) := by rw [xm21]; exact hout0
  refine wa_aload_n B dL_law_650 rfl 3 rfl ?_
  refine wa_aload_n B dL_law_651 rfl 4 rfl ?_
  refine wa_iload B dL_law_652 0 rfl ?_
  refine wa_iconst B 1 dL_law_654 (by decide) ?_
  refine wa_iadd B dL_law_655 (fun v_1 ev_1 => ?_)
  subst ev_1
  have t_2 : (i + 1).toInt = i.toInt + 1 := by have b0 := zx_bd i; exact zx_add (show (-2147483648 : Int) ≤ i.toInt + 1 by omega) (show i.toInt + 1 < (2147483648 : Int) by omega)
  refine wa_sld B hX hbl hbA (i := (i + 1)) (show 0 ≤ (i + 1).toInt by omega) (show (i + 1).toInt < (N : Int) by omega) dL_law_656 ?_
  refine wa_callVi B (x := (RX11, TX11, 16)) (As := [.int ((xs ((i + 1) : Int32).toNatClampNeg))]) (rest := []) (k_X11_rows_c l dC dI h L hN q hV (a0 := x0) hx0 kx0 ((xs ((i + 1) : Int32).toNatClampNeg)) (fa := fa) efa  ) (cwV 1 B.1.2.2.2.2 gL_law_X11_rows rfl rfl rfl (by decide +kernel) ⟨Nat.le_of_ble_eq_true rfl, Nat.le_of_ble_eq_true rfl⟩) hx0 kx0 (by decide) rfl rfl rfl (Nat.le_of_ble_eq_true rfl) dL_law_657 (fun r_4 q_3 w_5 => ?_)
  obtain ⟨ew_5, hw_5⟩ := w_5
  subst ew_5
  refine wa_pop B dL_law_660 rfl ?_
  refine wa_aload_n B dL_law_661 rfl 2 rfl ?_
  refine wa_aload_n B dL_law_662 rfl 4 rfl ?_
  refine wa_iload B dL_law_663 0 rfl ?_
  refine wa_iconst B 1 dL_law_665 (by decide) ?_
  refine wa_iadd B dL_law_666 (fun v_6 ev_6 => ?_)
  subst ev_6
  refine wa_sld B hX hbl hbA (i := (i + 1)) (show 0 ≤ (i + 1).toInt by omega) (show (i + 1).toInt < (N : Int) by omega) dL_law_667 ?_
  refine wa_callVi B (x := (RX12, TX12, 51)) (As := [.int ((xs ((i + 1) : Int32).toNatClampNeg))]) (rest := []) (k_X12_rows_c l dC dI h L hN q hV (a0 := a0) ha0 ka0 ((xs ((i + 1) : Int32).toNatClampNeg)) (m44 := m44) em44  ) (cwV 1 B.1.2.2.2.2 gL_law_X12_rows rfl rfl rfl (by decide +kernel) ⟨Nat.le_of_ble_eq_true rfl, Nat.le_of_ble_eq_true rfl⟩) ha0 ka0 (by decide) rfl rfl rfl (Nat.le_of_ble_eq_true rfl) dL_law_668 (fun r_8 q_7 w_9 => ?_)
  obtain ⟨hV_q_7, h2_q_7, h3_q_7, hw_9⟩ := w_9
  have mN_q_7 : mv_N a0 q_7 := mv_N.eq (h3_q_7.1 8 (by decide)) (h3_q_7.2 11 (by decide)) mN
  have mF_q_7 : mv_F m18 m19 q_7 := mv_F.eq (h2_q_7.G hm18 (show ¬ (h.1 m18 = 12) from (fun z => absurd (z.symm.trans km18) (by decide))) (by rw [km18]; decide)) (h2_q_7.G hm19 (show ¬ (h.1 m19 = 12) from (fun z => absurd (z.symm.trans km19) (by decide))) (by rw [km19]; decide)) mF
  have mU_q_7 : mv_U m17 q_7 := mv_U.eq (h2_q_7.Lg hm17 (show ¬ (h.1 m17 = 12) from (fun z => absurd (z.symm.trans km17) (by decide))) (by rw [km17]; decide)) mU
  have mS_q_7 : mv_S m23 m26 m28 m29 q_7 := mv_S.eq (h2_q_7.G hm23 (show ¬ (h.1 m23 = 12) from (fun z => absurd (z.symm.trans km23) (by decide))) (by rw [km23]; decide)) (h2_q_7.G hm26 (show ¬ (h.1 m26 = 12) from (fun z => absurd (z.symm.trans km26) (by decide))) (by rw [km26]; decide)) (h2_q_7.G hm28 (show ¬ (h.1 m28 = 12) from (fun z => absurd (z.symm.trans km28) (by decide))) (by rw [km28]; decide)) (h2_q_7.G hm29 (show ¬ (h.1 m29 = 12) from (fun z => absurd (z.symm.trans km29) (by decide))) (by rw [km29]; decide)) mS
  have mL_q_7 : mv_L m40 m41 m44 a0 q_7 := mv_L.eq (h2_q_7.G hm40 (show ¬ (h.1 m40 = 12) from (fun z => absurd (z.symm.trans km40) (by decide))) (by rw [km40]; decide)) (h2_q_7.G hm41 (show ¬ (h.1 m41 = 12) from (fun z => absurd (z.symm.trans km41) (by decide))) (by rw [km41]; decide)) (h2_q_7.G hm44 (show ¬ (h.1 m44 = 12) from (fun z => absurd (z.symm.trans km44) (by decide))) (by rw [km44]; decide)) (h3_q_7.1 45 (by decide)) mL
  refine wa_pop B dL_law_671 rfl ?_
  refine wa_goto B 775 dL_law_672 (by decide) ?_
  have z_10 : q_7.1 a0 2 = q.1 a0 2 := h3_q_7.1 2 (by decide)
  have y_11 : (q_7.1 a0 2).toInt = (q.1 a0 2).toInt := by rw [z_10]
  have z_12 : q_7.1 a0 45 = q.1 a0 45 := h3_q_7.1 45 (by decide)
  have y_13 : (q_7.1 a0 45).toInt = (q.1 a0 45).toInt := by rw [z_12]
  have z_14 : q_7.1 t0 1 = q.1 t0 1 := h2_q_7.I ht0 (show ¬ (h.1 t0 = 12) from (fun z => absurd (z.symm.trans kt0) (by decide))) 1
  have y_15 : (q_7.1 t0 1).toInt = (q.1 t0 1).toInt := by rw [z_14]
  have z_16 : q_7.1 x0 14 = q.1 x0 14 := h2_q_7.I hx0 (show ¬ (h.1 x0 = 12) from (fun z => absurd (z.symm.trans kx0) (by decide))) 14
  have y_17 : (q_7.1 x0 14).toInt = (q.1 x0 14).toInt := by rw [z_16]
  have z_18 : q_7.2.2.1 x0 0 = t0 := (h2_q_7.R hx0 (show ¬ ((h.1 x0 = 12) ∧ (h.1 x0 = 8 ∨ h.1 x0 = 11)) from fun z9 => (show ¬ (h.1 x0 = 12) from (fun z => absurd (z.symm.trans kx0) (by decide))) z9.1) 0).trans (et0)
  have z_19 : q_7.2.2.1 t0 0 = tb := (h2_q_7.R ht0 (fun z9 => absurd z9.2 (by omega)) 0).trans (etb)
  have z_20 : q_7.2.2.1 x0 9 = fa := (h2_q_7.R hx0 (show ¬ ((h.1 x0 = 12) ∧ (h.1 x0 = 8 ∨ h.1 x0 = 11)) from fun z9 => (show ¬ (h.1 x0 = 12) from (fun z => absurd (z.symm.trans kx0) (by decide))) z9.1) 9).trans (efa)
  have z_21 : q_7.2.2.2.1 tb = q.2.2.2.1 tb := h2_q_7.G htb (show ¬ (h.1 tb = 12) from (fun z => absurd (z.symm.trans ktb) (by decide))) (by rw [ktb]; decide)
  have z_22 : q_7.2.2.2.1 m1 = q.2.2.2.1 m1 := h2_q_7.G hm1 (show ¬ (h.1 m1 = 12) from (fun z => absurd (z.symm.trans km1) (by decide))) (by rw [km1]; decide)
  have hT9 : ty_T (q_7.2.2.2.1 tb) (q_7.2.2.2.1 m1) (q_7.1 t0 1).toInt.toNat := by rw [z_21, z_22]; exact hT.le (by omega)
  have z_23 : q_7.2.2.2.1 m44 = q.2.2.2.1 m44 := h2_q_7.G hm44 (show ¬ (h.1 m44 = 12) from (fun z => absurd (z.symm.trans km44) (by decide))) (by rw [km44]; decide)
  have hR9 : lc_R h fa m44 x0 q_7 := by
    intro f hf
    obtain ⟨e9, ee9, he9, ke9⟩ := hV.elem (t := 0) hfa kfa (by decide) rfl (j := f) (by omega)
    rw [ee9, show q_7.1 e9 3 = q.1 e9 3 from h2_q_7.I he9 (show ¬ (h.1 e9 = 12) from by omega) 3, ← ee9, z_23]
    exact hR f (by omega)
  have hR_uu : q_7.2.2.1 uu = q.2.2.1 uu := by rw [show q_7.2.2.1 uu = q.2.2.1 uu from h2_q_7.2 uu huu (fun z9 => absurd z9.2 (by rw [kuu]; decide))]
  have hR_su : q_7.2.2.1 su = q.2.2.1 su := by rw [show q_7.2.2.1 su = q.2.2.1 su from h2_q_7.2 su hsu (fun z9 => absurd z9.2 (by rw [ksu]; decide))]
  have z_24 : q_7.1 o0 1 = q.1 o0 1 := h2_q_7.I ho0 (show ¬ (h.1 o0 = 12) from (fun z => absurd (z.symm.trans ko0) (by decide))) 1
  have z_25 : q_7.1 a0 22 = q.1 a0 22 := h3_q_7.1 22 (by decide)
  have z_26 : q_7.2.2.2.1 ob = q.2.2.2.1 ob := h2_q_7.G hob (show ¬ (h.1 ob = 12) from (fun z => absurd (z.symm.trans kob) (by decide))) (by rw [kob]; decide)
  have z_27 : q_7.2.2.2.1 m21 = q.2.2.2.1 m21 := h2_q_7.G hm21 (show ¬ (h.1 m21 = 12) from (fun z => absurd (z.symm.trans km21) (by decide))) (by rw [km21]; decide)
  have hout9 : lc_o (q_7.1 o0 1) (q_7.1 a0 22) (q_7.2.2.2.1 ob) (q_7.2.2.2.1 (mm 21)) := by rw [← xm21, z_24, z_25, z_26, z_27]; exact hout
  have z_28 : q_7.2.2.1 x0 1 = o0 := (h2_q_7.R hx0 (show ¬ ((h.1 x0 = 12) ∧ (h.1 x0 = 8 ∨ h.1 x0 = 11)) from fun z9 => (show ¬ (h.1 x0 = 12) from (fun z => absurd (z.symm.trans kx0) (by decide))) z9.1) 1).trans (eo0)
  have z_29 : q_7.2.2.1 o0 0 = ob := (h2_q_7.R ho0 (fun z9 => absurd z9.2 (by omega)) 0).trans (eob)
  have z_30 : q_7.1 uu 6 = q.1 uu 6 := h2_q_7.I huu (show ¬ (h.1 uu = 12) from (fun z => absurd (z.symm.trans kuu) (by decide))) 6
  have z_31 : q_7.1 a0 20 = q.1 a0 20 := h3_q_7.1 20 (by decide)
  have z_32 : q_7.2.2.2.1 uc = q.2.2.2.1 uc := h2_q_7.G huc (show ¬ (h.1 uc = 12) from (fun z => absurd (z.symm.trans kuc) (by decide))) (by rw [kuc]; decide)
  have z_33 : q_7.2.2.2.1 m18 = q.2.2.2.1 m18 := h2_q_7.G hm18 (show ¬ (h.1 m18 = 12) from (fun z => absurd (z.symm.trans km18) (by decide))) (by rw [km18]; decide)
  have z_34 : q_7.2.2.2.1 uf = q.2.2.2.1 uf := h2_q_7.G huf (show ¬ (h.1 uf = 12) from (fun z => absurd (z.symm.trans kuf) (by decide))) (by rw [kuf]; decide)
  have z_35 : q_7.2.2.2.1 m19 = q.2.2.2.1 m19 := h2_q_7.G hm19 (show ¬ (h.1 m19 = 12) from (fun z => absurd (z.symm.trans km19) (by decide))) (by rw [km19]; decide)
  have z_36 : q_7.2.2.2.1 uw = q.2.2.2.1 uw := h2_q_7.G huw (show ¬ (h.1 uw = 12) from (fun z => absurd (z.symm.trans kuw) (by decide))) (by rw [kuw]; decide)
  have z_37 : q_7.2.2.2.2 un = q.2.2.2.2 un := h2_q_7.Lg hun (show ¬ (h.1 un = 12) from (fun z => absurd (z.symm.trans kun) (by decide))) (by rw [kun]; decide)
  have z_38 : q_7.2.2.2.2 m17 = q.2.2.2.2 m17 := h2_q_7.Lg hm17 (show ¬ (h.1 m17 = 12) from (fun z => absurd (z.symm.trans km17) (by decide))) (by rw [km17]; decide)
  have hu9 : lc_uq8 q_7 a0 uu (mm 17) (mm 18) (mm 19) := by unfold lc_uq8; rw [← xm17, ← xm18, ← xm19, hR_uu, euc, euf, euw, eun, z_30, z_31, z_32, z_33, z_34, z_35, z_36, z_37, z_38]; exact hu
  have z_39 : q_7.2.2.1 x0 11 = uu := (h2_q_7.R hx0 (show ¬ ((h.1 x0 = 12) ∧ (h.1 x0 = 8 ∨ h.1 x0 = 11)) from fun z9 => (show ¬ (h.1 x0 = 12) from (fun z => absurd (z.symm.trans kx0) (by decide))) z9.1) 11).trans (euu)
  have z_40 : q_7.2.2.1 x0 12 = su := (h2_q_7.R hx0 (show ¬ ((h.1 x0 = 12) ∧ (h.1 x0 = 8 ∨ h.1 x0 = 11)) from fun z9 => (show ¬ (h.1 x0 = 12) from (fun z => absurd (z.symm.trans kx0) (by decide))) z9.1) 12).trans (esu)
  exact hcont _ _ (Or.inl rfl) ⟨⟨⟨hV_q_7, mN_q_7, by rw [← xm18, ← xm19]; exact mF_q_7, by rw [← xm17]; exact mU_q_7, by rw [← xm23, ← xm26, ← xm28, ← xm29]; exact mS_q_7, by rw [← xm40, ← xm41, ← xm44]; exact mL_q_7, z_18, fun k hk => by rw [show q_7.2.2.1 a0 = q.2.2.1 a0 from h2_q_7.2 a0 ha0 (fun z9 => absurd z9.2 (by omega))]; exact em k hk, by omega, by omega⟩, z_19, z_20, by rw [← xm1]; exact hT9, by rw [← xm44]; exact hR9⟩, uu, su, o0, ob, z_39, z_40, hdz.eq hR_uu hR_su, hu9, ⟨z_28, z_29⟩, hout9⟩
set_option maxHeartbeats 4000000 in
set_option maxRecDepth 100000 in
theorem lc6_675 (l : Launch) (hlst : l.stackTraces = false) {Z : Zt} (dC : Nat → ClassId) (dI : Nat → Nat → Nat) (h : Sh) (L : List Nat) (hN : sx_nd L) (B : BX dC dI h L 7 cL_law RL wsL_law Z) {b N : Nat} {xs : Nat → Int32} (hX : va_X b N xs Z.2.2.1 Z.2.2.1.heap) (hbl : b < Z.2.2.1.heap.size) (hbA : ¬ AL L Z.2.2.1.heap.size b) {x0 a0 ot t0 tb fa : Nat} (hfd : lc_fd h fa) {mm : Nat → Nat} (hx0 : x0 ∈ L) (kx0 : h.1 x0 = 11) (ha0 : a0 ∈ L) (ka0 : h.1 a0 = 12) (hot : ot ∈ L) (kot : h.1 ot = 200) (lot : h.2.1 ot = 1) {i : Int32} (hi0 : 0 ≤ i.toInt) (hi1 : i.toInt + 6 ≤ (N : Int)) (hN2 : N ≤ 3072) (hroom : (zl_more Z).2.2.2.2.2.2.2.2.2.1 ≤ room_1.cells ∧ (zl_more Z).2.2.2.2.2.2.2.2.2.2 ≤ room_1.slots) {q : Sg} (hI : lc_I8 h L x0 a0 t0 tb fa mm q) (hcont : ∀ (Z2 : Zt) (q2 : Sg), (Z2 = Z ∨ Z2 = zl_more Z) → lc_I8 h L x0 a0 t0 tb fa mm q2 → WA l dC dI h L room_1 7 Z2 q2 775 [(4, .int i), (3, .ref ot), (2, .ref a0), (1, .ref x0), (0, .ref b)] []) : WA l dC dI h L room_1 7 Z q 675 [(4, .int i), (3, .ref ot), (2, .ref a0), (1, .ref x0), (0, .ref b)] [] := by
  obtain ⟨hI, uu, su, o0, ob, euu, esu, hdz, hu0, ⟨eo0, eob⟩, hout0⟩ := hI
  obtain ⟨hI, etb, efa, hT0, hR0⟩ := hI
  obtain ⟨hV, mN, mF0, mU0, mS0, mL0, et0, em, hte, hfe⟩ := hI
  obtain ⟨ht0, kt0, lt0⟩ : t0 ∈ L ∧ h.1 t0 = 7 ∧ h.2.1 t0 = 1 := by obtain ⟨r9, e9, z1, z2, z3⟩ := hV.refn (t := 7) (n := 1) hx0 kx0 0 rfl (by decide) rfl (by decide); rw [← et0, e9]; exact ⟨z1, z2, z3⟩
  obtain ⟨m1, xm1⟩ : ∃ z, z = mm 1 := ⟨_, rfl⟩
  have em1 : q.2.2.1 a0 1 = m1 := by rw [xm1]; exact em 1 (by decide)
  obtain ⟨hm1, km1, lm1⟩ : m1 ∈ L ∧ h.1 m1 = 111 ∧ h.2.1 m1 = 440 := by obtain ⟨r9, e9, z1, z2, z3⟩ := hV.refn (t := 111) (n := 440) ha0 ka0 1 rfl (by decide) rfl (by decide); rw [← em1, e9]; exact ⟨z1, z2, z3⟩
  obtain ⟨m3, xm3⟩ : ∃ z, z = mm 3 := ⟨_, rfl⟩
  have em3 : q.2.2.1 a0 3 = m3 := by rw [xm3]; exact em 3 (by decide)
  obtain ⟨hm3, km3, lm3⟩ : m3 ∈ L ∧ h.1 m3 = 113 ∧ h.2.1 m3 = 500 := by obtain ⟨r9, e9, z1, z2, z3⟩ := hV.refn (t := 113) (n := 500) ha0 ka0 3 rfl (by decide) rfl (by decide); rw [← em3, e9]; exact ⟨z1, z2, z3⟩
  obtain ⟨m16, xm16⟩ : ∃ z, z = mm 16 := ⟨_, rfl⟩
  have em16 : q.2.2.1 a0 16 = m16 := by rw [xm16]; exact em 16 (by decide)
  obtain ⟨hm16, km16, lm16⟩ : m16 ∈ L ∧ h.1 m16 = 226 ∧ h.2.1 m16 = 6 := by obtain ⟨r9, e9, z1, z2, z3⟩ := hV.refn (t := 226) (n := 6) ha0 ka0 16 rfl (by decide) rfl (by decide); rw [← em16, e9]; exact ⟨z1, z2, z3⟩
  obtain ⟨m17, xm17⟩ : ∃ z, z = mm 17 := ⟨_, rfl⟩
  have em17 : q.2.2.1 a0 17 = m17 := by rw [xm17]; exact em 17 (by decide)
  obtain ⟨hm17, km17, lm17⟩ : m17 ∈ L ∧ h.1 m17 = 227 ∧ h.2.1 m17 = 30 := by obtain ⟨r9, e9, z1, z2, z3⟩ := hV.refn (t := 227) (n := 30) ha0 ka0 17 rfl (by decide) rfl (by decide); rw [← em17, e9]; exact ⟨z1, z2, z3⟩
  obtain ⟨m18, xm18⟩ : ∃ z, z = mm 18 := ⟨_, rfl⟩
  have em18 : q.2.2.1 a0 18 = m18 := by rw [xm18]; exact em 18 (by decide)
  obtain ⟨hm18, km18, lm18⟩ : m18 ∈ L ∧ h.1 m18 = 128 ∧ h.2.1 m18 = 6 := by obtain ⟨r9, e9, z1, z2, z3⟩ := hV.refn (t := 128) (n := 6) ha0 ka0 18 rfl (by decide) rfl (by decide); rw [← em18, e9]; exact ⟨z1, z2, z3⟩
  obtain ⟨m19, xm19⟩ : ∃ z, z = mm 19 := ⟨_, rfl⟩
  have em19 : q.2.2.1 a0 19 = m19 := by rw [xm19]; exact em 19 (by decide)
  obtain ⟨hm19, km19, lm19⟩ : m19 ∈ L ∧ h.1 m19 = 129 ∧ h.2.1 m19 = 30 := by obtain ⟨r9, e9, z1, z2, z3⟩ := hV.refn (t := 129) (n := 30) ha0 ka0 19 rfl (by decide) rfl (by decide); rw [← em19, e9]; exact ⟨z1, z2, z3⟩
  obtain ⟨m21, xm21⟩ : ∃ z, z = mm 21 := ⟨_, rfl⟩
  have em21 : q.2.2.1 a0 21 = m21 := by rw [xm21]; exact em 21 (by decide)
  obtain ⟨hm21, km21, lm21⟩ : m21 ∈ L ∧ h.1 m21 = 131 ∧ h.2.1 m21 = 80 := by obtain ⟨r9, e9, z1, z2, z3⟩ := hV.refn (t := 131) (n := 80) ha0 ka0 21 rfl (by decide) rfl (by decide); rw [← em21, e9]; exact ⟨z1, z2, z3⟩
  obtain ⟨m23, xm23⟩ : ∃ z, z = mm 23 := ⟨_, rfl⟩
  have em23 : q.2.2.1 a0 23 = m23 := by rw [xm23]; exact em 23 (by decide)
  obtain ⟨hm23, km23, lm23⟩ : m23 ∈ L ∧ h.1 m23 = 133 ∧ h.2.1 m23 = 9 := by obtain ⟨r9, e9, z1, z2, z3⟩ := hV.refn (t := 133) (n := 9) ha0 ka0 23 rfl (by decide) rfl (by decide); rw [← em23, e9]; exact ⟨z1, z2, z3⟩
  obtain ⟨m24, xm24⟩ : ∃ z, z = mm 24 := ⟨_, rfl⟩
  have em24 : q.2.2.1 a0 24 = m24 := by rw [xm24]; exact em 24 (by decide)
  obtain ⟨hm24, km24, lm24⟩ : m24 ∈ L ∧ h.1 m24 = 134 ∧ h.2.1 m24 = 108 := by obtain ⟨r9, e9, z1, z2, z3⟩ := hV.refn (t := 134) (n := 108) ha0 ka0 24 rfl (by decide) rfl (by decide); rw [← em24, e9]; exact ⟨z1, z2, z3⟩
  obtain ⟨m25, xm25⟩ : ∃ z, z = mm 25 := ⟨_, rfl⟩
  have em25 : q.2.2.1 a0 25 = m25 := by rw [xm25]; exact em 25 (by decide)
  obtain ⟨hm25, km25, lm25⟩ : m25 ∈ L ∧ h.1 m25 = 135 ∧ h.2.1 m25 = 108 := by obtain ⟨r9, e9, z1, z2, z3⟩ := hV.refn (t := 135) (n := 108) ha0 ka0 25 rfl (by decide) rfl (by decide); rw [← em25, e9]; exact ⟨z1, z2, z3⟩
  obtain ⟨m26, xm26⟩ : ∃ z, z = mm 26 := ⟨_, rfl⟩
  have em26 : q.2.2.1 a0 26 = m26 := by rw [xm26]; exact em 26 (by decide)
  obtain ⟨hm26, km26, lm26⟩ : m26 ∈ L ∧ h.1 m26 = 136 ∧ h.2.1 m26 = 108 := by obtain ⟨r9, e9, z1, z2, z3⟩ := hV.refn (t := 136) (n := 108) ha0 ka0 26 rfl (by decide) rfl (by decide); rw [← em26, e9]; exact ⟨z1, z2, z3⟩
  obtain ⟨m27, xm27⟩ : ∃ z, z = mm 27 := ⟨_, rfl⟩
  have em27 : q.2.2.1 a0 27 = m27 := by rw [xm27]; exact em 27 (by decide)
  obtain ⟨hm27, km27, lm27⟩ : m27 ∈ L ∧ h.1 m27 = 137 ∧ h.2.1 m27 = 9 := by obtain ⟨r9, e9, z1, z2, z3⟩ := hV.refn (t := 137) (n := 9) ha0 ka0 27 rfl (by decide) rfl (by decide); rw [← em27, e9]; exact ⟨z1, z2, z3⟩
  obtain ⟨m28, xm28⟩ : ∃ z, z = mm 28 := ⟨_, rfl⟩
  have em28 : q.2.2.1 a0 28 = m28 := by rw [xm28]; exact em 28 (by decide)
  obtain ⟨hm28, km28, lm28⟩ : m28 ∈ L ∧ h.1 m28 = 138 ∧ h.2.1 m28 = 540 := by obtain ⟨r9, e9, z1, z2, z3⟩ := hV.refn (t := 138) (n := 540) ha0 ka0 28 rfl (by decide) rfl (by decide); rw [← em28, e9]; exact ⟨z1, z2, z3⟩
  obtain ⟨m29, xm29⟩ : ∃ z, z = mm 29 := ⟨_, rfl⟩
  have em29 : q.2.2.1 a0 29 = m29 := by rw [xm29]; exact em 29 (by decide)
  obtain ⟨hm29, km29, lm29⟩ : m29 ∈ L ∧ h.1 m29 = 139 ∧ h.2.1 m29 = 540 := by obtain ⟨r9, e9, z1, z2, z3⟩ := hV.refn (t := 139) (n := 540) ha0 ka0 29 rfl (by decide) rfl (by decide); rw [← em29, e9]; exact ⟨z1, z2, z3⟩
  obtain ⟨m30, xm30⟩ : ∃ z, z = mm 30 := ⟨_, rfl⟩
  have em30 : q.2.2.1 a0 30 = m30 := by rw [xm30]; exact em 30 (by decide)
  obtain ⟨hm30, km30, lm30⟩ : m30 ∈ L ∧ h.1 m30 = 140 ∧ h.2.1 m30 = 540 := by obtain ⟨r9, e9, z1, z2, z3⟩ := hV.refn (t := 140) (n := 540) ha0 ka0 30 rfl (by decide) rfl (by decide); rw [← em30, e9]; exact ⟨z1, z2, z3⟩
  obtain ⟨m34, xm34⟩ : ∃ z, z = mm 34 := ⟨_, rfl⟩
  have em34 : q.2.2.1 a0 34 = m34 := by rw [xm34]; exact em 34 (by decide)
  obtain ⟨hm34, km34, lm34⟩ : m34 ∈ L ∧ h.1 m34 = 144 ∧ h.2.1 m34 = 4 := by obtain ⟨r9, e9, z1, z2, z3⟩ := hV.refn (t := 144) (n := 4) ha0 ka0 34 rfl (by decide) rfl (by decide); rw [← em34, e9]; exact ⟨z1, z2, z3⟩
  obtain ⟨m35, xm35⟩ : ∃ z, z = mm 35 := ⟨_, rfl⟩
  have em35 : q.2.2.1 a0 35 = m35 := by rw [xm35]; exact em 35 (by decide)
  obtain ⟨hm35, km35, lm35⟩ : m35 ∈ L ∧ h.1 m35 = 245 ∧ h.2.1 m35 = 12 := by obtain ⟨r9, e9, z1, z2, z3⟩ := hV.refn (t := 245) (n := 12) ha0 ka0 35 rfl (by decide) rfl (by decide); rw [← em35, e9]; exact ⟨z1, z2, z3⟩
  obtain ⟨m40, xm40⟩ : ∃ z, z = mm 40 := ⟨_, rfl⟩
  have em40 : q.2.2.1 a0 40 = m40 := by rw [xm40]; exact em 40 (by decide)
  obtain ⟨hm40, km40, lm40⟩ : m40 ∈ L ∧ h.1 m40 = 150 ∧ h.2.1 m40 = 2400 := by obtain ⟨r9, e9, z1, z2, z3⟩ := hV.refn (t := 150) (n := 2400) ha0 ka0 40 rfl (by decide) rfl (by decide); rw [← em40, e9]; exact ⟨z1, z2, z3⟩
  obtain ⟨m41, xm41⟩ : ∃ z, z = mm 41 := ⟨_, rfl⟩
  have em41 : q.2.2.1 a0 41 = m41 := by rw [xm41]; exact em 41 (by decide)
  obtain ⟨hm41, km41, lm41⟩ : m41 ∈ L ∧ h.1 m41 = 151 ∧ h.2.1 m41 = 12 := by obtain ⟨r9, e9, z1, z2, z3⟩ := hV.refn (t := 151) (n := 12) ha0 ka0 41 rfl (by decide) rfl (by decide); rw [← em41, e9]; exact ⟨z1, z2, z3⟩
  obtain ⟨m42, xm42⟩ : ∃ z, z = mm 42 := ⟨_, rfl⟩
  have em42 : q.2.2.1 a0 42 = m42 := by rw [xm42]; exact em 42 (by decide)
  obtain ⟨hm42, km42, lm42⟩ : m42 ∈ L ∧ h.1 m42 = 152 ∧ h.2.1 m42 = 12 := by obtain ⟨r9, e9, z1, z2, z3⟩ := hV.refn (t := 152) (n := 12) ha0 ka0 42 rfl (by decide) rfl (by decide); rw [← em42, e9]; exact ⟨z1, z2, z3⟩
  obtain ⟨m43, xm43⟩ : ∃ z, z = mm 43 := ⟨_, rfl⟩
  have em43 : q.2.2.1 a0 43 = m43 := by rw [xm43]; exact em 43 (by decide)
  obtain ⟨hm43, km43, lm43⟩ : m43 ∈ L ∧ h.1 m43 = 153 ∧ h.2.1 m43 = 12 := by obtain ⟨r9, e9, z1, z2, z3⟩ := hV.refn (t := 153) (n := 12) ha0 ka0 43 rfl (by decide) rfl (by decide); rw [← em43, e9]; exact ⟨z1, z2, z3⟩
  obtain ⟨m44, xm44⟩ : ∃ z, z = mm 44 := ⟨_, rfl⟩
  have em44 : q.2.2.1 a0 44 = m44 := by rw [xm44]; exact em 44 (by decide)
  obtain ⟨hm44, km44, lm44⟩ : m44 ∈ L ∧ h.1 m44 = 154 ∧ h.2.1 m44 = 12 := by obtain ⟨r9, e9, z1, z2, z3⟩ := hV.refn (t := 154) (n := 12) ha0 ka0 44 rfl (by decide) rfl (by decide); rw [← em44, e9]; exact ⟨z1, z2, z3⟩
  obtain ⟨m46, xm46⟩ : ∃ z, z = mm 46 := ⟨_, rfl⟩
  have em46 : q.2.2.1 a0 46 = m46 := by rw [xm46]; exact em 46 (by decide)
  obtain ⟨hm46, km46, lm46⟩ : m46 ∈ L ∧ h.1 m46 = 156 ∧ h.2.1 m46 = 144 := by obtain ⟨r9, e9, z1, z2, z3⟩ := hV.refn (t := 156) (n := 144) ha0 ka0 46 rfl (by decide) rfl (by decide); rw [← em46, e9]; exact ⟨z1, z2, z3⟩
  obtain ⟨m47, xm47⟩ : ∃ z, z = mm 47 := ⟨_, rfl⟩
  have em47 : q.2.2.1 a0 47 = m47 := by rw [xm47]; exact em 47 (by decide)
  obtain ⟨hm47, km47, lm47⟩ : m47 ∈ L ∧ h.1 m47 = 157 ∧ h.2.1 m47 = 4096 := by obtain ⟨r9, e9, z1, z2, z3⟩ := hV.refn (t := 157) (n := 4096) ha0 ka0 47 rfl (by decide) rfl (by decide); rw [← em47, e9]; exact ⟨z1, z2, z3⟩
  obtain ⟨m48, xm48⟩ : ∃ z, z = mm 48 := ⟨_, rfl⟩
  have em48 : q.2.2.1 a0 48 = m48 := by rw [xm48]; exact em 48 (by decide)
  obtain ⟨hm48, km48, lm48⟩ : m48 ∈ L ∧ h.1 m48 = 158 ∧ h.2.1 m48 = 12 := by obtain ⟨r9, e9, z1, z2, z3⟩ := hV.refn (t := 158) (n := 12) ha0 ka0 48 rfl (by decide) rfl (by decide); rw [← em48, e9]; exact ⟨z1, z2, z3⟩
  have mF : mv_F m18 m19 q := by rw [xm18, xm19]; exact mF0
  have mU : mv_U m17 q := by rw [xm17]; exact mU0
  have mS : mv_S m23 m26 m28 m29 q := by rw [xm23, xm26, xm28, xm29]; exact mS0
  have mL : mv_L m40 m41 m44 a0 q := by rw [xm40, xm41, xm44]; exact mL0
  have hF : sx_fr h L (fun _ => True) q q := sx_fr.rf
  obtain ⟨htb, ktb, ltb⟩ : tb ∈ L ∧ h.1 tb = 300 ∧ h.2.1 tb = 440 := by obtain ⟨r9, e9, z1, z2, z3⟩ := hV.refn (t := 300) (n := 440) ht0 kt0 0 rfl (by decide) (by rw [lt0]; rfl) (by decide); rw [← etb, e9]; exact ⟨z1, z2, z3⟩
  obtain ⟨hfa, kfa, lfa⟩ : fa ∈ L ∧ h.1 fa = 403 ∧ h.2.1 fa = 12 := by obtain ⟨r9, e9, z1, z2, z3⟩ := hV.refn (t := 403) (n := 12) hx0 kx0 9 rfl (by decide) rfl (by decide); rw [← efa, e9]; exact ⟨z1, z2, z3⟩
  have hT : ty_T (q.2.2.2.1 tb) (q.2.2.2.1 m1) (q.1 t0 1).toInt.toNat := by rw [xm1]; exact hT0
  have hR : lc_R h fa m44 x0 q := by rw [xm44]; exact hR0
  have gx14 : (0 : Int) ≤ (q.1 x0 14).toInt ∧ (q.1 x0 14).toInt ≤ 12 := hV.int hx0 kx0 14
  have gt1 : (0 : Int) ≤ (q.1 t0 1).toInt ∧ (q.1 t0 1).toInt ≤ 440 := by have z9 := hV.int ht0 kt0 1; rw [etb, ltb] at z9; exact z9
  obtain ⟨huu, kuu⟩ : uu ∈ L ∧ h.1 uu = 9 := by obtain ⟨r9, e9, z1, z2⟩ := hV.ref (t := 9) hx0 kx0 11 rfl (by decide); rw [← euu, e9]; exact ⟨z1, z2⟩
  obtain ⟨hsu, ksu⟩ : su ∈ L ∧ h.1 su = 9 := by obtain ⟨r9, e9, z1, z2⟩ := hV.ref (t := 9) hx0 kx0 12 rfl (by decide); rw [← esu, e9]; exact ⟨z1, z2⟩
  have nuu_su : ¬ uu = su := hdz.1
  obtain ⟨uc, euc⟩ : ∃ z, q.2.2.1 uu 1 = z := ⟨_, rfl⟩
  obtain ⟨huc, kuc, luc⟩ : uc ∈ L ∧ h.1 uc = 101 ∧ h.2.1 uc = 3 := by obtain ⟨r9, e9, z1, z2, z3⟩ := hV.refn (t := 101) (n := 3) huu kuu 1 rfl (by decide) rfl (by decide); rw [← euc, e9]; exact ⟨z1, z2, z3⟩
  obtain ⟨un, eun⟩ : ∃ z, q.2.2.1 uu 2 = z := ⟨_, rfl⟩
  obtain ⟨hun, kun, lun⟩ : un ∈ L ∧ h.1 un = 202 ∧ h.2.1 un = 15 := by obtain ⟨r9, e9, z1, z2, z3⟩ := hV.refn (t := 202) (n := 15) huu kuu 2 rfl (by decide) rfl (by decide); rw [← eun, e9]; exact ⟨z1, z2, z3⟩
  obtain ⟨uf, euf⟩ : ∃ z, q.2.2.1 uu 3 = z := ⟨_, rfl⟩
  obtain ⟨huf, kuf, luf⟩ : uf ∈ L ∧ h.1 uf = 102 ∧ h.2.1 uf = 15 := by obtain ⟨r9, e9, z1, z2, z3⟩ := hV.refn (t := 102) (n := 15) huu kuu 3 rfl (by decide) rfl (by decide); rw [← euf, e9]; exact ⟨z1, z2, z3⟩
  obtain ⟨uw, euw⟩ : ∃ z, q.2.2.1 uu 4 = z := ⟨_, rfl⟩
  obtain ⟨huw, kuw, luw⟩ : uw ∈ L ∧ h.1 uw = 103 ∧ h.2.1 uw = 15 := by obtain ⟨r9, e9, z1, z2, z3⟩ := hV.refn (t := 103) (n := 15) huu kuu 4 rfl (by decide) rfl (by decide); rw [← euw, e9]; exact ⟨z1, z2, z3⟩
  have hu : lc_u8 (q.1 uu 6) (q.1 a0 20) (q.2.2.2.1 uc) (q.2.2.2.1 m18) (q.2.2.2.1 uf) (q.2.2.2.1 m19) (q.2.2.2.1 uw) (q.2.2.2.2 un) (q.2.2.2.2 m17) := by rw [← euc, ← euf, ← euw, ← eun, xm17, xm18, xm19]; exact hu0
  obtain ⟨ho0, ko0, lo0⟩ : o0 ∈ L ∧ h.1 o0 = 7 ∧ h.2.1 o0 = 2 := by obtain ⟨r9, e9, z1, z2, z3⟩ := hV.refn (t := 7) (n := 2) hx0 kx0 1 rfl (by decide) rfl (by decide); rw [← eo0, e9]; exact ⟨z1, z2, z3⟩
  obtain ⟨hob, kob, lob⟩ : ob ∈ L ∧ h.1 ob = 300 ∧ h.2.1 ob = 59 := by obtain ⟨r9, e9, z1, z2, z3⟩ := hV.refn (t := 300) (n := 59) ho0 ko0 0 rfl (by decide) (by rw [lo0]; rfl) (by decide); rw [← eob, e9]; exact ⟨z1, z2, z3⟩
  have nt0_o0 : ¬ t0 = o0 := fun z9 => absurd (z9 ▸ lt0 : h.2.1 o0 = 1) (by rw [lo0]; decide)
  have ntb_ob : ¬ tb = ob := fun z9 => absurd (z9 ▸ ltb : h.2.1 ob = 440) (by rw [lob]; decide)
  have hout : lc_o (q.1 o0 1) (q.1 a0 22) (q.2.2.2.1 ob) (q.2.2.2.1 m21) := by rw [xm21]; exact hout0
  refine wa_aload_n B dL_law_675 rfl 3 rfl ?_
  refine wa_aload_n B dL_law_676 rfl 4 rfl ?_
  refine wa_iload B dL_law_677 0 rfl ?_
  refine wa_iconst B 1 dL_law_679 (by decide) ?_
  refine wa_iadd B dL_law_680 (fun v_1 ev_1 => ?_)
  subst ev_1
  have t_2 : (i + 1).toInt = i.toInt + 1 := by have b0 := zx_bd i; exact zx_add (show (-2147483648 : Int) ≤ i.toInt + 1 by omega) (show i.toInt + 1 < (2147483648 : Int) by omega)
  refine wa_sld B hX hbl hbA (i := (i + 1)) (show 0 ≤ (i + 1).toInt by omega) (show (i + 1).toInt < (N : Int) by omega) dL_law_681 ?_
  refine wa_aload_n B dL_law_682 rfl 4 rfl ?_
  refine wa_iload B dL_law_683 0 rfl ?_
  refine wa_iconst B 2 dL_law_685 (by decide) ?_
  refine wa_iadd B dL_law_686 (fun v_3 ev_3 => ?_)
  subst ev_3
  have t_4 : (i + 2).toInt = i.toInt + 2 := by have b0 := zx_bd i; exact zx_add (show (-2147483648 : Int) ≤ i.toInt + 2 by omega) (show i.toInt + 2 < (2147483648 : Int) by omega)
  refine wa_sld B hX hbl hbA (i := (i + 2)) (show 0 ≤ (i + 2).toInt by omega) (show (i + 2).toInt < (N : Int) by omega) dL_law_687 ?_
  refine wa_callVi B (x := (RX11, TX11, 16)) (As := [.int ((xs ((i + 1) : Int32).toNatClampNeg)), .int ((xs ((i + 2) : Int32).toNatClampNeg))]) (rest := []) (k_X11_join_c l dC dI h L hN q hV (a0 := x0) hx0 kx0 ((xs ((i + 1) : Int32).toNatClampNeg)) ((xs ((i + 2) : Int32).toNatClampNeg)) (t0 := t0) et0 (tb := tb) etb (fa := fa) efa (uu := uu) euu (o0 := o0) eo0 (ob := ob) eob  ) (cwV 2 B.1.2.2.2.2 gL_law_X11_join rfl rfl rfl (by decide +kernel) ⟨Nat.le_of_ble_eq_true rfl, Nat.le_of_ble_eq_true rfl⟩) hx0 kx0 (by decide) rfl rfl rfl (Nat.le_of_ble_eq_true rfl) dL_law_688 (fun r_6 q_5 w_7 => ?_)
  obtain ⟨hV_q_5, h2_q_5, hw_7⟩ := w_7
  have mN_q_5 : mv_N a0 q_5 := mv_N.eq (h2_q_5.I ha0 (show ¬ (sx_c6 h a0) from (sx_c6.n ka0 (by decide))) 8) (h2_q_5.J ha0 (show ¬ (sx_c6 h a0) from (sx_c6.n ka0 (by decide))) 11) mN
  have mF_q_5 : mv_F m18 m19 q_5 := mv_F.eq (h2_q_5.G hm18 (show ¬ (sx_c6 h m18) from (sx_c6.n km18 (by decide))) (by rw [km18]; decide)) (h2_q_5.G hm19 (show ¬ (sx_c6 h m19) from (sx_c6.n km19 (by decide))) (by rw [km19]; decide)) mF
  have mU_q_5 : mv_U m17 q_5 := mv_U.eq (h2_q_5.Lg hm17 (show ¬ (sx_c6 h m17) from (sx_c6.n km17 (by decide))) (by rw [km17]; decide)) mU
  have mS_q_5 : mv_S m23 m26 m28 m29 q_5 := mv_S.eq (h2_q_5.G hm23 (show ¬ (sx_c6 h m23) from (sx_c6.n km23 (by decide))) (by rw [km23]; decide)) (h2_q_5.G hm26 (show ¬ (sx_c6 h m26) from (sx_c6.n km26 (by decide))) (by rw [km26]; decide)) (h2_q_5.G hm28 (show ¬ (sx_c6 h m28) from (sx_c6.n km28 (by decide))) (by rw [km28]; decide)) (h2_q_5.G hm29 (show ¬ (sx_c6 h m29) from (sx_c6.n km29 (by decide))) (by rw [km29]; decide)) mS
  have mL_q_5 : mv_L m40 m41 m44 a0 q_5 := mv_L.eq (h2_q_5.G hm40 (show ¬ (sx_c6 h m40) from (sx_c6.n km40 (by decide))) (by rw [km40]; decide)) (h2_q_5.G hm41 (show ¬ (sx_c6 h m41) from (sx_c6.n km41 (by decide))) (by rw [km41]; decide)) (h2_q_5.G hm44 (show ¬ (sx_c6 h m44) from (sx_c6.n km44 (by decide))) (by rw [km44]; decide)) (h2_q_5.I ha0 (show ¬ (sx_c6 h a0) from (sx_c6.n ka0 (by decide))) 45) mL
  have hB_q_5 := hw_7.2.2.2.2.1.trans esu
  refine wa_pop B dL_law_691 rfl ?_
  refine wa_aload_n B dL_law_692 rfl 2 rfl ?_
  refine wa_aload_n B dL_law_693 rfl 4 rfl ?_
  refine wa_iload B dL_law_694 0 rfl ?_
  refine wa_iconst B 1 dL_law_696 (by decide) ?_
  refine wa_iadd B dL_law_697 (fun v_8 ev_8 => ?_)
  subst ev_8
  refine wa_sld B hX hbl hbA (i := (i + 1)) (show 0 ≤ (i + 1).toInt by omega) (show (i + 1).toInt < (N : Int) by omega) dL_law_698 ?_
  refine wa_aload_n B dL_law_699 rfl 4 rfl ?_
  refine wa_iload B dL_law_700 0 rfl ?_
  refine wa_iconst B 2 dL_law_702 (by decide) ?_
  refine wa_iadd B dL_law_703 (fun v_9 ev_9 => ?_)
  subst ev_9
  refine wa_sld B hX hbl hbA (i := (i + 2)) (show 0 ≤ (i + 2).toInt by omega) (show (i + 2).toInt < (N : Int) by omega) dL_law_704 ?_
  have z_10 : q_5.2.2.1 a0 3 = m3 := (h2_q_5.R ha0 (fun z9 => absurd z9.2 (by omega)) 3).trans (em3)
  have z_11 : q_5.2.2.1 a0 18 = m18 := (h2_q_5.R ha0 (fun z9 => absurd z9.2 (by omega)) 18).trans (em18)
  have z_12 : q_5.2.2.1 a0 19 = m19 := (h2_q_5.R ha0 (fun z9 => absurd z9.2 (by omega)) 19).trans (em19)
  have z_13 : q_5.2.2.1 a0 23 = m23 := (h2_q_5.R ha0 (fun z9 => absurd z9.2 (by omega)) 23).trans (em23)
  have z_14 : q_5.2.2.1 a0 24 = m24 := (h2_q_5.R ha0 (fun z9 => absurd z9.2 (by omega)) 24).trans (em24)
  have z_15 : q_5.2.2.1 a0 25 = m25 := (h2_q_5.R ha0 (fun z9 => absurd z9.2 (by omega)) 25).trans (em25)
  have z_16 : q_5.2.2.1 a0 26 = m26 := (h2_q_5.R ha0 (fun z9 => absurd z9.2 (by omega)) 26).trans (em26)
  have z_17 : q_5.2.2.1 a0 27 = m27 := (h2_q_5.R ha0 (fun z9 => absurd z9.2 (by omega)) 27).trans (em27)
  have z_18 : q_5.2.2.1 a0 28 = m28 := (h2_q_5.R ha0 (fun z9 => absurd z9.2 (by omega)) 28).trans (em28)
  have z_19 : q_5.2.2.1 a0 29 = m29 := (h2_q_5.R ha0 (fun z9 => absurd z9.2 (by omega)) 29).trans (em29)
  have z_20 : q_5.2.2.1 a0 30 = m30 := (h2_q_5.R ha0 (fun z9 => absurd z9.2 (by omega)) 30).trans (em30)
  have z_21 : q_5.2.2.1 a0 34 = m34 := (h2_q_5.R ha0 (fun z9 => absurd z9.2 (by omega)) 34).trans (em34)
  have z_22 : q_5.2.2.1 a0 35 = m35 := (h2_q_5.R ha0 (fun z9 => absurd z9.2 (by omega)) 35).trans (em35)
  have z_23 : q_5.2.2.1 a0 40 = m40 := (h2_q_5.R ha0 (fun z9 => absurd z9.2 (by omega)) 40).trans (em40)
  have z_24 : q_5.2.2.1 a0 41 = m41 := (h2_q_5.R ha0 (fun z9 => absurd z9.2 (by omega)) 41).trans (em41)
  have z_25 : q_5.2.2.1 a0 44 = m44 := (h2_q_5.R ha0 (fun z9 => absurd z9.2 (by omega)) 44).trans (em44)
  have z_26 : q_5.2.2.1 a0 42 = m42 := (h2_q_5.R ha0 (fun z9 => absurd z9.2 (by omega)) 42).trans (em42)
  have z_27 : q_5.2.2.1 a0 43 = m43 := (h2_q_5.R ha0 (fun z9 => absurd z9.2 (by omega)) 43).trans (em43)
  refine wa_callVi B (x := (RX12, TX12, 51)) (As := [.int ((xs ((i + 1) : Int32).toNatClampNeg)), .int ((xs ((i + 2) : Int32).toNatClampNeg))]) (rest := []) (k_X12_join l dC dI h L hN q_5 hV_q_5 (a0 := a0) ha0 ka0 ((xs ((i + 1) : Int32).toNatClampNeg)) ((xs ((i + 2) : Int32).toNatClampNeg)) (m3 := m3) z_10 (m18 := m18) z_11 (m19 := m19) z_12 (m23 := m23) z_13 (m24 := m24) z_14 (m25 := m25) z_15 (m26 := m26) z_16 (m27 := m27) z_17 (m28 := m28) z_18 (m29 := m29) z_19 (m30 := m30) z_20 (m34 := m34) z_21 (m35 := m35) z_22 (m40 := m40) z_23 (m41 := m41) z_24 (m44 := m44) z_25 (m42 := m42) z_26 (m43 := m43) z_27 mN_q_5 mS_q_5 mL_q_5 ) (cwV 2 B.1.2.2.2.2 gL_law_X12_join rfl rfl rfl (by decide +kernel) ⟨Nat.le_of_ble_eq_true rfl, Nat.le_of_ble_eq_true rfl⟩) ha0 ka0 (by decide) rfl rfl rfl (Nat.le_of_ble_eq_true rfl) dL_law_705 (fun r_29 q_28 w_30 => ?_)
  obtain ⟨hV_q_28, h2_q_28, h3_q_28, mN_q_28, mS_q_28, mL_q_28⟩ := w_30
  have mF_q_28 : mv_F m18 m19 q_28 := mv_F.eq (h2_q_28.G hm18 (show ¬ (h.1 m18 = 12 ∨ h.1 m18 = 113 ∨ h.1 m18 = 133 ∨ h.1 m18 = 134 ∨ h.1 m18 = 135 ∨ h.1 m18 = 138 ∨ h.1 m18 = 139 ∨ h.1 m18 = 140 ∨ h.1 m18 = 136 ∨ h.1 m18 = 137 ∨ h.1 m18 = 144 ∨ h.1 m18 = 245) from (fun z => z.elim (fun z => absurd (z.symm.trans km18) (by decide)) (fun z => z.elim (fun z => absurd (z.symm.trans km18) (by decide)) (fun z => z.elim (fun z => absurd (z.symm.trans km18) (by decide)) (fun z => z.elim (fun z => absurd (z.symm.trans km18) (by decide)) (fun z => z.elim (fun z => absurd (z.symm.trans km18) (by decide)) (fun z => z.elim (fun z => absurd (z.symm.trans km18) (by decide)) (fun z => z.elim (fun z => absurd (z.symm.trans km18) (by decide)) (fun z => z.elim (fun z => absurd (z.symm.trans km18) (by decide)) (fun z => z.elim (fun z => absurd (z.symm.trans km18) (by decide)) (fun z => z.elim (fun z => absurd (z.symm.trans km18) (by decide)) (fun z => z.elim (fun z => absurd (z.symm.trans km18) (by decide)) (fun z => absurd (z.symm.trans km18) (by decide)))))))))))))) (by rw [km18]; decide)) (h2_q_28.G hm19 (show ¬ (h.1 m19 = 12 ∨ h.1 m19 = 113 ∨ h.1 m19 = 133 ∨ h.1 m19 = 134 ∨ h.1 m19 = 135 ∨ h.1 m19 = 138 ∨ h.1 m19 = 139 ∨ h.1 m19 = 140 ∨ h.1 m19 = 136 ∨ h.1 m19 = 137 ∨ h.1 m19 = 144 ∨ h.1 m19 = 245) from (fun z => z.elim (fun z => absurd (z.symm.trans km19) (by decide)) (fun z => z.elim (fun z => absurd (z.symm.trans km19) (by decide)) (fun z => z.elim (fun z => absurd (z.symm.trans km19) (by decide)) (fun z => z.elim (fun z => absurd (z.symm.trans km19) (by decide)) (fun z => z.elim (fun z => absurd (z.symm.trans km19) (by decide)) (fun z => z.elim (fun z => absurd (z.symm.trans km19) (by decide)) (fun z => z.elim (fun z => absurd (z.symm.trans km19) (by decide)) (fun z => z.elim (fun z => absurd (z.symm.trans km19) (by decide)) (fun z => z.elim (fun z => absurd (z.symm.trans km19) (by decide)) (fun z => z.elim (fun z => absurd (z.symm.trans km19) (by decide)) (fun z => z.elim (fun z => absurd (z.symm.trans km19) (by decide)) (fun z => absurd (z.symm.trans km19) (by decide)))))))))))))) (by rw [km19]; decide)) mF_q_5
  have mU_q_28 : mv_U m17 q_28 := mv_U.eq (h2_q_28.Lg hm17 (show ¬ (h.1 m17 = 12 ∨ h.1 m17 = 113 ∨ h.1 m17 = 133 ∨ h.1 m17 = 134 ∨ h.1 m17 = 135 ∨ h.1 m17 = 138 ∨ h.1 m17 = 139 ∨ h.1 m17 = 140 ∨ h.1 m17 = 136 ∨ h.1 m17 = 137 ∨ h.1 m17 = 144 ∨ h.1 m17 = 245) from (fun z => z.elim (fun z => absurd (z.symm.trans km17) (by decide)) (fun z => z.elim (fun z => absurd (z.symm.trans km17) (by decide)) (fun z => z.elim (fun z => absurd (z.symm.trans km17) (by decide)) (fun z => z.elim (fun z => absurd (z.symm.trans km17) (by decide)) (fun z => z.elim (fun z => absurd (z.symm.trans km17) (by decide)) (fun z => z.elim (fun z => absurd (z.symm.trans km17) (by decide)) (fun z => z.elim (fun z => absurd (z.symm.trans km17) (by decide)) (fun z => z.elim (fun z => absurd (z.symm.trans km17) (by decide)) (fun z => z.elim (fun z => absurd (z.symm.trans km17) (by decide)) (fun z => z.elim (fun z => absurd (z.symm.trans km17) (by decide)) (fun z => z.elim (fun z => absurd (z.symm.trans km17) (by decide)) (fun z => absurd (z.symm.trans km17) (by decide)))))))))))))) (by rw [km17]; decide)) mU_q_5
  refine wa_pop B dL_law_708 rfl ?_
  refine wa_goto B 775 dL_law_709 (by decide) ?_
  have z_31 : q_28.1 a0 2 = q.1 a0 2 := (h3_q_28.1 2 (by decide)).trans (h2_q_5.I ha0 (show ¬ (sx_c6 h a0) from (sx_c6.n ka0 (by decide))) 2)
  have y_32 : (q_28.1 a0 2).toInt = (q.1 a0 2).toInt := by rw [z_31]
  have z_33 : q_28.1 a0 45 = q.1 a0 45 := (h3_q_28.1 45 (by decide)).trans (h2_q_5.I ha0 (show ¬ (sx_c6 h a0) from (sx_c6.n ka0 (by decide))) 45)
  have y_34 : (q_28.1 a0 45).toInt = (q.1 a0 45).toInt := by rw [z_33]
  have z_35 : q_28.1 t0 1 = q_5.1 t0 1 := h2_q_28.I ht0 (show ¬ (h.1 t0 = 12 ∨ h.1 t0 = 113 ∨ h.1 t0 = 133 ∨ h.1 t0 = 134 ∨ h.1 t0 = 135 ∨ h.1 t0 = 138 ∨ h.1 t0 = 139 ∨ h.1 t0 = 140 ∨ h.1 t0 = 136 ∨ h.1 t0 = 137 ∨ h.1 t0 = 144 ∨ h.1 t0 = 245) from (fun z => z.elim (fun z => absurd (z.symm.trans kt0) (by decide)) (fun z => z.elim (fun z => absurd (z.symm.trans kt0) (by decide)) (fun z => z.elim (fun z => absurd (z.symm.trans kt0) (by decide)) (fun z => z.elim (fun z => absurd (z.symm.trans kt0) (by decide)) (fun z => z.elim (fun z => absurd (z.symm.trans kt0) (by decide)) (fun z => z.elim (fun z => absurd (z.symm.trans kt0) (by decide)) (fun z => z.elim (fun z => absurd (z.symm.trans kt0) (by decide)) (fun z => z.elim (fun z => absurd (z.symm.trans kt0) (by decide)) (fun z => z.elim (fun z => absurd (z.symm.trans kt0) (by decide)) (fun z => z.elim (fun z => absurd (z.symm.trans kt0) (by decide)) (fun z => z.elim (fun z => absurd (z.symm.trans kt0) (by decide)) (fun z => absurd (z.symm.trans kt0) (by decide)))))))))))))) 1
  have y_36 : (q_28.1 t0 1).toInt = (q_5.1 t0 1).toInt := by rw [z_35]
  have z_37 : q_28.1 x0 14 = q_5.1 x0 14 := h2_q_28.I hx0 (show ¬ (h.1 x0 = 12 ∨ h.1 x0 = 113 ∨ h.1 x0 = 133 ∨ h.1 x0 = 134 ∨ h.1 x0 = 135 ∨ h.1 x0 = 138 ∨ h.1 x0 = 139 ∨ h.1 x0 = 140 ∨ h.1 x0 = 136 ∨ h.1 x0 = 137 ∨ h.1 x0 = 144 ∨ h.1 x0 = 245) from (fun z => z.elim (fun z => absurd (z.symm.trans kx0) (by decide)) (fun z => z.elim (fun z => absurd (z.symm.trans kx0) (by decide)) (fun z => z.elim (fun z => absurd (z.symm.trans kx0) (by decide)) (fun z => z.elim (fun z => absurd (z.symm.trans kx0) (by decide)) (fun z => z.elim (fun z => absurd (z.symm.trans kx0) (by decide)) (fun z => z.elim (fun z => absurd (z.symm.trans kx0) (by decide)) (fun z => z.elim (fun z => absurd (z.symm.trans kx0) (by decide)) (fun z => z.elim (fun z => absurd (z.symm.trans kx0) (by decide)) (fun z => z.elim (fun z => absurd (z.symm.trans kx0) (by decide)) (fun z => z.elim (fun z => absurd (z.symm.trans kx0) (by decide)) (fun z => z.elim (fun z => absurd (z.symm.trans kx0) (by decide)) (fun z => absurd (z.symm.trans kx0) (by decide)))))))))))))) 14
  have y_38 : (q_28.1 x0 14).toInt = (q_5.1 x0 14).toInt := by rw [z_37]
  have z_39 : q_28.2.2.1 x0 0 = t0 := (h2_q_28.R hx0 (show ¬ ((h.1 x0 = 12 ∨ h.1 x0 = 113 ∨ h.1 x0 = 133 ∨ h.1 x0 = 134 ∨ h.1 x0 = 135 ∨ h.1 x0 = 138 ∨ h.1 x0 = 139 ∨ h.1 x0 = 140 ∨ h.1 x0 = 136 ∨ h.1 x0 = 137 ∨ h.1 x0 = 144 ∨ h.1 x0 = 245) ∧ (h.1 x0 = 8 ∨ h.1 x0 = 11)) from fun z9 => (show ¬ (h.1 x0 = 12 ∨ h.1 x0 = 113 ∨ h.1 x0 = 133 ∨ h.1 x0 = 134 ∨ h.1 x0 = 135 ∨ h.1 x0 = 138 ∨ h.1 x0 = 139 ∨ h.1 x0 = 140 ∨ h.1 x0 = 136 ∨ h.1 x0 = 137 ∨ h.1 x0 = 144 ∨ h.1 x0 = 245) from (fun z => z.elim (fun z => absurd (z.symm.trans kx0) (by decide)) (fun z => z.elim (fun z => absurd (z.symm.trans kx0) (by decide)) (fun z => z.elim (fun z => absurd (z.symm.trans kx0) (by decide)) (fun z => z.elim (fun z => absurd (z.symm.trans kx0) (by decide)) (fun z => z.elim (fun z => absurd (z.symm.trans kx0) (by decide)) (fun z => z.elim (fun z => absurd (z.symm.trans kx0) (by decide)) (fun z => z.elim (fun z => absurd (z.symm.trans kx0) (by decide)) (fun z => z.elim (fun z => absurd (z.symm.trans kx0) (by decide)) (fun z => z.elim (fun z => absurd (z.symm.trans kx0) (by decide)) (fun z => z.elim (fun z => absurd (z.symm.trans kx0) (by decide)) (fun z => z.elim (fun z => absurd (z.symm.trans kx0) (by decide)) (fun z => absurd (z.symm.trans kx0) (by decide)))))))))))))) z9.1) 0).trans (hw_7.1)
  have z_40 : q_28.2.2.1 t0 0 = tb := (h2_q_28.R ht0 (fun z9 => absurd z9.2 (by omega)) 0).trans ((h2_q_5.R ht0 (fun z9 => absurd z9.2 (by omega)) 0).trans (etb))
  have z_41 : q_28.2.2.1 x0 9 = fa := (h2_q_28.R hx0 (show ¬ ((h.1 x0 = 12 ∨ h.1 x0 = 113 ∨ h.1 x0 = 133 ∨ h.1 x0 = 134 ∨ h.1 x0 = 135 ∨ h.1 x0 = 138 ∨ h.1 x0 = 139 ∨ h.1 x0 = 140 ∨ h.1 x0 = 136 ∨ h.1 x0 = 137 ∨ h.1 x0 = 144 ∨ h.1 x0 = 245) ∧ (h.1 x0 = 8 ∨ h.1 x0 = 11)) from fun z9 => (show ¬ (h.1 x0 = 12 ∨ h.1 x0 = 113 ∨ h.1 x0 = 133 ∨ h.1 x0 = 134 ∨ h.1 x0 = 135 ∨ h.1 x0 = 138 ∨ h.1 x0 = 139 ∨ h.1 x0 = 140 ∨ h.1 x0 = 136 ∨ h.1 x0 = 137 ∨ h.1 x0 = 144 ∨ h.1 x0 = 245) from (fun z => z.elim (fun z => absurd (z.symm.trans kx0) (by decide)) (fun z => z.elim (fun z => absurd (z.symm.trans kx0) (by decide)) (fun z => z.elim (fun z => absurd (z.symm.trans kx0) (by decide)) (fun z => z.elim (fun z => absurd (z.symm.trans kx0) (by decide)) (fun z => z.elim (fun z => absurd (z.symm.trans kx0) (by decide)) (fun z => z.elim (fun z => absurd (z.symm.trans kx0) (by decide)) (fun z => z.elim (fun z => absurd (z.symm.trans kx0) (by decide)) (fun z => z.elim (fun z => absurd (z.symm.trans kx0) (by decide)) (fun z => z.elim (fun z => absurd (z.symm.trans kx0) (by decide)) (fun z => z.elim (fun z => absurd (z.symm.trans kx0) (by decide)) (fun z => z.elim (fun z => absurd (z.symm.trans kx0) (by decide)) (fun z => absurd (z.symm.trans kx0) (by decide)))))))))))))) z9.1) 9).trans (hw_7.2.2.2.2.2.1)
  have z_42 : q_28.2.2.2.1 tb = q.2.2.2.1 tb := (h2_q_28.G htb (show ¬ (h.1 tb = 12 ∨ h.1 tb = 113 ∨ h.1 tb = 133 ∨ h.1 tb = 134 ∨ h.1 tb = 135 ∨ h.1 tb = 138 ∨ h.1 tb = 139 ∨ h.1 tb = 140 ∨ h.1 tb = 136 ∨ h.1 tb = 137 ∨ h.1 tb = 144 ∨ h.1 tb = 245) from (fun z => z.elim (fun z => absurd (z.symm.trans ktb) (by decide)) (fun z => z.elim (fun z => absurd (z.symm.trans ktb) (by decide)) (fun z => z.elim (fun z => absurd (z.symm.trans ktb) (by decide)) (fun z => z.elim (fun z => absurd (z.symm.trans ktb) (by decide)) (fun z => z.elim (fun z => absurd (z.symm.trans ktb) (by decide)) (fun z => z.elim (fun z => absurd (z.symm.trans ktb) (by decide)) (fun z => z.elim (fun z => absurd (z.symm.trans ktb) (by decide)) (fun z => z.elim (fun z => absurd (z.symm.trans ktb) (by decide)) (fun z => z.elim (fun z => absurd (z.symm.trans ktb) (by decide)) (fun z => z.elim (fun z => absurd (z.symm.trans ktb) (by decide)) (fun z => z.elim (fun z => absurd (z.symm.trans ktb) (by decide)) (fun z => absurd (z.symm.trans ktb) (by decide)))))))))))))) (by rw [ktb]; decide)).trans (h2_q_5.G htb (show ¬ (sx_c6 h tb) from (sx_c6.t ktb ltb)) (by rw [ktb]; decide))
  have z_43 : q_28.2.2.2.1 m1 = q.2.2.2.1 m1 := (h2_q_28.G hm1 (show ¬ (h.1 m1 = 12 ∨ h.1 m1 = 113 ∨ h.1 m1 = 133 ∨ h.1 m1 = 134 ∨ h.1 m1 = 135 ∨ h.1 m1 = 138 ∨ h.1 m1 = 139 ∨ h.1 m1 = 140 ∨ h.1 m1 = 136 ∨ h.1 m1 = 137 ∨ h.1 m1 = 144 ∨ h.1 m1 = 245) from (fun z => z.elim (fun z => absurd (z.symm.trans km1) (by decide)) (fun z => z.elim (fun z => absurd (z.symm.trans km1) (by decide)) (fun z => z.elim (fun z => absurd (z.symm.trans km1) (by decide)) (fun z => z.elim (fun z => absurd (z.symm.trans km1) (by decide)) (fun z => z.elim (fun z => absurd (z.symm.trans km1) (by decide)) (fun z => z.elim (fun z => absurd (z.symm.trans km1) (by decide)) (fun z => z.elim (fun z => absurd (z.symm.trans km1) (by decide)) (fun z => z.elim (fun z => absurd (z.symm.trans km1) (by decide)) (fun z => z.elim (fun z => absurd (z.symm.trans km1) (by decide)) (fun z => z.elim (fun z => absurd (z.symm.trans km1) (by decide)) (fun z => z.elim (fun z => absurd (z.symm.trans km1) (by decide)) (fun z => absurd (z.symm.trans km1) (by decide)))))))))))))) (by rw [km1]; decide)).trans (h2_q_5.G hm1 (show ¬ (sx_c6 h m1) from (sx_c6.n km1 (by decide))) (by rw [km1]; decide))
  have hT9 : ty_T (q_28.2.2.2.1 tb) (q_28.2.2.2.1 m1) (q_28.1 t0 1).toInt.toNat := by rw [z_42, z_43]; exact hT.le (by omega)
  have z_44 : q_28.2.2.2.1 m44 = q.2.2.2.1 m44 := (h2_q_28.G hm44 (show ¬ (h.1 m44 = 12 ∨ h.1 m44 = 113 ∨ h.1 m44 = 133 ∨ h.1 m44 = 134 ∨ h.1 m44 = 135 ∨ h.1 m44 = 138 ∨ h.1 m44 = 139 ∨ h.1 m44 = 140 ∨ h.1 m44 = 136 ∨ h.1 m44 = 137 ∨ h.1 m44 = 144 ∨ h.1 m44 = 245) from (fun z => z.elim (fun z => absurd (z.symm.trans km44) (by decide)) (fun z => z.elim (fun z => absurd (z.symm.trans km44) (by decide)) (fun z => z.elim (fun z => absurd (z.symm.trans km44) (by decide)) (fun z => z.elim (fun z => absurd (z.symm.trans km44) (by decide)) (fun z => z.elim (fun z => absurd (z.symm.trans km44) (by decide)) (fun z => z.elim (fun z => absurd (z.symm.trans km44) (by decide)) (fun z => z.elim (fun z => absurd (z.symm.trans km44) (by decide)) (fun z => z.elim (fun z => absurd (z.symm.trans km44) (by decide)) (fun z => z.elim (fun z => absurd (z.symm.trans km44) (by decide)) (fun z => z.elim (fun z => absurd (z.symm.trans km44) (by decide)) (fun z => z.elim (fun z => absurd (z.symm.trans km44) (by decide)) (fun z => absurd (z.symm.trans km44) (by decide)))))))))))))) (by rw [km44]; decide)).trans (h2_q_5.G hm44 (show ¬ (sx_c6 h m44) from (sx_c6.n km44 (by decide))) (by rw [km44]; decide))
  have hR9 : lc_R h fa m44 x0 q_28 := by
    intro f hf
    obtain ⟨e9, ee9, he9, ke9⟩ := hV.elem (t := 0) hfa kfa (by decide) rfl (j := f) (by omega)
    rw [ee9, show q_28.1 e9 3 = q_5.1 e9 3 from h2_q_28.I he9 (show ¬ (h.1 e9 = 12 ∨ h.1 e9 = 113 ∨ h.1 e9 = 133 ∨ h.1 e9 = 134 ∨ h.1 e9 = 135 ∨ h.1 e9 = 138 ∨ h.1 e9 = 139 ∨ h.1 e9 = 140 ∨ h.1 e9 = 136 ∨ h.1 e9 = 137 ∨ h.1 e9 = 144 ∨ h.1 e9 = 245) from by omega) 3, show q_5.1 e9 3 = q.1 e9 3 from h2_q_5.I he9 (show ¬ (sx_c6 h e9) from by (try unfold sx_mk at *); (try unfold sx_ck at *); (try unfold sx_c6 at *); omega) 3, ← ee9, z_44]
    exact hR f (by omega)
  have hR_uu : q_28.2.2.1 uu = q.2.2.1 uu := by rw [show q_28.2.2.1 uu = q_5.2.2.1 uu from h2_q_28.2 uu huu (fun z9 => absurd z9.2 (by rw [kuu]; decide)), show q_5.2.2.1 uu = q.2.2.1 uu from h2_q_5.2 uu huu (fun z9 => absurd z9.2 (by rw [kuu]; decide))]
  have hR_su : q_28.2.2.1 su = q.2.2.1 su := by rw [show q_28.2.2.1 su = q_5.2.2.1 su from h2_q_28.2 su hsu (fun z9 => absurd z9.2 (by rw [ksu]; decide)), show q_5.2.2.1 su = q.2.2.1 su from h2_q_5.2 su hsu (fun z9 => absurd z9.2 (by rw [ksu]; decide))]
  have z_45 : q_28.1 o0 1 = q.1 o0 1 := (h2_q_28.I ho0 (show ¬ (h.1 o0 = 12 ∨ h.1 o0 = 113 ∨ h.1 o0 = 133 ∨ h.1 o0 = 134 ∨ h.1 o0 = 135 ∨ h.1 o0 = 138 ∨ h.1 o0 = 139 ∨ h.1 o0 = 140 ∨ h.1 o0 = 136 ∨ h.1 o0 = 137 ∨ h.1 o0 = 144 ∨ h.1 o0 = 245) from (fun z => z.elim (fun z => absurd (z.symm.trans ko0) (by decide)) (fun z => z.elim (fun z => absurd (z.symm.trans ko0) (by decide)) (fun z => z.elim (fun z => absurd (z.symm.trans ko0) (by decide)) (fun z => z.elim (fun z => absurd (z.symm.trans ko0) (by decide)) (fun z => z.elim (fun z => absurd (z.symm.trans ko0) (by decide)) (fun z => z.elim (fun z => absurd (z.symm.trans ko0) (by decide)) (fun z => z.elim (fun z => absurd (z.symm.trans ko0) (by decide)) (fun z => z.elim (fun z => absurd (z.symm.trans ko0) (by decide)) (fun z => z.elim (fun z => absurd (z.symm.trans ko0) (by decide)) (fun z => z.elim (fun z => absurd (z.symm.trans ko0) (by decide)) (fun z => z.elim (fun z => absurd (z.symm.trans ko0) (by decide)) (fun z => absurd (z.symm.trans ko0) (by decide)))))))))))))) 1).trans (h2_q_5.I ho0 (show ¬ (sx_c6 h o0) from (sx_c6.o ko0 lo0)) 1)
  have z_46 : q_28.1 a0 22 = q.1 a0 22 := (h3_q_28.1 22 (by decide)).trans (h2_q_5.I ha0 (show ¬ (sx_c6 h a0) from (sx_c6.n ka0 (by decide))) 22)
  have z_47 : q_28.2.2.2.1 ob = q.2.2.2.1 ob := (h2_q_28.G hob (show ¬ (h.1 ob = 12 ∨ h.1 ob = 113 ∨ h.1 ob = 133 ∨ h.1 ob = 134 ∨ h.1 ob = 135 ∨ h.1 ob = 138 ∨ h.1 ob = 139 ∨ h.1 ob = 140 ∨ h.1 ob = 136 ∨ h.1 ob = 137 ∨ h.1 ob = 144 ∨ h.1 ob = 245) from (fun z => z.elim (fun z => absurd (z.symm.trans kob) (by decide)) (fun z => z.elim (fun z => absurd (z.symm.trans kob) (by decide)) (fun z => z.elim (fun z => absurd (z.symm.trans kob) (by decide)) (fun z => z.elim (fun z => absurd (z.symm.trans kob) (by decide)) (fun z => z.elim (fun z => absurd (z.symm.trans kob) (by decide)) (fun z => z.elim (fun z => absurd (z.symm.trans kob) (by decide)) (fun z => z.elim (fun z => absurd (z.symm.trans kob) (by decide)) (fun z => z.elim (fun z => absurd (z.symm.trans kob) (by decide)) (fun z => z.elim (fun z => absurd (z.symm.trans kob) (by decide)) (fun z => z.elim (fun z => absurd (z.symm.trans kob) (by decide)) (fun z => z.elim (fun z => absurd (z.symm.trans kob) (by decide)) (fun z => absurd (z.symm.trans kob) (by decide)))))))))))))) (by rw [kob]; decide)).trans (h2_q_5.G hob (show ¬ (sx_c6 h ob) from (sx_c6.u kob lob)) (by rw [kob]; decide))
  have z_48 : q_28.2.2.2.1 m21 = q.2.2.2.1 m21 := (h2_q_28.G hm21 (show ¬ (h.1 m21 = 12 ∨ h.1 m21 = 113 ∨ h.1 m21 = 133 ∨ h.1 m21 = 134 ∨ h.1 m21 = 135 ∨ h.1 m21 = 138 ∨ h.1 m21 = 139 ∨ h.1 m21 = 140 ∨ h.1 m21 = 136 ∨ h.1 m21 = 137 ∨ h.1 m21 = 144 ∨ h.1 m21 = 245) from (fun z => z.elim (fun z => absurd (z.symm.trans km21) (by decide)) (fun z => z.elim (fun z => absurd (z.symm.trans km21) (by decide)) (fun z => z.elim (fun z => absurd (z.symm.trans km21) (by decide)) (fun z => z.elim (fun z => absurd (z.symm.trans km21) (by decide)) (fun z => z.elim (fun z => absurd (z.symm.trans km21) (by decide)) (fun z => z.elim (fun z => absurd (z.symm.trans km21) (by decide)) (fun z => z.elim (fun z => absurd (z.symm.trans km21) (by decide)) (fun z => z.elim (fun z => absurd (z.symm.trans km21) (by decide)) (fun z => z.elim (fun z => absurd (z.symm.trans km21) (by decide)) (fun z => z.elim (fun z => absurd (z.symm.trans km21) (by decide)) (fun z => z.elim (fun z => absurd (z.symm.trans km21) (by decide)) (fun z => absurd (z.symm.trans km21) (by decide)))))))))))))) (by rw [km21]; decide)).trans (h2_q_5.G hm21 (show ¬ (sx_c6 h m21) from (sx_c6.n km21 (by decide))) (by rw [km21]; decide))
  have hout9 : lc_o (q_28.1 o0 1) (q_28.1 a0 22) (q_28.2.2.2.1 ob) (q_28.2.2.2.1 (mm 21)) := by rw [← xm21, z_45, z_46, z_47, z_48]; exact hout
  have z_49 : q_28.2.2.1 x0 1 = o0 := (h2_q_28.R hx0 (show ¬ ((h.1 x0 = 12 ∨ h.1 x0 = 113 ∨ h.1 x0 = 133 ∨ h.1 x0 = 134 ∨ h.1 x0 = 135 ∨ h.1 x0 = 138 ∨ h.1 x0 = 139 ∨ h.1 x0 = 140 ∨ h.1 x0 = 136 ∨ h.1 x0 = 137 ∨ h.1 x0 = 144 ∨ h.1 x0 = 245) ∧ (h.1 x0 = 8 ∨ h.1 x0 = 11)) from fun z9 => (show ¬ (h.1 x0 = 12 ∨ h.1 x0 = 113 ∨ h.1 x0 = 133 ∨ h.1 x0 = 134 ∨ h.1 x0 = 135 ∨ h.1 x0 = 138 ∨ h.1 x0 = 139 ∨ h.1 x0 = 140 ∨ h.1 x0 = 136 ∨ h.1 x0 = 137 ∨ h.1 x0 = 144 ∨ h.1 x0 = 245) from (fun z => z.elim (fun z => absurd (z.symm.trans kx0) (by decide)) (fun z => z.elim (fun z => absurd (z.symm.trans kx0) (by decide)) (fun z => z.elim (fun z => absurd (z.symm.trans kx0) (by decide)) (fun z => z.elim (fun z => absurd (z.symm.trans kx0) (by decide)) (fun z => z.elim (fun z => absurd (z.symm.trans kx0) (by decide)) (fun z => z.elim (fun z => absurd (z.symm.trans kx0) (by decide)) (fun z => z.elim (fun z => absurd (z.symm.trans kx0) (by decide)) (fun z => z.elim (fun z => absurd (z.symm.trans kx0) (by decide)) (fun z => z.elim (fun z => absurd (z.symm.trans kx0) (by decide)) (fun z => z.elim (fun z => absurd (z.symm.trans kx0) (by decide)) (fun z => z.elim (fun z => absurd (z.symm.trans kx0) (by decide)) (fun z => absurd (z.symm.trans kx0) (by decide)))))))))))))) z9.1) 1).trans (hw_7.2.2.2.2.2.2)
  have z_50 : q_28.2.2.1 o0 0 = ob := (h2_q_28.R ho0 (fun z9 => absurd z9.2 (by omega)) 0).trans ((h2_q_5.R ho0 (fun z9 => absurd z9.2 (by omega)) 0).trans (eob))
  have z_51 : q_28.1 uu 6 = q.1 uu 6 := (h2_q_28.I huu (show ¬ (h.1 uu = 12 ∨ h.1 uu = 113 ∨ h.1 uu = 133 ∨ h.1 uu = 134 ∨ h.1 uu = 135 ∨ h.1 uu = 138 ∨ h.1 uu = 139 ∨ h.1 uu = 140 ∨ h.1 uu = 136 ∨ h.1 uu = 137 ∨ h.1 uu = 144 ∨ h.1 uu = 245) from (fun z => z.elim (fun z => absurd (z.symm.trans kuu) (by decide)) (fun z => z.elim (fun z => absurd (z.symm.trans kuu) (by decide)) (fun z => z.elim (fun z => absurd (z.symm.trans kuu) (by decide)) (fun z => z.elim (fun z => absurd (z.symm.trans kuu) (by decide)) (fun z => z.elim (fun z => absurd (z.symm.trans kuu) (by decide)) (fun z => z.elim (fun z => absurd (z.symm.trans kuu) (by decide)) (fun z => z.elim (fun z => absurd (z.symm.trans kuu) (by decide)) (fun z => z.elim (fun z => absurd (z.symm.trans kuu) (by decide)) (fun z => z.elim (fun z => absurd (z.symm.trans kuu) (by decide)) (fun z => z.elim (fun z => absurd (z.symm.trans kuu) (by decide)) (fun z => z.elim (fun z => absurd (z.symm.trans kuu) (by decide)) (fun z => absurd (z.symm.trans kuu) (by decide)))))))))))))) 6).trans (h2_q_5.I huu (show ¬ (sx_c6 h uu) from (sx_c6.n kuu (by decide))) 6)
  have z_52 : q_28.1 a0 20 = q.1 a0 20 := (h3_q_28.1 20 (by decide)).trans (h2_q_5.I ha0 (show ¬ (sx_c6 h a0) from (sx_c6.n ka0 (by decide))) 20)
  have z_53 : q_28.2.2.2.1 uc = q.2.2.2.1 uc := (h2_q_28.G huc (show ¬ (h.1 uc = 12 ∨ h.1 uc = 113 ∨ h.1 uc = 133 ∨ h.1 uc = 134 ∨ h.1 uc = 135 ∨ h.1 uc = 138 ∨ h.1 uc = 139 ∨ h.1 uc = 140 ∨ h.1 uc = 136 ∨ h.1 uc = 137 ∨ h.1 uc = 144 ∨ h.1 uc = 245) from (fun z => z.elim (fun z => absurd (z.symm.trans kuc) (by decide)) (fun z => z.elim (fun z => absurd (z.symm.trans kuc) (by decide)) (fun z => z.elim (fun z => absurd (z.symm.trans kuc) (by decide)) (fun z => z.elim (fun z => absurd (z.symm.trans kuc) (by decide)) (fun z => z.elim (fun z => absurd (z.symm.trans kuc) (by decide)) (fun z => z.elim (fun z => absurd (z.symm.trans kuc) (by decide)) (fun z => z.elim (fun z => absurd (z.symm.trans kuc) (by decide)) (fun z => z.elim (fun z => absurd (z.symm.trans kuc) (by decide)) (fun z => z.elim (fun z => absurd (z.symm.trans kuc) (by decide)) (fun z => z.elim (fun z => absurd (z.symm.trans kuc) (by decide)) (fun z => z.elim (fun z => absurd (z.symm.trans kuc) (by decide)) (fun z => absurd (z.symm.trans kuc) (by decide)))))))))))))) (by rw [kuc]; decide)).trans (h2_q_5.G huc (show ¬ (sx_c6 h uc) from (sx_c6.n kuc (by decide))) (by rw [kuc]; decide))
  have z_54 : q_28.2.2.2.1 m18 = q.2.2.2.1 m18 := (h2_q_28.G hm18 (show ¬ (h.1 m18 = 12 ∨ h.1 m18 = 113 ∨ h.1 m18 = 133 ∨ h.1 m18 = 134 ∨ h.1 m18 = 135 ∨ h.1 m18 = 138 ∨ h.1 m18 = 139 ∨ h.1 m18 = 140 ∨ h.1 m18 = 136 ∨ h.1 m18 = 137 ∨ h.1 m18 = 144 ∨ h.1 m18 = 245) from (fun z => z.elim (fun z => absurd (z.symm.trans km18) (by decide)) (fun z => z.elim (fun z => absurd (z.symm.trans km18) (by decide)) (fun z => z.elim (fun z => absurd (z.symm.trans km18) (by decide)) (fun z => z.elim (fun z => absurd (z.symm.trans km18) (by decide)) (fun z => z.elim (fun z => absurd (z.symm.trans km18) (by decide)) (fun z => z.elim (fun z => absurd (z.symm.trans km18) (by decide)) (fun z => z.elim (fun z => absurd (z.symm.trans km18) (by decide)) (fun z => z.elim (fun z => absurd (z.symm.trans km18) (by decide)) (fun z => z.elim (fun z => absurd (z.symm.trans km18) (by decide)) (fun z => z.elim (fun z => absurd (z.symm.trans km18) (by decide)) (fun z => z.elim (fun z => absurd (z.symm.trans km18) (by decide)) (fun z => absurd (z.symm.trans km18) (by decide)))))))))))))) (by rw [km18]; decide)).trans (h2_q_5.G hm18 (show ¬ (sx_c6 h m18) from (sx_c6.n km18 (by decide))) (by rw [km18]; decide))
  have z_55 : q_28.2.2.2.1 uf = q.2.2.2.1 uf := (h2_q_28.G huf (show ¬ (h.1 uf = 12 ∨ h.1 uf = 113 ∨ h.1 uf = 133 ∨ h.1 uf = 134 ∨ h.1 uf = 135 ∨ h.1 uf = 138 ∨ h.1 uf = 139 ∨ h.1 uf = 140 ∨ h.1 uf = 136 ∨ h.1 uf = 137 ∨ h.1 uf = 144 ∨ h.1 uf = 245) from (fun z => z.elim (fun z => absurd (z.symm.trans kuf) (by decide)) (fun z => z.elim (fun z => absurd (z.symm.trans kuf) (by decide)) (fun z => z.elim (fun z => absurd (z.symm.trans kuf) (by decide)) (fun z => z.elim (fun z => absurd (z.symm.trans kuf) (by decide)) (fun z => z.elim (fun z => absurd (z.symm.trans kuf) (by decide)) (fun z => z.elim (fun z => absurd (z.symm.trans kuf) (by decide)) (fun z => z.elim (fun z => absurd (z.symm.trans kuf) (by decide)) (fun z => z.elim (fun z => absurd (z.symm.trans kuf) (by decide)) (fun z => z.elim (fun z => absurd (z.symm.trans kuf) (by decide)) (fun z => z.elim (fun z => absurd (z.symm.trans kuf) (by decide)) (fun z => z.elim (fun z => absurd (z.symm.trans kuf) (by decide)) (fun z => absurd (z.symm.trans kuf) (by decide)))))))))))))) (by rw [kuf]; decide)).trans (h2_q_5.G huf (show ¬ (sx_c6 h uf) from (sx_c6.n kuf (by decide))) (by rw [kuf]; decide))
  have z_56 : q_28.2.2.2.1 m19 = q.2.2.2.1 m19 := (h2_q_28.G hm19 (show ¬ (h.1 m19 = 12 ∨ h.1 m19 = 113 ∨ h.1 m19 = 133 ∨ h.1 m19 = 134 ∨ h.1 m19 = 135 ∨ h.1 m19 = 138 ∨ h.1 m19 = 139 ∨ h.1 m19 = 140 ∨ h.1 m19 = 136 ∨ h.1 m19 = 137 ∨ h.1 m19 = 144 ∨ h.1 m19 = 245) from (fun z => z.elim (fun z => absurd (z.symm.trans km19) (by decide)) (fun z => z.elim (fun z => absurd (z.symm.trans km19) (by decide)) (fun z => z.elim (fun z => absurd (z.symm.trans km19) (by decide)) (fun z => z.elim (fun z => absurd (z.symm.trans km19) (by decide)) (fun z => z.elim (fun z => absurd (z.symm.trans km19) (by decide)) (fun z => z.elim (fun z => absurd (z.symm.trans km19) (by decide)) (fun z => z.elim (fun z => absurd (z.symm.trans km19) (by decide)) (fun z => z.elim (fun z => absurd (z.symm.trans km19) (by decide)) (fun z => z.elim (fun z => absurd (z.symm.trans km19) (by decide)) (fun z => z.elim (fun z => absurd (z.symm.trans km19) (by decide)) (fun z => z.elim (fun z => absurd (z.symm.trans km19) (by decide)) (fun z => absurd (z.symm.trans km19) (by decide)))))))))))))) (by rw [km19]; decide)).trans (h2_q_5.G hm19 (show ¬ (sx_c6 h m19) from (sx_c6.n km19 (by decide))) (by rw [km19]; decide))
  have z_57 : q_28.2.2.2.1 uw = q.2.2.2.1 uw := (h2_q_28.G huw (show ¬ (h.1 uw = 12 ∨ h.1 uw = 113 ∨ h.1 uw = 133 ∨ h.1 uw = 134 ∨ h.1 uw = 135 ∨ h.1 uw = 138 ∨ h.1 uw = 139 ∨ h.1 uw = 140 ∨ h.1 uw = 136 ∨ h.1 uw = 137 ∨ h.1 uw = 144 ∨ h.1 uw = 245) from (fun z => z.elim (fun z => absurd (z.symm.trans kuw) (by decide)) (fun z => z.elim (fun z => absurd (z.symm.trans kuw) (by decide)) (fun z => z.elim (fun z => absurd (z.symm.trans kuw) (by decide)) (fun z => z.elim (fun z => absurd (z.symm.trans kuw) (by decide)) (fun z => z.elim (fun z => absurd (z.symm.trans kuw) (by decide)) (fun z => z.elim (fun z => absurd (z.symm.trans kuw) (by decide)) (fun z => z.elim (fun z => absurd (z.symm.trans kuw) (by decide)) (fun z => z.elim (fun z => absurd (z.symm.trans kuw) (by decide)) (fun z => z.elim (fun z => absurd (z.symm.trans kuw) (by decide)) (fun z => z.elim (fun z => absurd (z.symm.trans kuw) (by decide)) (fun z => z.elim (fun z => absurd (z.symm.trans kuw) (by decide)) (fun z => absurd (z.symm.trans kuw) (by decide)))))))))))))) (by rw [kuw]; decide)).trans (h2_q_5.G huw (show ¬ (sx_c6 h uw) from (sx_c6.n kuw (by decide))) (by rw [kuw]; decide))
  have z_58 : q_28.2.2.2.2 un = q.2.2.2.2 un := (h2_q_28.Lg hun (show ¬ (h.1 un = 12 ∨ h.1 un = 113 ∨ h.1 un = 133 ∨ h.1 un = 134 ∨ h.1 un = 135 ∨ h.1 un = 138 ∨ h.1 un = 139 ∨ h.1 un = 140 ∨ h.1 un = 136 ∨ h.1 un = 137 ∨ h.1 un = 144 ∨ h.1 un = 245) from (fun z => z.elim (fun z => absurd (z.symm.trans kun) (by decide)) (fun z => z.elim (fun z => absurd (z.symm.trans kun) (by decide)) (fun z => z.elim (fun z => absurd (z.symm.trans kun) (by decide)) (fun z => z.elim (fun z => absurd (z.symm.trans kun) (by decide)) (fun z => z.elim (fun z => absurd (z.symm.trans kun) (by decide)) (fun z => z.elim (fun z => absurd (z.symm.trans kun) (by decide)) (fun z => z.elim (fun z => absurd (z.symm.trans kun) (by decide)) (fun z => z.elim (fun z => absurd (z.symm.trans kun) (by decide)) (fun z => z.elim (fun z => absurd (z.symm.trans kun) (by decide)) (fun z => z.elim (fun z => absurd (z.symm.trans kun) (by decide)) (fun z => z.elim (fun z => absurd (z.symm.trans kun) (by decide)) (fun z => absurd (z.symm.trans kun) (by decide)))))))))))))) (by rw [kun]; decide)).trans (h2_q_5.Lg hun (show ¬ (sx_c6 h un) from (sx_c6.n kun (by decide))) (by rw [kun]; decide))
  have z_59 : q_28.2.2.2.2 m17 = q.2.2.2.2 m17 := (h2_q_28.Lg hm17 (show ¬ (h.1 m17 = 12 ∨ h.1 m17 = 113 ∨ h.1 m17 = 133 ∨ h.1 m17 = 134 ∨ h.1 m17 = 135 ∨ h.1 m17 = 138 ∨ h.1 m17 = 139 ∨ h.1 m17 = 140 ∨ h.1 m17 = 136 ∨ h.1 m17 = 137 ∨ h.1 m17 = 144 ∨ h.1 m17 = 245) from (fun z => z.elim (fun z => absurd (z.symm.trans km17) (by decide)) (fun z => z.elim (fun z => absurd (z.symm.trans km17) (by decide)) (fun z => z.elim (fun z => absurd (z.symm.trans km17) (by decide)) (fun z => z.elim (fun z => absurd (z.symm.trans km17) (by decide)) (fun z => z.elim (fun z => absurd (z.symm.trans km17) (by decide)) (fun z => z.elim (fun z => absurd (z.symm.trans km17) (by decide)) (fun z => z.elim (fun z => absurd (z.symm.trans km17) (by decide)) (fun z => z.elim (fun z => absurd (z.symm.trans km17) (by decide)) (fun z => z.elim (fun z => absurd (z.symm.trans km17) (by decide)) (fun z => z.elim (fun z => absurd (z.symm.trans km17) (by decide)) (fun z => z.elim (fun z => absurd (z.symm.trans km17) (by decide)) (fun z => absurd (z.symm.trans km17) (by decide)))))))))))))) (by rw [km17]; decide)).trans (h2_q_5.Lg hm17 (show ¬ (sx_c6 h m17) from (sx_c6.n km17 (by decide))) (by rw [km17]; decide))
  have hu9 : lc_uq8 q_28 a0 uu (mm 17) (mm 18) (mm 19) := by unfold lc_uq8; rw [← xm17, ← xm18, ← xm19, hR_uu, euc, euf, euw, eun, z_51, z_52, z_53, z_54, z_55, z_56, z_57, z_58, z_59]; exact hu
  have z_60 : q_28.2.2.1 x0 11 = uu := (h2_q_28.R hx0 (show ¬ ((h.1 x0 = 12 ∨ h.1 x0 = 113 ∨ h.1 x0 = 133 ∨ h.1 x0 = 134 ∨ h.1 x0 = 135 ∨ h.1 x0 = 138 ∨ h.1 x0 = 139 ∨ h.1 x0 = 140 ∨ h.1 x0 = 136 ∨ h.1 x0 = 137 ∨ h.1 x0 = 144 ∨ h.1 x0 = 245) ∧ (h.1 x0 = 8 ∨ h.1 x0 = 11)) from fun z9 => (show ¬ (h.1 x0 = 12 ∨ h.1 x0 = 113 ∨ h.1 x0 = 133 ∨ h.1 x0 = 134 ∨ h.1 x0 = 135 ∨ h.1 x0 = 138 ∨ h.1 x0 = 139 ∨ h.1 x0 = 140 ∨ h.1 x0 = 136 ∨ h.1 x0 = 137 ∨ h.1 x0 = 144 ∨ h.1 x0 = 245) from (fun z => z.elim (fun z => absurd (z.symm.trans kx0) (by decide)) (fun z => z.elim (fun z => absurd (z.symm.trans kx0) (by decide)) (fun z => z.elim (fun z => absurd (z.symm.trans kx0) (by decide)) (fun z => z.elim (fun z => absurd (z.symm.trans kx0) (by decide)) (fun z => z.elim (fun z => absurd (z.symm.trans kx0) (by decide)) (fun z => z.elim (fun z => absurd (z.symm.trans kx0) (by decide)) (fun z => z.elim (fun z => absurd (z.symm.trans kx0) (by decide)) (fun z => z.elim (fun z => absurd (z.symm.trans kx0) (by decide)) (fun z => z.elim (fun z => absurd (z.symm.trans kx0) (by decide)) (fun z => z.elim (fun z => absurd (z.symm.trans kx0) (by decide)) (fun z => z.elim (fun z => absurd (z.symm.trans kx0) (by decide)) (fun z => absurd (z.symm.trans kx0) (by decide)))))))))))))) z9.1) 11).trans (hw_7.2.2.2.1)
  have z_61 : q_28.2.2.1 x0 12 = su := (h2_q_28.R hx0 (show ¬ ((h.1 x0 = 12 ∨ h.1 x0 = 113 ∨ h.1 x0 = 133 ∨ h.1 x0 = 134 ∨ h.1 x0 = 135 ∨ h.1 x0 = 138 ∨ h.1 x0 = 139 ∨ h.1 x0 = 140 ∨ h.1 x0 = 136 ∨ h.1 x0 = 137 ∨ h.1 x0 = 144 ∨ h.1 x0 = 245) ∧ (h.1 x0 = 8 ∨ h.1 x0 = 11)) from fun z9 => (show ¬ (h.1 x0 = 12 ∨ h.1 x0 = 113 ∨ h.1 x0 = 133 ∨ h.1 x0 = 134 ∨ h.1 x0 = 135 ∨ h.1 x0 = 138 ∨ h.1 x0 = 139 ∨ h.1 x0 = 140 ∨ h.1 x0 = 136 ∨ h.1 x0 = 137 ∨ h.1 x0 = 144 ∨ h.1 x0 = 245) from (fun z => z.elim (fun z => absurd (z.symm.trans kx0) (by decide)) (fun z => z.elim (fun z => absurd (z.symm.trans kx0) (by decide)) (fun z => z.elim (fun z => absurd (z.symm.trans kx0) (by decide)) (fun z => z.elim (fun z => absurd (z.symm.trans kx0) (by decide)) (fun z => z.elim (fun z => absurd (z.symm.trans kx0) (by decide)) (fun z => z.elim (fun z => absurd (z.symm.trans kx0) (by decide)) (fun z => z.elim (fun z => absurd (z.symm.trans kx0) (by decide)) (fun z => z.elim (fun z => absurd (z.symm.trans kx0) (by decide)) (fun z => z.elim (fun z => absurd (z.symm.trans kx0) (by decide)) (fun z => z.elim (fun z => absurd (z.symm.trans kx0) (by decide)) (fun z => z.elim (fun z => absurd (z.symm.trans kx0) (by decide)) (fun z => absurd (z.symm.trans kx0) (by decide)))))))))))))) z9.1) 12).trans (hB_q_5)
  exact hcont _ _ (Or.inl rfl) ⟨⟨⟨hV_q_28, mN_q_28, by rw [← xm18, ← xm19]; exact mF_q_28, by rw [← xm17]; exact mU_q_28, by rw [← xm23, ← xm26, ← xm28, ← xm29]; exact mS_q_28, by rw [← xm40, ← xm41, ← xm44]; exact mL_q_28, z_39, fun k hk => by rw [show q_28.2.2.1 a0 = q_5.2.2.1 a0 from h2_q_28.2 a0 ha0 (fun z9 => absurd z9.2 (by omega)), show q_5.2.2.1 a0 = q.2.2.1 a0 from h2_q_5.2 a0 ha0 (fun z9 => absurd z9.2 (by omega))]; exact em k hk, by omega, by omega⟩, z_40, z_41, by rw [← xm1]; exact hT9, by rw [← xm44]; exact hR9⟩, uu, su, o0, ob, z_60, z_61, hdz.eq hR_uu hR_su, hu9, ⟨z_49, z_50⟩, hout9⟩
set_option maxHeartbeats 4000000 in
set_option maxRecDepth 100000 in
theorem lc6_712 (l : Launch) (hlst : l.stackTraces = false) {Z : Zt} (dC : Nat → ClassId) (dI : Nat → Nat → Nat) (h : Sh) (L : List Nat) (hN : sx_nd L) (B : BX dC dI h L 7 cL_law RL wsL_law Z) {b N : Nat} {xs : Nat → Int32} (hX : va_X b N xs Z.2.2.1 Z.2.2.1.heap) (hbl : b < Z.2.2.1.heap.size) (hbA : ¬ AL L Z.2.2.1.heap.size b) {x0 a0 ot t0 tb fa : Nat} (hfd : lc_fd h fa) {mm : Nat → Nat} (hx0 : x0 ∈ L) (kx0 : h.1 x0 = 11) (ha0 : a0 ∈ L) (ka0 : h.1 a0 = 12) (hot : ot ∈ L) (kot : h.1 ot = 200) (lot : h.2.1 ot = 1) {i : Int32} (hi0 : 0 ≤ i.toInt) (hi1 : i.toInt + 6 ≤ (N : Int)) (hN2 : N ≤ 3072) (hroom : (zl_more Z).2.2.2.2.2.2.2.2.2.1 ≤ room_1.cells ∧ (zl_more Z).2.2.2.2.2.2.2.2.2.2 ≤ room_1.slots) {q : Sg} (hI : lc_I8 h L x0 a0 t0 tb fa mm q) (hcont : ∀ (Z2 : Zt) (q2 : Sg), (Z2 = Z ∨ Z2 = zl_more Z) → lc_I8 h L x0 a0 t0 tb fa mm q2 → WA l dC dI h L room_1 7 Z2 q2 775 [(4, .int i), (3, .ref ot), (2, .ref a0), (1, .ref x0), (0, .ref b)] []) : WA l dC dI h L room_1 7 Z q 712 [(4, .int i), (3, .ref ot), (2, .ref a0), (1, .ref x0), (0, .ref b)] [] := by
  obtain ⟨hI, uu, su, o0, ob, euu, esu, hdz, hu0, ⟨eo0, eob⟩, hout0⟩ := hI
  obtain ⟨hI, etb, efa, hT0, hR0⟩ := hI
  obtain ⟨hV, mN, mF0, mU0, mS0, mL0, et0, em, hte, hfe⟩ := hI
  obtain ⟨ht0, kt0, lt0⟩ : t0 ∈ L ∧ h.1 t0 = 7 ∧ h.2.1 t0 = 1 := by obtain ⟨r9, e9, z1, z2, z3⟩ := hV.refn (t := 7) (n := 1) hx0 kx0 0 rfl (by decide) rfl (by decide); rw [← et0, e9]; exact ⟨z1, z2, z3⟩
  obtain ⟨m1, xm1⟩ : ∃ z, z = mm 1 := ⟨_, rfl⟩
  have em1 : q.2.2.1 a0 1 = m1 := by rw [xm1]; exact em 1 (by decide)
  obtain ⟨hm1, km1, lm1⟩ : m1 ∈ L ∧ h.1 m1 = 111 ∧ h.2.1 m1 = 440 := by obtain ⟨r9, e9, z1, z2, z3⟩ := hV.refn (t := 111) (n := 440) ha0 ka0 1 rfl (by decide) rfl (by decide); rw [← em1, e9]; exact ⟨z1, z2, z3⟩
  obtain ⟨m3, xm3⟩ : ∃ z, z = mm 3 := ⟨_, rfl⟩
  have em3 : q.2.2.1 a0 3 = m3 := by rw [xm3]; exact em 3 (by decide)
  obtain ⟨hm3, km3, lm3⟩ : m3 ∈ L ∧ h.1 m3 = 113 ∧ h.2.1 m3 = 500 := by obtain ⟨r9, e9, z1, z2, z3⟩ := hV.refn (t := 113) (n := 500) ha0 ka0 3 rfl (by decide) rfl (by decide); rw [← em3, e9]; exact ⟨z1, z2, z3⟩
  obtain ⟨m16, xm16⟩ : ∃ z, z = mm 16 := ⟨_, rfl⟩
  have em16 : q.2.2.1 a0 16 = m16 := by rw [xm16]; exact em 16 (by decide)
  obtain ⟨hm16, km16, lm16⟩ : m16 ∈ L ∧ h.1 m16 = 226 ∧ h.2.1 m16 = 6 := by obtain ⟨r9, e9, z1, z2, z3⟩ := hV.refn (t := 226) (n := 6) ha0 ka0 16 rfl (by decide) rfl (by decide); rw [← em16, e9]; exact ⟨z1, z2, z3⟩
  obtain ⟨m17, xm17⟩ : ∃ z, z = mm 17 := ⟨_, rfl⟩
  have em17 : q.2.2.1 a0 17 = m17 := by rw [xm17]; exact em 17 (by decide)
  obtain ⟨hm17, km17, lm17⟩ : m17 ∈ L ∧ h.1 m17 = 227 ∧ h.2.1 m17 = 30 := by obtain ⟨r9, e9, z1, z2, z3⟩ := hV.refn (t := 227) (n := 30) ha0 ka0 17 rfl (by decide) rfl (by decide); rw [← em17, e9]; exact ⟨z1, z2, z3⟩
  obtain ⟨m18, xm18⟩ : ∃ z, z = mm 18 := ⟨_, rfl⟩
  have em18 : q.2.2.1 a0 18 = m18 := by rw [xm18]; exact em 18 (by decide)
  obtain ⟨hm18, km18, lm18⟩ : m18 ∈ L ∧ h.1 m18 = 128 ∧ h.2.1 m18 = 6 := by obtain ⟨r9, e9, z1, z2, z3⟩ := hV.refn (t := 128) (n := 6) ha0 ka0 18 rfl (by decide) rfl (by decide); rw [← em18, e9]; exact ⟨z1, z2, z3⟩
  obtain ⟨m19, xm19⟩ : ∃ z, z = mm 19 := ⟨_, rfl⟩
  have em19 : q.2.2.1 a0 19 = m19 := by rw [xm19]; exact em 19 (by decide)
  obtain ⟨hm19, km19, lm19⟩ : m19 ∈ L ∧ h.1 m19 = 129 ∧ h.2.1 m19 = 30 := by obtain ⟨r9, e9, z1, z2, z3⟩ := hV.refn (t := 129) (n := 30) ha0 ka0 19 rfl (by decide) rfl (by decide); rw [← em19, e9]; exact ⟨z1, z2, z3⟩
  obtain ⟨m21, xm21⟩ : ∃ z, z = mm 21 := ⟨_, rfl⟩
  have em21 : q.2.2.1 a0 21 = m21 := by rw [xm21]; exact em 21 (by decide)
  obtain ⟨hm21, km21, lm21⟩ : m21 ∈ L ∧ h.1 m21 = 131 ∧ h.2.1 m21 = 80 := by obtain ⟨r9, e9, z1, z2, z3⟩ := hV.refn (t := 131) (n := 80) ha0 ka0 21 rfl (by decide) rfl (by decide); rw [← em21, e9]; exact ⟨z1, z2, z3⟩
  obtain ⟨m23, xm23⟩ : ∃ z, z = mm 23 := ⟨_, rfl⟩
  have em23 : q.2.2.1 a0 23 = m23 := by rw [xm23]; exact em 23 (by decide)
  obtain ⟨hm23, km23, lm23⟩ : m23 ∈ L ∧ h.1 m23 = 133 ∧ h.2.1 m23 = 9 := by obtain ⟨r9, e9, z1, z2, z3⟩ := hV.refn (t := 133) (n := 9) ha0 ka0 23 rfl (by decide) rfl (by decide); rw [← em23, e9]; exact ⟨z1, z2, z3⟩
  obtain ⟨m24, xm24⟩ : ∃ z, z = mm 24 := ⟨_, rfl⟩
  have em24 : q.2.2.1 a0 24 = m24 := by rw [xm24]; exact em 24 (by decide)
  obtain ⟨hm24, km24, lm24⟩ : m24 ∈ L ∧ h.1 m24 = 134 ∧ h.2.1 m24 = 108 := by obtain ⟨r9, e9, z1, z2, z3⟩ := hV.refn (t := 134) (n := 108) ha0 ka0 24 rfl (by decide) rfl (by decide); rw [← em24, e9]; exact ⟨z1, z2, z3⟩
  obtain ⟨m25, xm25⟩ : ∃ z, z = mm 25 := ⟨_, rfl⟩
  have em25 : q.2.2.1 a0 25 = m25 := by rw [xm25]; exact em 25 (by decide)
  obtain ⟨hm25, km25, lm25⟩ : m25 ∈ L ∧ h.1 m25 = 135 ∧ h.2.1 m25 = 108 := by obtain ⟨r9, e9, z1, z2, z3⟩ := hV.refn (t := 135) (n := 108) ha0 ka0 25 rfl (by decide) rfl (by decide); rw [← em25, e9]; exact ⟨z1, z2, z3⟩
  obtain ⟨m26, xm26⟩ : ∃ z, z = mm 26 := ⟨_, rfl⟩
  have em26 : q.2.2.1 a0 26 = m26 := by rw [xm26]; exact em 26 (by decide)
  obtain ⟨hm26, km26, lm26⟩ : m26 ∈ L ∧ h.1 m26 = 136 ∧ h.2.1 m26 = 108 := by obtain ⟨r9, e9, z1, z2, z3⟩ := hV.refn (t := 136) (n := 108) ha0 ka0 26 rfl (by decide) rfl (by decide); rw [← em26, e9]; exact ⟨z1, z2, z3⟩
  obtain ⟨m27, xm27⟩ : ∃ z, z = mm 27 := ⟨_, rfl⟩
  have em27 : q.2.2.1 a0 27 = m27 := by rw [xm27]; exact em 27 (by decide)
  obtain ⟨hm27, km27, lm27⟩ : m27 ∈ L ∧ h.1 m27 = 137 ∧ h.2.1 m27 = 9 := by obtain ⟨r9, e9, z1, z2, z3⟩ := hV.refn (t := 137) (n := 9) ha0 ka0 27 rfl (by decide) rfl (by decide); rw [← em27, e9]; exact ⟨z1, z2, z3⟩
  obtain ⟨m28, xm28⟩ : ∃ z, z = mm 28 := ⟨_, rfl⟩
  have em28 : q.2.2.1 a0 28 = m28 := by rw [xm28]; exact em 28 (by decide)
  obtain ⟨hm28, km28, lm28⟩ : m28 ∈ L ∧ h.1 m28 = 138 ∧ h.2.1 m28 = 540 := by obtain ⟨r9, e9, z1, z2, z3⟩ := hV.refn (t := 138) (n := 540) ha0 ka0 28 rfl (by decide) rfl (by decide); rw [← em28, e9]; exact ⟨z1, z2, z3⟩
  obtain ⟨m29, xm29⟩ : ∃ z, z = mm 29 := ⟨_, rfl⟩
  have em29 : q.2.2.1 a0 29 = m29 := by rw [xm29]; exact em 29 (by decide)
  obtain ⟨hm29, km29, lm29⟩ : m29 ∈ L ∧ h.1 m29 = 139 ∧ h.2.1 m29 = 540 := by obtain ⟨r9, e9, z1, z2, z3⟩ := hV.refn (t := 139) (n := 540) ha0 ka0 29 rfl (by decide) rfl (by decide); rw [← em29, e9]; exact ⟨z1, z2, z3⟩
  obtain ⟨m30, xm30⟩ : ∃ z, z = mm 30 := ⟨_, rfl⟩
  have em30 : q.2.2.1 a0 30 = m30 := by rw [xm30]; exact em 30 (by decide)
  obtain ⟨hm30, km30, lm30⟩ : m30 ∈ L ∧ h.1 m30 = 140 ∧ h.2.1 m30 = 540 := by obtain ⟨r9, e9, z1, z2, z3⟩ := hV.refn (t := 140) (n := 540) ha0 ka0 30 rfl (by decide) rfl (by decide); rw [← em30, e9]; exact ⟨z1, z2, z3⟩
  obtain ⟨m34, xm34⟩ : ∃ z, z = mm 34 := ⟨_, rfl⟩
  have em34 : q.2.2.1 a0 34 = m34 := by rw [xm34]; exact em 34 (by decide)
  obtain ⟨hm34, km34, lm34⟩ : m34 ∈ L ∧ h.1 m34 = 144 ∧ h.2.1 m34 = 4 := by obtain ⟨r9, e9, z1, z2, z3⟩ := hV.refn (t := 144) (n := 4) ha0 ka0 34 rfl (by decide) rfl (by decide); rw [← em34, e9]; exact ⟨z1, z2, z3⟩
  obtain ⟨m35, xm35⟩ : ∃ z, z = mm 35 := ⟨_, rfl⟩
  have em35 : q.2.2.1 a0 35 = m35 := by rw [xm35]; exact em 35 (by decide)
  obtain ⟨hm35, km35, lm35⟩ : m35 ∈ L ∧ h.1 m35 = 245 ∧ h.2.1 m35 = 12 := by obtain ⟨r9, e9, z1, z2, z3⟩ := hV.refn (t := 245) (n := 12) ha0 ka0 35 rfl (by decide) rfl (by decide); rw [← em35, e9]; exact ⟨z1, z2, z3⟩
  obtain ⟨m40, xm40⟩ : ∃ z, z = mm 40 := ⟨_, rfl⟩
  have em40 : q.2.2.1 a0 40 = m40 := by rw [xm40]; exact em 40 (by decide)
  obtain ⟨hm40, km40, lm40⟩ : m40 ∈ L ∧ h.1 m40 = 150 ∧ h.2.1 m40 = 2400 := by obtain ⟨r9, e9, z1, z2, z3⟩ := hV.refn (t := 150) (n := 2400) ha0 ka0 40 rfl (by decide) rfl (by decide); rw [← em40, e9]; exact ⟨z1, z2, z3⟩
  obtain ⟨m41, xm41⟩ : ∃ z, z = mm 41 := ⟨_, rfl⟩
  have em41 : q.2.2.1 a0 41 = m41 := by rw [xm41]; exact em 41 (by decide)
  obtain ⟨hm41, km41, lm41⟩ : m41 ∈ L ∧ h.1 m41 = 151 ∧ h.2.1 m41 = 12 := by obtain ⟨r9, e9, z1, z2, z3⟩ := hV.refn (t := 151) (n := 12) ha0 ka0 41 rfl (by decide) rfl (by decide); rw [← em41, e9]; exact ⟨z1, z2, z3⟩
  obtain ⟨m42, xm42⟩ : ∃ z, z = mm 42 := ⟨_, rfl⟩
  have em42 : q.2.2.1 a0 42 = m42 := by rw [xm42]; exact em 42 (by decide)
  obtain ⟨hm42, km42, lm42⟩ : m42 ∈ L ∧ h.1 m42 = 152 ∧ h.2.1 m42 = 12 := by obtain ⟨r9, e9, z1, z2, z3⟩ := hV.refn (t := 152) (n := 12) ha0 ka0 42 rfl (by decide) rfl (by decide); rw [← em42, e9]; exact ⟨z1, z2, z3⟩
  obtain ⟨m43, xm43⟩ : ∃ z, z = mm 43 := ⟨_, rfl⟩
  have em43 : q.2.2.1 a0 43 = m43 := by rw [xm43]; exact em 43 (by decide)
  obtain ⟨hm43, km43, lm43⟩ : m43 ∈ L ∧ h.1 m43 = 153 ∧ h.2.1 m43 = 12 := by obtain ⟨r9, e9, z1, z2, z3⟩ := hV.refn (t := 153) (n := 12) ha0 ka0 43 rfl (by decide) rfl (by decide); rw [← em43, e9]; exact ⟨z1, z2, z3⟩
  obtain ⟨m44, xm44⟩ : ∃ z, z = mm 44 := ⟨_, rfl⟩
  have em44 : q.2.2.1 a0 44 = m44 := by rw [xm44]; exact em 44 (by decide)
  obtain ⟨hm44, km44, lm44⟩ : m44 ∈ L ∧ h.1 m44 = 154 ∧ h.2.1 m44 = 12 := by obtain ⟨r9, e9, z1, z2, z3⟩ := hV.refn (t := 154) (n := 12) ha0 ka0 44 rfl (by decide) rfl (by decide); rw [← em44, e9]; exact ⟨z1, z2, z3⟩
  obtain ⟨m46, xm46⟩ : ∃ z, z = mm 46 := ⟨_, rfl⟩
  have em46 : q.2.2.1 a0 46 = m46 := by rw [xm46]; exact em 46 (by decide)
  obtain ⟨hm46, km46, lm46⟩ : m46 ∈ L ∧ h.1 m46 = 156 ∧ h.2.1 m46 = 144 := by obtain ⟨r9, e9, z1, z2, z3⟩ := hV.refn (t := 156) (n := 144) ha0 ka0 46 rfl (by decide) rfl (by decide); rw [← em46, e9]; exact ⟨z1, z2, z3⟩
  obtain ⟨m47, xm47⟩ : ∃ z, z = mm 47 := ⟨_, rfl⟩
  have em47 : q.2.2.1 a0 47 = m47 := by rw [xm47]; exact em 47 (by decide)
  obtain ⟨hm47, km47, lm47⟩ : m47 ∈ L ∧ h.1 m47 = 157 ∧ h.2.1 m47 = 4096 := by obtain ⟨r9, e9, z1, z2, z3⟩ := hV.refn (t := 157) (n := 4096) ha0 ka0 47 rfl (by decide) rfl (by decide); rw [← em47, e9]; exact ⟨z1, z2, z3⟩
  obtain ⟨m48, xm48⟩ : ∃ z, z = mm 48 := ⟨_, rfl⟩
  have em48 : q.2.2.1 a0 48 = m48 := by rw [xm48]; exact em 48 (by decide)
  obtain ⟨hm48, km48, lm48⟩ : m48 ∈ L ∧ h.1 m48 = 158 ∧ h.2.1 m48 = 12 := by obtain ⟨r9, e9, z1, z2, z3⟩ := hV.refn (t := 158) (n := 12) ha0 ka0 48 rfl (by decide) rfl (by decide); rw [← em48, e9]; exact ⟨z1, z2, z3⟩
  have mF : mv_F m18 m19 q := by rw [xm18, xm19]; exact mF0
  have mU : mv_U m17 q := by rw [xm17]; exact mU0
  have mS : mv_S m23 m26 m28 m29 q := by rw [xm23, xm26, xm28, xm29]; exact mS0
  have mL : mv_L m40 m41 m44 a0 q := by rw [xm40, xm41, xm44]; exact mL0
  have hF : sx_fr h L (fun _ => True) q q := sx_fr.rf
  obtain ⟨htb, ktb, ltb⟩ : tb ∈ L ∧ h.1 tb = 300 ∧ h.2.1 tb = 440 := by obtain ⟨r9, e9, z1, z2, z3⟩ := hV.refn (t := 300) (n := 440) ht0 kt0 0 rfl (by decide) (by rw [lt0]; rfl) (by decide); rw [← etb, e9]; exact ⟨z1, z2, z3⟩
  obtain ⟨hfa, kfa, lfa⟩ : fa ∈ L ∧ h.1 fa = 403 ∧ h.2.1 fa = 12 := by obtain ⟨r9, e9, z1, z2, z3⟩ := hV.refn (t := 403) (n := 12) hx0 kx0 9 rfl (by decide) rfl (by decide); rw [← efa, e9]; exact ⟨z1, z2, z3⟩
  have hT : ty_T (q.2.2.2.1 tb) (q.2.2.2.1 m1) (q.1 t0 1).toInt.toNat := by rw [xm1]; exact hT0
  have hR : lc_R h fa m44 x0 q := by rw [xm44]; exact hR0
  have gx14 : (0 : Int) ≤ (q.1 x0 14).toInt ∧ (q.1 x0 14).toInt ≤ 12 := hV.int hx0 kx0 14
  have gt1 : (0 : Int) ≤ (q.1 t0 1).toInt ∧ (q.1 t0 1).toInt ≤ 440 := by have z9 := hV.int ht0 kt0 1; rw [etb, ltb] at z9; exact z9
  obtain ⟨huu, kuu⟩ : uu ∈ L ∧ h.1 uu = 9 := by obtain ⟨r9, e9, z1, z2⟩ := hV.ref (t := 9) hx0 kx0 11 rfl (by decide); rw [← euu, e9]; exact ⟨z1, z2⟩
  obtain ⟨hsu, ksu⟩ : su ∈ L ∧ h.1 su = 9 := by obtain ⟨r9, e9, z1, z2⟩ := hV.ref (t := 9) hx0 kx0 12 rfl (by decide); rw [← esu, e9]; exact ⟨z1, z2⟩
  have nuu_su : ¬ uu = su := hdz.1
  obtain ⟨uc, euc⟩ : ∃ z, q.2.2.1 uu 1 = z := ⟨_, rfl⟩
  obtain ⟨huc, kuc, luc⟩ : uc ∈ L ∧ h.1 uc = 101 ∧ h.2.1 uc = 3 := by obtain ⟨r9, e9, z1, z2, z3⟩ := hV.refn (t := 101) (n := 3) huu kuu 1 rfl (by decide) rfl (by decide); rw [← euc, e9]; exact ⟨z1, z2, z3⟩
  obtain ⟨un, eun⟩ : ∃ z, q.2.2.1 uu 2 = z := ⟨_, rfl⟩
  obtain ⟨hun, kun, lun⟩ : un ∈ L ∧ h.1 un = 202 ∧ h.2.1 un = 15 := by obtain ⟨r9, e9, z1, z2, z3⟩ := hV.refn (t := 202) (n := 15) huu kuu 2 rfl (by decide) rfl (by decide); rw [← eun, e9]; exact ⟨z1, z2, z3⟩
  obtain ⟨uf, euf⟩ : ∃ z, q.2.2.1 uu 3 = z := ⟨_, rfl⟩
  obtain ⟨huf, kuf, luf⟩ : uf ∈ L ∧ h.1 uf = 102 ∧ h.2.1 uf = 15 := by obtain ⟨r9, e9, z1, z2, z3⟩ := hV.refn (t := 102) (n := 15) huu kuu 3 rfl (by decide) rfl (by decide); rw [← euf, e9]; exact ⟨z1, z2, z3⟩
  obtain ⟨uw, euw⟩ : ∃ z, q.2.2.1 uu 4 = z := ⟨_, rfl⟩
  obtain ⟨huw, kuw, luw⟩ : uw ∈ L ∧ h.1 uw = 103 ∧ h.2.1 uw = 15 := by obtain ⟨r9, e9, z1, z2, z3⟩ := hV.refn (t := 103) (n := 15) huu kuu 4 rfl (by decide) rfl (by decide); rw [← euw, e9]; exact ⟨z1, z2, z3⟩
  have hu : lc_u8 (q.1 uu 6) (q.1 a0 20) (q.2.2.2.1 uc) (q.2.2.2.1 m18) (q.2.2.2.1 uf) (q.2.2.2.1 m19) (q.2.2.2.1 uw) (q.2.2.2.2 un) (q.2.2.2.2 m17) := by rw [← euc, ← euf, ← euw, ← eun, xm17, xm18, xm19]; exact hu0
  obtain ⟨ho0, ko0, lo0⟩ : o0 ∈ L ∧ h.1 o0 = 7 ∧ h.2.1 o0 = 2 := by obtain ⟨r9, e9, z1, z2, z3⟩ := hV.refn (t := 7) (n := 2) hx0 kx0 1 rfl (by decide) rfl (by decide); rw [← eo0, e9]; exact ⟨z1, z2, z3⟩
  obtain ⟨hob, kob, lob⟩ : ob ∈ L ∧ h.1 ob = 300 ∧ h.2.1 ob = 59 := by obtain ⟨r9, e9, z1, z2, z3⟩ := hV.refn (t := 300) (n := 59) ho0 ko0 0 rfl (by decide) (by rw [lo0]; rfl) (by decide); rw [← eob, e9]; exact ⟨z1, z2, z3⟩
  have nt0_o0 : ¬ t0 = o0 := fun z9 => absurd (z9 ▸ lt0 : h.2.1 o0 = 1) (by rw [lo0]; decide)
  have ntb_ob : ¬ tb = ob := fun z9 => absurd (z9 ▸ ltb : h.2.1 ob = 440) (by rw [lob]; decide)
  have hout : lc_o (q.1 o0 1) (q.1 a0 22) (q.2.2.2.1 ob) (q.2.2.2.1 m21) := by rw [xm21]; exact hout0
  refine wa_aload_n B dL_law_712 rfl 3 rfl ?_
  refine wa_callVi B (x := (RX11, TX11, 16)) (As := []) (rest := []) (k_X11_match_c l dC dI h L hN q hV (a0 := x0) hx0 kx0 (t0 := t0) et0 (tb := tb) etb (fa := fa) efa (uu := uu) euu (o0 := o0) eo0 (ob := ob) eob  ) (cwV 0 B.1.2.2.2.2 gL_law_X11_match rfl rfl rfl (by decide +kernel) ⟨Nat.le_of_ble_eq_true rfl, Nat.le_of_ble_eq_true rfl⟩) hx0 kx0 (by decide) rfl rfl rfl (Nat.le_of_ble_eq_true rfl) dL_law_713 (fun r_2 q_1 w_3 => ?_)
  obtain ⟨hV_q_1, h2_q_1, hw_3⟩ := w_3
  have mN_q_1 : mv_N a0 q_1 := mv_N.eq (h2_q_1.I ha0 (show ¬ (sx_c6 h a0) from (sx_c6.n ka0 (by decide))) 8) (h2_q_1.J ha0 (show ¬ (sx_c6 h a0) from (sx_c6.n ka0 (by decide))) 11) mN
  have mF_q_1 : mv_F m18 m19 q_1 := mv_F.eq (h2_q_1.G hm18 (show ¬ (sx_c6 h m18) from (sx_c6.n km18 (by decide))) (by rw [km18]; decide)) (h2_q_1.G hm19 (show ¬ (sx_c6 h m19) from (sx_c6.n km19 (by decide))) (by rw [km19]; decide)) mF
  have mU_q_1 : mv_U m17 q_1 := mv_U.eq (h2_q_1.Lg hm17 (show ¬ (sx_c6 h m17) from (sx_c6.n km17 (by decide))) (by rw [km17]; decide)) mU
  have mS_q_1 : mv_S m23 m26 m28 m29 q_1 := mv_S.eq (h2_q_1.G hm23 (show ¬ (sx_c6 h m23) from (sx_c6.n km23 (by decide))) (by rw [km23]; decide)) (h2_q_1.G hm26 (show ¬ (sx_c6 h m26) from (sx_c6.n km26 (by decide))) (by rw [km26]; decide)) (h2_q_1.G hm28 (show ¬ (sx_c6 h m28) from (sx_c6.n km28 (by decide))) (by rw [km28]; decide)) (h2_q_1.G hm29 (show ¬ (sx_c6 h m29) from (sx_c6.n km29 (by decide))) (by rw [km29]; decide)) mS
  have mL_q_1 : mv_L m40 m41 m44 a0 q_1 := mv_L.eq (h2_q_1.G hm40 (show ¬ (sx_c6 h m40) from (sx_c6.n km40 (by decide))) (by rw [km40]; decide)) (h2_q_1.G hm41 (show ¬ (sx_c6 h m41) from (sx_c6.n km41 (by decide))) (by rw [km41]; decide)) (h2_q_1.G hm44 (show ¬ (sx_c6 h m44) from (sx_c6.n km44 (by decide))) (by rw [km44]; decide)) (h2_q_1.I ha0 (show ¬ (sx_c6 h a0) from (sx_c6.n ka0 (by decide))) 45) mL
  have hB_q_1 := hw_3.2.2.2.2.1.trans esu
  refine wa_pop B dL_law_716 rfl ?_
  refine wa_aload_n B dL_law_717 rfl 2 rfl ?_
  have z_4 : q_1.2.2.1 a0 3 = m3 := (h2_q_1.R ha0 (fun z9 => absurd z9.2 (by omega)) 3).trans (em3)
  have z_5 : q_1.2.2.1 a0 18 = m18 := (h2_q_1.R ha0 (fun z9 => absurd z9.2 (by omega)) 18).trans (em18)
  have z_6 : q_1.2.2.1 a0 19 = m19 := (h2_q_1.R ha0 (fun z9 => absurd z9.2 (by omega)) 19).trans (em19)
  have z_7 : q_1.2.2.1 a0 23 = m23 := (h2_q_1.R ha0 (fun z9 => absurd z9.2 (by omega)) 23).trans (em23)
  have z_8 : q_1.2.2.1 a0 24 = m24 := (h2_q_1.R ha0 (fun z9 => absurd z9.2 (by omega)) 24).trans (em24)
  have z_9 : q_1.2.2.1 a0 25 = m25 := (h2_q_1.R ha0 (fun z9 => absurd z9.2 (by omega)) 25).trans (em25)
  have z_10 : q_1.2.2.1 a0 26 = m26 := (h2_q_1.R ha0 (fun z9 => absurd z9.2 (by omega)) 26).trans (em26)
  have z_11 : q_1.2.2.1 a0 27 = m27 := (h2_q_1.R ha0 (fun z9 => absurd z9.2 (by omega)) 27).trans (em27)
  have z_12 : q_1.2.2.1 a0 28 = m28 := (h2_q_1.R ha0 (fun z9 => absurd z9.2 (by omega)) 28).trans (em28)
  have z_13 : q_1.2.2.1 a0 29 = m29 := (h2_q_1.R ha0 (fun z9 => absurd z9.2 (by omega)) 29).trans (em29)
  have z_14 : q_1.2.2.1 a0 30 = m30 := (h2_q_1.R ha0 (fun z9 => absurd z9.2 (by omega)) 30).trans (em30)
  have z_15 : q_1.2.2.1 a0 34 = m34 := (h2_q_1.R ha0 (fun z9 => absurd z9.2 (by omega)) 34).trans (em34)
  have z_16 : q_1.2.2.1 a0 35 = m35 := (h2_q_1.R ha0 (fun z9 => absurd z9.2 (by omega)) 35).trans (em35)
  have z_17 : q_1.2.2.1 a0 40 = m40 := (h2_q_1.R ha0 (fun z9 => absurd z9.2 (by omega)) 40).trans (em40)
  have z_18 : q_1.2.2.1 a0 41 = m41 := (h2_q_1.R ha0 (fun z9 => absurd z9.2 (by omega)) 41).trans (em41)
  have z_19 : q_1.2.2.1 a0 44 = m44 := (h2_q_1.R ha0 (fun z9 => absurd z9.2 (by omega)) 44).trans (em44)
  have z_20 : q_1.2.2.1 a0 42 = m42 := (h2_q_1.R ha0 (fun z9 => absurd z9.2 (by omega)) 42).trans (em42)
  have z_21 : q_1.2.2.1 a0 43 = m43 := (h2_q_1.R ha0 (fun z9 => absurd z9.2 (by omega)) 43).trans (em43)
  have z_22 : q_1.2.2.1 a0 46 = m46 := (h2_q_1.R ha0 (fun z9 => absurd z9.2 (by omega)) 46).trans (em46)
  have z_23 : q_1.2.2.1 a0 47 = m47 := (h2_q_1.R ha0 (fun z9 => absurd z9.2 (by omega)) 47).trans (em47)
  have z_24 : q_1.2.2.1 a0 48 = m48 := (h2_q_1.R ha0 (fun z9 => absurd z9.2 (by omega)) 48).trans (em48)
  refine wa_callVi B (x := (RX12, TX12, 51)) (As := []) (rest := []) (k_X12_match l dC dI h L hN q_1 hV_q_1 (a0 := a0) ha0 ka0 (m3 := m3) z_4 (m18 := m18) z_5 (m19 := m19) z_6 (m23 := m23) z_7 (m24 := m24) z_8 (m25 := m25) z_9 (m26 := m26) z_10 (m27 := m27) z_11 (m28 := m28) z_12 (m29 := m29) z_13 (m30 := m30) z_14 (m34 := m34) z_15 (m35 := m35) z_16 (m40 := m40) z_17 (m41 := m41) z_18 (m44 := m44) z_19 (m42 := m42) z_20 (m43 := m43) z_21 (m46 := m46) z_22 (m47 := m47) z_23 (m48 := m48) z_24 mN_q_1 mS_q_1 mL_q_1 ) (cwV 0 B.1.2.2.2.2 gL_law_X12_match rfl rfl rfl (by decide +kernel) ⟨Nat.le_of_ble_eq_true rfl, Nat.le_of_ble_eq_true rfl⟩) ha0 ka0 (by decide) rfl rfl rfl (Nat.le_of_ble_eq_true rfl) dL_law_718 (fun r_26 q_25 w_27 => ?_)
  obtain ⟨hV_q_25, h2_q_25, h3_q_25, mN_q_25, mS_q_25, mL_q_25⟩ := w_27
  have mF_q_25 : mv_F m18 m19 q_25 := mv_F.eq (h2_q_25.G hm18 (show ¬ (h.1 m18 = 12 ∨ h.1 m18 = 113 ∨ h.1 m18 = 133 ∨ h.1 m18 = 134 ∨ h.1 m18 = 135 ∨ h.1 m18 = 138 ∨ h.1 m18 = 139 ∨ h.1 m18 = 140 ∨ h.1 m18 = 136 ∨ h.1 m18 = 137 ∨ h.1 m18 = 144 ∨ h.1 m18 = 245 ∨ h.1 m18 = 156 ∨ h.1 m18 = 157 ∨ h.1 m18 = 158) from (fun z => z.elim (fun z => absurd (z.symm.trans km18) (by decide)) (fun z => z.elim (fun z => absurd (z.symm.trans km18) (by decide)) (fun z => z.elim (fun z => absurd (z.symm.trans km18) (by decide)) (fun z => z.elim (fun z => absurd (z.symm.trans km18) (by decide)) (fun z => z.elim (fun z => absurd (z.symm.trans km18) (by decide)) (fun z => z.elim (fun z => absurd (z.symm.trans km18) (by decide)) (fun z => z.elim (fun z => absurd (z.symm.trans km18) (by decide)) (fun z => z.elim (fun z => absurd (z.symm.trans km18) (by decide)) (fun z => z.elim (fun z => absurd (z.symm.trans km18) (by decide)) (fun z => z.elim (fun z => absurd (z.symm.trans km18) (by decide)) (fun z => z.elim (fun z => absurd (z.symm.trans km18) (by decide)) (fun z => z.elim (fun z => absurd (z.symm.trans km18) (by decide)) (fun z => z.elim (fun z => absurd (z.symm.trans km18) (by decide)) (fun z => z.elim (fun z => absurd (z.symm.trans km18) (by decide)) (fun z => absurd (z.symm.trans km18) (by decide))))))))))))))))) (by rw [km18]; decide)) (h2_q_25.G hm19 (show ¬ (h.1 m19 = 12 ∨ h.1 m19 = 113 ∨ h.1 m19 = 133 ∨ h.1 m19 = 134 ∨ h.1 m19 = 135 ∨ h.1 m19 = 138 ∨ h.1 m19 = 139 ∨ h.1 m19 = 140 ∨ h.1 m19 = 136 ∨ h.1 m19 = 137 ∨ h.1 m19 = 144 ∨ h.1 m19 = 245 ∨ h.1 m19 = 156 ∨ h.1 m19 = 157 ∨ h.1 m19 = 158) from (fun z => z.elim (fun z => absurd (z.symm.trans km19) (by decide)) (fun z => z.elim (fun z => absurd (z.symm.trans km19) (by decide)) (fun z => z.elim (fun z => absurd (z.symm.trans km19) (by decide)) (fun z => z.elim (fun z => absurd (z.symm.trans km19) (by decide)) (fun z => z.elim (fun z => absurd (z.symm.trans km19) (by decide)) (fun z => z.elim (fun z => absurd (z.symm.trans km19) (by decide)) (fun z => z.elim (fun z => absurd (z.symm.trans km19) (by decide)) (fun z => z.elim (fun z => absurd (z.symm.trans km19) (by decide)) (fun z => z.elim (fun z => absurd (z.symm.trans km19) (by decide)) (fun z => z.elim (fun z => absurd (z.symm.trans km19) (by decide)) (fun z => z.elim (fun z => absurd (z.symm.trans km19) (by decide)) (fun z => z.elim (fun z => absurd (z.symm.trans km19) (by decide)) (fun z => z.elim (fun z => absurd (z.symm.trans km19) (by decide)) (fun z => z.elim (fun z => absurd (z.symm.trans km19) (by decide)) (fun z => absurd (z.symm.trans km19) (by decide))))))))))))))))) (by rw [km19]; decide)) mF_q_1
  have mU_q_25 : mv_U m17 q_25 := mv_U.eq (h2_q_25.Lg hm17 (show ¬ (h.1 m17 = 12 ∨ h.1 m17 = 113 ∨ h.1 m17 = 133 ∨ h.1 m17 = 134 ∨ h.1 m17 = 135 ∨ h.1 m17 = 138 ∨ h.1 m17 = 139 ∨ h.1 m17 = 140 ∨ h.1 m17 = 136 ∨ h.1 m17 = 137 ∨ h.1 m17 = 144 ∨ h.1 m17 = 245 ∨ h.1 m17 = 156 ∨ h.1 m17 = 157 ∨ h.1 m17 = 158) from (fun z => z.elim (fun z => absurd (z.symm.trans km17) (by decide)) (fun z => z.elim (fun z => absurd (z.symm.trans km17) (by decide)) (fun z => z.elim (fun z => absurd (z.symm.trans km17) (by decide)) (fun z => z.elim (fun z => absurd (z.symm.trans km17) (by decide)) (fun z => z.elim (fun z => absurd (z.symm.trans km17) (by decide)) (fun z => z.elim (fun z => absurd (z.symm.trans km17) (by decide)) (fun z => z.elim (fun z => absurd (z.symm.trans km17) (by decide)) (fun z => z.elim (fun z => absurd (z.symm.trans km17) (by decide)) (fun z => z.elim (fun z => absurd (z.symm.trans km17) (by decide)) (fun z => z.elim (fun z => absurd (z.symm.trans km17) (by decide)) (fun z => z.elim (fun z => absurd (z.symm.trans km17) (by decide)) (fun z => z.elim (fun z => absurd (z.symm.trans km17) (by decide)) (fun z => z.elim (fun z => absurd (z.symm.trans km17) (by decide)) (fun z => z.elim (fun z => absurd (z.symm.trans km17) (by decide)) (fun z => absurd (z.symm.trans km17) (by decide))))))))))))))))) (by rw [km17]; decide)) mU_q_1
  refine wa_pop B dL_law_721 rfl ?_
  refine wa_goto B 775 dL_law_722 (by decide) ?_
  have z_28 : q_25.1 a0 2 = q.1 a0 2 := (h3_q_25.1 2 (by decide)).trans (h2_q_1.I ha0 (show ¬ (sx_c6 h a0) from (sx_c6.n ka0 (by decide))) 2)
  have y_29 : (q_25.1 a0 2).toInt = (q.1 a0 2).toInt := by rw [z_28]
  have z_30 : q_25.1 a0 45 = q.1 a0 45 := (h3_q_25.1 45 (by decide)).trans (h2_q_1.I ha0 (show ¬ (sx_c6 h a0) from (sx_c6.n ka0 (by decide))) 45)
  have y_31 : (q_25.1 a0 45).toInt = (q.1 a0 45).toInt := by rw [z_30]
  have z_32 : q_25.1 t0 1 = q_1.1 t0 1 := h2_q_25.I ht0 (show ¬ (h.1 t0 = 12 ∨ h.1 t0 = 113 ∨ h.1 t0 = 133 ∨ h.1 t0 = 134 ∨ h.1 t0 = 135 ∨ h.1 t0 = 138 ∨ h.1 t0 = 139 ∨ h.1 t0 = 140 ∨ h.1 t0 = 136 ∨ h.1 t0 = 137 ∨ h.1 t0 = 144 ∨ h.1 t0 = 245 ∨ h.1 t0 = 156 ∨ h.1 t0 = 157 ∨ h.1 t0 = 158) from (fun z => z.elim (fun z => absurd (z.symm.trans kt0) (by decide)) (fun z => z.elim (fun z => absurd (z.symm.trans kt0) (by decide)) (fun z => z.elim (fun z => absurd (z.symm.trans kt0) (by decide)) (fun z => z.elim (fun z => absurd (z.symm.trans kt0) (by decide)) (fun z => z.elim (fun z => absurd (z.symm.trans kt0) (by decide)) (fun z => z.elim (fun z => absurd (z.symm.trans kt0) (by decide)) (fun z => z.elim (fun z => absurd (z.symm.trans kt0) (by decide)) (fun z => z.elim (fun z => absurd (z.symm.trans kt0) (by decide)) (fun z => z.elim (fun z => absurd (z.symm.trans kt0) (by decide)) (fun z => z.elim (fun z => absurd (z.symm.trans kt0) (by decide)) (fun z => z.elim (fun z => absurd (z.symm.trans kt0) (by decide)) (fun z => z.elim (fun z => absurd (z.symm.trans kt0) (by decide)) (fun z => z.elim (fun z => absurd (z.symm.trans kt0) (by decide)) (fun z => z.elim (fun z => absurd (z.symm.trans kt0) (by decide)) (fun z => absurd (z.symm.trans kt0) (by decide))))))))))))))))) 1
  have y_33 : (q_25.1 t0 1).toInt = (q_1.1 t0 1).toInt := by rw [z_32]
  have z_34 : q_25.1 x0 14 = q_1.1 x0 14 := h2_q_25.I hx0 (show ¬ (h.1 x0 = 12 ∨ h.1 x0 = 113 ∨ h.1 x0 = 133 ∨ h.1 x0 = 134 ∨ h.1 x0 = 135 ∨ h.1 x0 = 138 ∨ h.1 x0 = 139 ∨ h.1 x0 = 140 ∨ h.1 x0 = 136 ∨ h.1 x0 = 137 ∨ h.1 x0 = 144 ∨ h.1 x0 = 245 ∨ h.1 x0 = 156 ∨ h.1 x0 = 157 ∨ h.1 x0 = 158) from (fun z => z.elim (fun z => absurd (z.symm.trans kx0) (by decide)) (fun z => z.elim (fun z => absurd (z.symm.trans kx0) (by decide)) (fun z => z.elim (fun z => absurd (z.symm.trans kx0) (by decide)) (fun z => z.elim (fun z => absurd (z.symm.trans kx0) (by decide)) (fun z => z.elim (fun z => absurd (z.symm.trans kx0) (by decide)) (fun z => z.elim (fun z => absurd (z.symm.trans kx0) (by decide)) (fun z => z.elim (fun z => absurd (z.symm.trans kx0) (by decide)) (fun z => z.elim (fun z => absurd (z.symm.trans kx0) (by decide)) (fun z => z.elim (fun z => absurd (z.symm.trans kx0) (by decide)) (fun z => z.elim (fun z => absurd (z.symm.trans kx0) (by decide)) (fun z => z.elim (fun z => absurd (z.symm.trans kx0) (by decide)) (fun z => z.elim (fun z => absurd (z.symm.trans kx0) (by decide)) (fun z => z.elim (fun z => absurd (z.symm.trans kx0) (by decide)) (fun z => z.elim (fun z => absurd (z.symm.trans kx0) (by decide)) (fun z => absurd (z.symm.trans kx0) (by decide))))))))))))))))) 14
  have y_35 : (q_25.1 x0 14).toInt = (q_1.1 x0 14).toInt := by rw [z_34]
  have z_36 : q_25.2.2.1 x0 0 = t0 := (h2_q_25.R hx0 (show ¬ ((h.1 x0 = 12 ∨ h.1 x0 = 113 ∨ h.1 x0 = 133 ∨ h.1 x0 = 134 ∨ h.1 x0 = 135 ∨ h.1 x0 = 138 ∨ h.1 x0 = 139 ∨ h.1 x0 = 140 ∨ h.1 x0 = 136 ∨ h.1 x0 = 137 ∨ h.1 x0 = 144 ∨ h.1 x0 = 245 ∨ h.1 x0 = 156 ∨ h.1 x0 = 157 ∨ h.1 x0 = 158) ∧ (h.1 x0 = 8 ∨ h.1 x0 = 11)) from fun z9 => (show ¬ (h.1 x0 = 12 ∨ h.1 x0 = 113 ∨ h.1 x0 = 133 ∨ h.1 x0 = 134 ∨ h.1 x0 = 135 ∨ h.1 x0 = 138 ∨ h.1 x0 = 139 ∨ h.1 x0 = 140 ∨ h.1 x0 = 136 ∨ h.1 x0 = 137 ∨ h.1 x0 = 144 ∨ h.1 x0 = 245 ∨ h.1 x0 = 156 ∨ h.1 x0 = 157 ∨ h.1 x0 = 158) from (fun z => z.elim (fun z => absurd (z.symm.trans kx0) (by decide)) (fun z => z.elim (fun z => absurd (z.symm.trans kx0) (by decide)) (fun z => z.elim (fun z => absurd (z.symm.trans kx0) (by decide)) (fun z => z.elim (fun z => absurd (z.symm.trans kx0) (by decide)) (fun z => z.elim (fun z => absurd (z.symm.trans kx0) (by decide)) (fun z => z.elim (fun z => absurd (z.symm.trans kx0) (by decide)) (fun z => z.elim (fun z => absurd (z.symm.trans kx0) (by decide)) (fun z => z.elim (fun z => absurd (z.symm.trans kx0) (by decide)) (fun z => z.elim (fun z => absurd (z.symm.trans kx0) (by decide)) (fun z => z.elim (fun z => absurd (z.symm.trans kx0) (by decide)) (fun z => z.elim (fun z => absurd (z.symm.trans kx0) (by decide)) (fun z => z.elim (fun z => absurd (z.symm.trans kx0) (by decide)) (fun z => z.elim (fun z => absurd (z.symm.trans kx0) (by decide)) (fun z => z.elim (fun z => absurd (z.symm.trans kx0) (by decide)) (fun z => absurd (z.symm.trans kx0) (by decide))))))))))))))))) z9.1) 0).trans (hw_3.1)
  have z_37 : q_25.2.2.1 t0 0 = tb := (h2_q_25.R ht0 (fun z9 => absurd z9.2 (by omega)) 0).trans ((h2_q_1.R ht0 (fun z9 => absurd z9.2 (by omega)) 0).trans (etb))
  have z_38 : q_25.2.2.1 x0 9 = fa := (h2_q_25.R hx0 (show ¬ ((h.1 x0 = 12 ∨ h.1 x0 = 113 ∨ h.1 x0 = 133 ∨ h.1 x0 = 134 ∨ h.1 x0 = 135 ∨ h.1 x0 = 138 ∨ h.1 x0 = 139 ∨ h.1 x0 = 140 ∨ h.1 x0 = 136 ∨ h.1 x0 = 137 ∨ h.1 x0 = 144 ∨ h.1 x0 = 245 ∨ h.1 x0 = 156 ∨ h.1 x0 = 157 ∨ h.1 x0 = 158) ∧ (h.1 x0 = 8 ∨ h.1 x0 = 11)) from fun z9 => (show ¬ (h.1 x0 = 12 ∨ h.1 x0 = 113 ∨ h.1 x0 = 133 ∨ h.1 x0 = 134 ∨ h.1 x0 = 135 ∨ h.1 x0 = 138 ∨ h.1 x0 = 139 ∨ h.1 x0 = 140 ∨ h.1 x0 = 136 ∨ h.1 x0 = 137 ∨ h.1 x0 = 144 ∨ h.1 x0 = 245 ∨ h.1 x0 = 156 ∨ h.1 x0 = 157 ∨ h.1 x0 = 158) from (fun z => z.elim (fun z => absurd (z.symm.trans kx0) (by decide)) (fun z => z.elim (fun z => absurd (z.symm.trans kx0) (by decide)) (fun z => z.elim (fun z => absurd (z.symm.trans kx0) (by decide)) (fun z => z.elim (fun z => absurd (z.symm.trans kx0) (by decide)) (fun z => z.elim (fun z => absurd (z.symm.trans kx0) (by decide)) (fun z => z.elim (fun z => absurd (z.symm.trans kx0) (by decide)) (fun z => z.elim (fun z => absurd (z.symm.trans kx0) (by decide)) (fun z => z.elim (fun z => absurd (z.symm.trans kx0) (by decide)) (fun z => z.elim (fun z => absurd (z.symm.trans kx0) (by decide)) (fun z => z.elim (fun z => absurd (z.symm.trans kx0) (by decide)) (fun z => z.elim (fun z => absurd (z.symm.trans kx0) (by decide)) (fun z => z.elim (fun z => absurd (z.symm.trans kx0) (by decide)) (fun z => z.elim (fun z => absurd (z.symm.trans kx0) (by decide)) (fun z => z.elim (fun z => absurd (z.symm.trans kx0) (by decide)) (fun z => absurd (z.symm.trans kx0) (by decide))))))))))))))))) z9.1) 9).trans (hw_3.2.2.2.2.2.1)
  have z_39 : q_25.2.2.2.1 tb = q.2.2.2.1 tb := (h2_q_25.G htb (show ¬ (h.1 tb = 12 ∨ h.1 tb = 113 ∨ h.1 tb = 133 ∨ h.1 tb = 134 ∨ h.1 tb = 135 ∨ h.1 tb = 138 ∨ h.1 tb = 139 ∨ h.1 tb = 140 ∨ h.1 tb = 136 ∨ h.1 tb = 137 ∨ h.1 tb = 144 ∨ h.1 tb = 245 ∨ h.1 tb = 156 ∨ h.1 tb = 157 ∨ h.1 tb = 158) from (fun z => z.elim (fun z => absurd (z.symm.trans ktb) (by decide)) (fun z => z.elim (fun z => absurd (z.symm.trans ktb) (by decide)) (fun z => z.elim (fun z => absurd (z.symm.trans ktb) (by decide)) (fun z => z.elim (fun z => absurd (z.symm.trans ktb) (by decide)) (fun z => z.elim (fun z => absurd (z.symm.trans ktb) (by decide)) (fun z => z.elim (fun z => absurd (z.symm.trans ktb) (by decide)) (fun z => z.elim (fun z => absurd (z.symm.trans ktb) (by decide)) (fun z => z.elim (fun z => absurd (z.symm.trans ktb) (by decide)) (fun z => z.elim (fun z => absurd (z.symm.trans ktb) (by decide)) (fun z => z.elim (fun z => absurd (z.symm.trans ktb) (by decide)) (fun z => z.elim (fun z => absurd (z.symm.trans ktb) (by decide)) (fun z => z.elim (fun z => absurd (z.symm.trans ktb) (by decide)) (fun z => z.elim (fun z => absurd (z.symm.trans ktb) (by decide)) (fun z => z.elim (fun z => absurd (z.symm.trans ktb) (by decide)) (fun z => absurd (z.symm.trans ktb) (by decide))))))))))))))))) (by rw [ktb]; decide)).trans (h2_q_1.G htb (show ¬ (sx_c6 h tb) from (sx_c6.t ktb ltb)) (by rw [ktb]; decide))
  have z_40 : q_25.2.2.2.1 m1 = q.2.2.2.1 m1 := (h2_q_25.G hm1 (show ¬ (h.1 m1 = 12 ∨ h.1 m1 = 113 ∨ h.1 m1 = 133 ∨ h.1 m1 = 134 ∨ h.1 m1 = 135 ∨ h.1 m1 = 138 ∨ h.1 m1 = 139 ∨ h.1 m1 = 140 ∨ h.1 m1 = 136 ∨ h.1 m1 = 137 ∨ h.1 m1 = 144 ∨ h.1 m1 = 245 ∨ h.1 m1 = 156 ∨ h.1 m1 = 157 ∨ h.1 m1 = 158) from (fun z => z.elim (fun z => absurd (z.symm.trans km1) (by decide)) (fun z => z.elim (fun z => absurd (z.symm.trans km1) (by decide)) (fun z => z.elim (fun z => absurd (z.symm.trans km1) (by decide)) (fun z => z.elim (fun z => absurd (z.symm.trans km1) (by decide)) (fun z => z.elim (fun z => absurd (z.symm.trans km1) (by decide)) (fun z => z.elim (fun z => absurd (z.symm.trans km1) (by decide)) (fun z => z.elim (fun z => absurd (z.symm.trans km1) (by decide)) (fun z => z.elim (fun z => absurd (z.symm.trans km1) (by decide)) (fun z => z.elim (fun z => absurd (z.symm.trans km1) (by decide)) (fun z => z.elim (fun z => absurd (z.symm.trans km1) (by decide)) (fun z => z.elim (fun z => absurd (z.symm.trans km1) (by decide)) (fun z => z.elim (fun z => absurd (z.symm.trans km1) (by decide)) (fun z => z.elim (fun z => absurd (z.symm.trans km1) (by decide)) (fun z => z.elim (fun z => absurd (z.symm.trans km1) (by decide)) (fun z => absurd (z.symm.trans km1) (by decide))))))))))))))))) (by rw [km1]; decide)).trans (h2_q_1.G hm1 (show ¬ (sx_c6 h m1) from (sx_c6.n km1 (by decide))) (by rw [km1]; decide))
  have hT9 : ty_T (q_25.2.2.2.1 tb) (q_25.2.2.2.1 m1) (q_25.1 t0 1).toInt.toNat := by rw [z_39, z_40]; exact hT.le (by omega)
  have z_41 : q_25.2.2.2.1 m44 = q.2.2.2.1 m44 := (h2_q_25.G hm44 (show ¬ (h.1 m44 = 12 ∨ h.1 m44 = 113 ∨ h.1 m44 = 133 ∨ h.1 m44 = 134 ∨ h.1 m44 = 135 ∨ h.1 m44 = 138 ∨ h.1 m44 = 139 ∨ h.1 m44 = 140 ∨ h.1 m44 = 136 ∨ h.1 m44 = 137 ∨ h.1 m44 = 144 ∨ h.1 m44 = 245 ∨ h.1 m44 = 156 ∨ h.1 m44 = 157 ∨ h.1 m44 = 158) from (fun z => z.elim (fun z => absurd (z.symm.trans km44) (by decide)) (fun z => z.elim (fun z => absurd (z.symm.trans km44) (by decide)) (fun z => z.elim (fun z => absurd (z.symm.trans km44) (by decide)) (fun z => z.elim (fun z => absurd (z.symm.trans km44) (by decide)) (fun z => z.elim (fun z => absurd (z.symm.trans km44) (by decide)) (fun z => z.elim (fun z => absurd (z.symm.trans km44) (by decide)) (fun z => z.elim (fun z => absurd (z.symm.trans km44) (by decide)) (fun z => z.elim (fun z => absurd (z.symm.trans km44) (by decide)) (fun z => z.elim (fun z => absurd (z.symm.trans km44) (by decide)) (fun z => z.elim (fun z => absurd (z.symm.trans km44) (by decide)) (fun z => z.elim (fun z => absurd (z.symm.trans km44) (by decide)) (fun z => z.elim (fun z => absurd (z.symm.trans km44) (by decide)) (fun z => z.elim (fun z => absurd (z.symm.trans km44) (by decide)) (fun z => z.elim (fun z => absurd (z.symm.trans km44) (by decide)) (fun z => absurd (z.symm.trans km44) (by decide))))))))))))))))) (by rw [km44]; decide)).trans (h2_q_1.G hm44 (show ¬ (sx_c6 h m44) from (sx_c6.n km44 (by decide))) (by rw [km44]; decide))
  have hR9 : lc_R h fa m44 x0 q_25 := by
    intro f hf
    obtain ⟨e9, ee9, he9, ke9⟩ := hV.elem (t := 0) hfa kfa (by decide) rfl (j := f) (by omega)
    rw [ee9, show q_25.1 e9 3 = q_1.1 e9 3 from h2_q_25.I he9 (show ¬ (h.1 e9 = 12 ∨ h.1 e9 = 113 ∨ h.1 e9 = 133 ∨ h.1 e9 = 134 ∨ h.1 e9 = 135 ∨ h.1 e9 = 138 ∨ h.1 e9 = 139 ∨ h.1 e9 = 140 ∨ h.1 e9 = 136 ∨ h.1 e9 = 137 ∨ h.1 e9 = 144 ∨ h.1 e9 = 245 ∨ h.1 e9 = 156 ∨ h.1 e9 = 157 ∨ h.1 e9 = 158) from by omega) 3, show q_1.1 e9 3 = q.1 e9 3 from h2_q_1.I he9 (show ¬ (sx_c6 h e9) from by (try unfold sx_mk at *); (try unfold sx_ck at *); (try unfold sx_c6 at *); omega) 3, ← ee9, z_41]
    exact hR f (by omega)
  have hR_uu : q_25.2.2.1 uu = q.2.2.1 uu := by rw [show q_25.2.2.1 uu = q_1.2.2.1 uu from h2_q_25.2 uu huu (fun z9 => absurd z9.2 (by rw [kuu]; decide)), show q_1.2.2.1 uu = q.2.2.1 uu from h2_q_1.2 uu huu (fun z9 => absurd z9.2 (by rw [kuu]; decide))]
  have hR_su : q_25.2.2.1 su = q.2.2.1 su := by rw [show q_25.2.2.1 su = q_1.2.2.1 su from h2_q_25.2 su hsu (fun z9 => absurd z9.2 (by rw [ksu]; decide)), show q_1.2.2.1 su = q.2.2.1 su from h2_q_1.2 su hsu (fun z9 => absurd z9.2 (by rw [ksu]; decide))]
  have z_42 : q_25.1 o0 1 = q.1 o0 1 := (h2_q_25.I ho0 (show ¬ (h.1 o0 = 12 ∨ h.1 o0 = 113 ∨ h.1 o0 = 133 ∨ h.1 o0 = 134 ∨ h.1 o0 = 135 ∨ h.1 o0 = 138 ∨ h.1 o0 = 139 ∨ h.1 o0 = 140 ∨ h.1 o0 = 136 ∨ h.1 o0 = 137 ∨ h.1 o0 = 144 ∨ h.1 o0 = 245 ∨ h.1 o0 = 156 ∨ h.1 o0 = 157 ∨ h.1 o0 = 158) from (fun z => z.elim (fun z => absurd (z.symm.trans ko0) (by decide)) (fun z => z.elim (fun z => absurd (z.symm.trans ko0) (by decide)) (fun z => z.elim (fun z => absurd (z.symm.trans ko0) (by decide)) (fun z => z.elim (fun z => absurd (z.symm.trans ko0) (by decide)) (fun z => z.elim (fun z => absurd (z.symm.trans ko0) (by decide)) (fun z => z.elim (fun z => absurd (z.symm.trans ko0) (by decide)) (fun z => z.elim (fun z => absurd (z.symm.trans ko0) (by decide)) (fun z => z.elim (fun z => absurd (z.symm.trans ko0) (by decide)) (fun z => z.elim (fun z => absurd (z.symm.trans ko0) (by decide)) (fun z => z.elim (fun z => absurd (z.symm.trans ko0) (by decide)) (fun z => z.elim (fun z => absurd (z.symm.trans ko0) (by decide)) (fun z => z.elim (fun z => absurd (z.symm.trans ko0) (by decide)) (fun z => z.elim (fun z => absurd (z.symm.trans ko0) (by decide)) (fun z => z.elim (fun z => absurd (z.symm.trans ko0) (by decide)) (fun z => absurd (z.symm.trans ko0) (by decide))))))))))))))))) 1).trans (h2_q_1.I ho0 (show ¬ (sx_c6 h o0) from (sx_c6.o ko0 lo0)) 1)
  have z_43 : q_25.1 a0 22 = q.1 a0 22 := (h3_q_25.1 22 (by decide)).trans (h2_q_1.I ha0 (show ¬ (sx_c6 h a0) from (sx_c6.n ka0 (by decide))) 22)
  have z_44 : q_25.2.2.2.1 ob = q.2.2.2.1 ob := (h2_q_25.G hob (show ¬ (h.1 ob = 12 ∨ h.1 ob = 113 ∨ h.1 ob = 133 ∨ h.1 ob = 134 ∨ h.1 ob = 135 ∨ h.1 ob = 138 ∨ h.1 ob = 139 ∨ h.1 ob = 140 ∨ h.1 ob = 136 ∨ h.1 ob = 137 ∨ h.1 ob = 144 ∨ h.1 ob = 245 ∨ h.1 ob = 156 ∨ h.1 ob = 157 ∨ h.1 ob = 158) from (fun z => z.elim (fun z => absurd (z.symm.trans kob) (by decide)) (fun z => z.elim (fun z => absurd (z.symm.trans kob) (by decide)) (fun z => z.elim (fun z => absurd (z.symm.trans kob) (by decide)) (fun z => z.elim (fun z => absurd (z.symm.trans kob) (by decide)) (fun z => z.elim (fun z => absurd (z.symm.trans kob) (by decide)) (fun z => z.elim (fun z => absurd (z.symm.trans kob) (by decide)) (fun z => z.elim (fun z => absurd (z.symm.trans kob) (by decide)) (fun z => z.elim (fun z => absurd (z.symm.trans kob) (by decide)) (fun z => z.elim (fun z => absurd (z.symm.trans kob) (by decide)) (fun z => z.elim (fun z => absurd (z.symm.trans kob) (by decide)) (fun z => z.elim (fun z => absurd (z.symm.trans kob) (by decide)) (fun z => z.elim (fun z => absurd (z.symm.trans kob) (by decide)) (fun z => z.elim (fun z => absurd (z.symm.trans kob) (by decide)) (fun z => z.elim (fun z => absurd (z.symm.trans kob) (by decide)) (fun z => absurd (z.symm.trans kob) (by decide))))))))))))))))) (by rw [kob]; decide)).trans (h2_q_1.G hob (show ¬ (sx_c6 h ob) from (sx_c6.u kob lob)) (by rw [kob]; decide))
  have z_45 : q_25.2.2.2.1 m21 = q.2.2.2.1 m21 := (h2_q_25.G hm21 (show ¬ (h.1 m21 = 12 ∨ h.1 m21 = 113 ∨ h.1 m21 = 133 ∨ h.1 m21 = 134 ∨ h.1 m21 = 135 ∨ h.1 m21 = 138 ∨ h.1 m21 = 139 ∨ h.1 m21 = 140 ∨ h.1 m21 = 136 ∨ h.1 m21 = 137 ∨ h.1 m21 = 144 ∨ h.1 m21 = 245 ∨ h.1 m21 = 156 ∨ h.1 m21 = 157 ∨ h.1 m21 = 158) from (fun z => z.elim (fun z => absurd (z.symm.trans km21) (by decide)) (fun z => z.elim (fun z => absurd (z.symm.trans km21) (by decide)) (fun z => z.elim (fun z => absurd (z.symm.trans km21) (by decide)) (fun z => z.elim (fun z => absurd (z.symm.trans km21) (by decide)) (fun z => z.elim (fun z => absurd (z.symm.trans km21) (by decide)) (fun z => z.elim (fun z => absurd (z.symm.trans km21) (by decide)) (fun z => z.elim (fun z => absurd (z.symm.trans km21) (by decide)) (fun z => z.elim (fun z => absurd (z.symm.trans km21) (by decide)) (fun z => z.elim (fun z => absurd (z.symm.trans km21) (by decide)) (fun z => z.elim (fun z => absurd (z.symm.trans km21) (by decide)) (fun z => z.elim (fun z => absurd (z.symm.trans km21) (by decide)) (fun z => z.elim (fun z => absurd (z.symm.trans km21) (by decide)) (fun z => z.elim (fun z => absurd (z.symm.trans km21) (by decide)) (fun z => z.elim (fun z => absurd (z.symm.trans km21) (by decide)) (fun z => absurd (z.symm.trans km21) (by decide))))))))))))))))) (by rw [km21]; decide)).trans (h2_q_1.G hm21 (show ¬ (sx_c6 h m21) from (sx_c6.n km21 (by decide))) (by rw [km21]; decide))
  have hout9 : lc_o (q_25.1 o0 1) (q_25.1 a0 22) (q_25.2.2.2.1 ob) (q_25.2.2.2.1 (mm 21)) := by rw [← xm21, z_42, z_43, z_44, z_45]; exact hout
  have z_46 : q_25.2.2.1 x0 1 = o0 := (h2_q_25.R hx0 (show ¬ ((h.1 x0 = 12 ∨ h.1 x0 = 113 ∨ h.1 x0 = 133 ∨ h.1 x0 = 134 ∨ h.1 x0 = 135 ∨ h.1 x0 = 138 ∨ h.1 x0 = 139 ∨ h.1 x0 = 140 ∨ h.1 x0 = 136 ∨ h.1 x0 = 137 ∨ h.1 x0 = 144 ∨ h.1 x0 = 245 ∨ h.1 x0 = 156 ∨ h.1 x0 = 157 ∨ h.1 x0 = 158) ∧ (h.1 x0 = 8 ∨ h.1 x0 = 11)) from fun z9 => (show ¬ (h.1 x0 = 12 ∨ h.1 x0 = 113 ∨ h.1 x0 = 133 ∨ h.1 x0 = 134 ∨ h.1 x0 = 135 ∨ h.1 x0 = 138 ∨ h.1 x0 = 139 ∨ h.1 x0 = 140 ∨ h.1 x0 = 136 ∨ h.1 x0 = 137 ∨ h.1 x0 = 144 ∨ h.1 x0 = 245 ∨ h.1 x0 = 156 ∨ h.1 x0 = 157 ∨ h.1 x0 = 158) from (fun z => z.elim (fun z => absurd (z.symm.trans kx0) (by decide)) (fun z => z.elim (fun z => absurd (z.symm.trans kx0) (by decide)) (fun z => z.elim (fun z => absurd (z.symm.trans kx0) (by decide)) (fun z => z.elim (fun z => absurd (z.symm.trans kx0) (by decide)) (fun z => z.elim (fun z => absurd (z.symm.trans kx0) (by decide)) (fun z => z.elim (fun z => absurd (z.symm.trans kx0) (by decide)) (fun z => z.elim (fun z => absurd (z.symm.trans kx0) (by decide)) (fun z => z.elim (fun z => absurd (z.symm.trans kx0) (by decide)) (fun z => z.elim (fun z => absurd (z.symm.trans kx0) (by decide)) (fun z => z.elim (fun z => absurd (z.symm.trans kx0) (by decide)) (fun z => z.elim (fun z => absurd (z.symm.trans kx0) (by decide)) (fun z => z.elim (fun z => absurd (z.symm.trans kx0) (by decide)) (fun z => z.elim (fun z => absurd (z.symm.trans kx0) (by decide)) (fun z => z.elim (fun z => absurd (z.symm.trans kx0) (by decide)) (fun z => absurd (z.symm.trans kx0) (by decide))))))))))))))))) z9.1) 1).trans (hw_3.2.2.2.2.2.2)
  have z_47 : q_25.2.2.1 o0 0 = ob := (h2_q_25.R ho0 (fun z9 => absurd z9.2 (by omega)) 0).trans ((h2_q_1.R ho0 (fun z9 => absurd z9.2 (by omega)) 0).trans (eob))
  have z_48 : q_25.1 uu 6 = q.1 uu 6 := (h2_q_25.I huu (show ¬ (h.1 uu = 12 ∨ h.1 uu = 113 ∨ h.1 uu = 133 ∨ h.1 uu = 134 ∨ h.1 uu = 135 ∨ h.1 uu = 138 ∨ h.1 uu = 139 ∨ h.1 uu = 140 ∨ h.1 uu = 136 ∨ h.1 uu = 137 ∨ h.1 uu = 144 ∨ h.1 uu = 245 ∨ h.1 uu = 156 ∨ h.1 uu = 157 ∨ h.1 uu = 158) from (fun z => z.elim (fun z => absurd (z.symm.trans kuu) (by decide)) (fun z => z.elim (fun z => absurd (z.symm.trans kuu) (by decide)) (fun z => z.elim (fun z => absurd (z.symm.trans kuu) (by decide)) (fun z => z.elim (fun z => absurd (z.symm.trans kuu) (by decide)) (fun z => z.elim (fun z => absurd (z.symm.trans kuu) (by decide)) (fun z => z.elim (fun z => absurd (z.symm.trans kuu) (by decide)) (fun z => z.elim (fun z => absurd (z.symm.trans kuu) (by decide)) (fun z => z.elim (fun z => absurd (z.symm.trans kuu) (by decide)) (fun z => z.elim (fun z => absurd (z.symm.trans kuu) (by decide)) (fun z => z.elim (fun z => absurd (z.symm.trans kuu) (by decide)) (fun z => z.elim (fun z => absurd (z.symm.trans kuu) (by decide)) (fun z => z.elim (fun z => absurd (z.symm.trans kuu) (by decide)) (fun z => z.elim (fun z => absurd (z.symm.trans kuu) (by decide)) (fun z => z.elim (fun z => absurd (z.symm.trans kuu) (by decide)) (fun z => absurd (z.symm.trans kuu) (by decide))))))))))))))))) 6).trans (h2_q_1.I huu (show ¬ (sx_c6 h uu) from (sx_c6.n kuu (by decide))) 6)
  have z_49 : q_25.1 a0 20 = q.1 a0 20 := (h3_q_25.1 20 (by decide)).trans (h2_q_1.I ha0 (show ¬ (sx_c6 h a0) from (sx_c6.n ka0 (by decide))) 20)
  have z_50 : q_25.2.2.2.1 uc = q.2.2.2.1 uc := (h2_q_25.G huc (show ¬ (h.1 uc = 12 ∨ h.1 uc = 113 ∨ h.1 uc = 133 ∨ h.1 uc = 134 ∨ h.1 uc = 135 ∨ h.1 uc = 138 ∨ h.1 uc = 139 ∨ h.1 uc = 140 ∨ h.1 uc = 136 ∨ h.1 uc = 137 ∨ h.1 uc = 144 ∨ h.1 uc = 245 ∨ h.1 uc = 156 ∨ h.1 uc = 157 ∨ h.1 uc = 158) from (fun z => z.elim (fun z => absurd (z.symm.trans kuc) (by decide)) (fun z => z.elim (fun z => absurd (z.symm.trans kuc) (by decide)) (fun z => z.elim (fun z => absurd (z.symm.trans kuc) (by decide)) (fun z => z.elim (fun z => absurd (z.symm.trans kuc) (by decide)) (fun z => z.elim (fun z => absurd (z.symm.trans kuc) (by decide)) (fun z => z.elim (fun z => absurd (z.symm.trans kuc) (by decide)) (fun z => z.elim (fun z => absurd (z.symm.trans kuc) (by decide)) (fun z => z.elim (fun z => absurd (z.symm.trans kuc) (by decide)) (fun z => z.elim (fun z => absurd (z.symm.trans kuc) (by decide)) (fun z => z.elim (fun z => absurd (z.symm.trans kuc) (by decide)) (fun z => z.elim (fun z => absurd (z.symm.trans kuc) (by decide)) (fun z => z.elim (fun z => absurd (z.symm.trans kuc) (by decide)) (fun z => z.elim (fun z => absurd (z.symm.trans kuc) (by decide)) (fun z => z.elim (fun z => absurd (z.symm.trans kuc) (by decide)) (fun z => absurd (z.symm.trans kuc) (by decide))))))))))))))))) (by rw [kuc]; decide)).trans (h2_q_1.G huc (show ¬ (sx_c6 h uc) from (sx_c6.n kuc (by decide))) (by rw [kuc]; decide))
  have z_51 : q_25.2.2.2.1 m18 = q.2.2.2.1 m18 := (h2_q_25.G hm18 (show ¬ (h.1 m18 = 12 ∨ h.1 m18 = 113 ∨ h.1 m18 = 133 ∨ h.1 m18 = 134 ∨ h.1 m18 = 135 ∨ h.1 m18 = 138 ∨ h.1 m18 = 139 ∨ h.1 m18 = 140 ∨ h.1 m18 = 136 ∨ h.1 m18 = 137 ∨ h.1 m18 = 144 ∨ h.1 m18 = 245 ∨ h.1 m18 = 156 ∨ h.1 m18 = 157 ∨ h.1 m18 = 158) from (fun z => z.elim (fun z => absurd (z.symm.trans km18) (by decide)) (fun z => z.elim (fun z => absurd (z.symm.trans km18) (by decide)) (fun z => z.elim (fun z => absurd (z.symm.trans km18) (by decide)) (fun z => z.elim (fun z => absurd (z.symm.trans km18) (by decide)) (fun z => z.elim (fun z => absurd (z.symm.trans km18) (by decide)) (fun z => z.elim (fun z => absurd (z.symm.trans km18) (by decide)) (fun z => z.elim (fun z => absurd (z.symm.trans km18) (by decide)) (fun z => z.elim (fun z => absurd (z.symm.trans km18) (by decide)) (fun z => z.elim (fun z => absurd (z.symm.trans km18) (by decide)) (fun z => z.elim (fun z => absurd (z.symm.trans km18) (by decide)) (fun z => z.elim (fun z => absurd (z.symm.trans km18) (by decide)) (fun z => z.elim (fun z => absurd (z.symm.trans km18) (by decide)) (fun z => z.elim (fun z => absurd (z.symm.trans km18) (by decide)) (fun z => z.elim (fun z => absurd (z.symm.trans km18) (by decide)) (fun z => absurd (z.symm.trans km18) (by decide))))))))))))))))) (by rw [km18]; decide)).trans (h2_q_1.G hm18 (show ¬ (sx_c6 h m18) from (sx_c6.n km18 (by decide))) (by rw [km18]; decide))
  have z_52 : q_25.2.2.2.1 uf = q.2.2.2.1 uf := (h2_q_25.G huf (show ¬ (h.1 uf = 12 ∨ h.1 uf = 113 ∨ h.1 uf = 133 ∨ h.1 uf = 134 ∨ h.1 uf = 135 ∨ h.1 uf = 138 ∨ h.1 uf = 139 ∨ h.1 uf = 140 ∨ h.1 uf = 136 ∨ h.1 uf = 137 ∨ h.1 uf = 144 ∨ h.1 uf = 245 ∨ h.1 uf = 156 ∨ h.1 uf = 157 ∨ h.1 uf = 158) from (fun z => z.elim (fun z => absurd (z.symm.trans kuf) (by decide)) (fun z => z.elim (fun z => absurd (z.symm.trans kuf) (by decide)) (fun z => z.elim (fun z => absurd (z.symm.trans kuf) (by decide)) (fun z => z.elim (fun z => absurd (z.symm.trans kuf) (by decide)) (fun z => z.elim (fun z => absurd (z.symm.trans kuf) (by decide)) (fun z => z.elim (fun z => absurd (z.symm.trans kuf) (by decide)) (fun z => z.elim (fun z => absurd (z.symm.trans kuf) (by decide)) (fun z => z.elim (fun z => absurd (z.symm.trans kuf) (by decide)) (fun z => z.elim (fun z => absurd (z.symm.trans kuf) (by decide)) (fun z => z.elim (fun z => absurd (z.symm.trans kuf) (by decide)) (fun z => z.elim (fun z => absurd (z.symm.trans kuf) (by decide)) (fun z => z.elim (fun z => absurd (z.symm.trans kuf) (by decide)) (fun z => z.elim (fun z => absurd (z.symm.trans kuf) (by decide)) (fun z => z.elim (fun z => absurd (z.symm.trans kuf) (by decide)) (fun z => absurd (z.symm.trans kuf) (by decide))))))))))))))))) (by rw [kuf]; decide)).trans (h2_q_1.G huf (show ¬ (sx_c6 h uf) from (sx_c6.n kuf (by decide))) (by rw [kuf]; decide))
  have z_53 : q_25.2.2.2.1 m19 = q.2.2.2.1 m19 := (h2_q_25.G hm19 (show ¬ (h.1 m19 = 12 ∨ h.1 m19 = 113 ∨ h.1 m19 = 133 ∨ h.1 m19 = 134 ∨ h.1 m19 = 135 ∨ h.1 m19 = 138 ∨ h.1 m19 = 139 ∨ h.1 m19 = 140 ∨ h.1 m19 = 136 ∨ h.1 m19 = 137 ∨ h.1 m19 = 144 ∨ h.1 m19 = 245 ∨ h.1 m19 = 156 ∨ h.1 m19 = 157 ∨ h.1 m19 = 158) from (fun z => z.elim (fun z => absurd (z.symm.trans km19) (by decide)) (fun z => z.elim (fun z => absurd (z.symm.trans km19) (by decide)) (fun z => z.elim (fun z => absurd (z.symm.trans km19) (by decide)) (fun z => z.elim (fun z => absurd (z.symm.trans km19) (by decide)) (fun z => z.elim (fun z => absurd (z.symm.trans km19) (by decide)) (fun z => z.elim (fun z => absurd (z.symm.trans km19) (by decide)) (fun z => z.elim (fun z => absurd (z.symm.trans km19) (by decide)) (fun z => z.elim (fun z => absurd (z.symm.trans km19) (by decide)) (fun z => z.elim (fun z => absurd (z.symm.trans km19) (by decide)) (fun z => z.elim (fun z => absurd (z.symm.trans km19) (by decide)) (fun z => z.elim (fun z => absurd (z.symm.trans km19) (by decide)) (fun z => z.elim (fun z => absurd (z.symm.trans km19) (by decide)) (fun z => z.elim (fun z => absurd (z.symm.trans km19) (by decide)) (fun z => z.elim (fun z => absurd (z.symm.trans km19) (by decide)) (fun z => absurd (z.symm.trans km19) (by decide))))))))))))))))) (by rw [km19]; decide)).trans (h2_q_1.G hm19 (show ¬ (sx_c6 h m19) from (sx_c6.n km19 (by decide))) (by rw [km19]; decide))
  have z_54 : q_25.2.2.2.1 uw = q.2.2.2.1 uw := (h2_q_25.G huw (show ¬ (h.1 uw = 12 ∨ h.1 uw = 113 ∨ h.1 uw = 133 ∨ h.1 uw = 134 ∨ h.1 uw = 135 ∨ h.1 uw = 138 ∨ h.1 uw = 139 ∨ h.1 uw = 140 ∨ h.1 uw = 136 ∨ h.1 uw = 137 ∨ h.1 uw = 144 ∨ h.1 uw = 245 ∨ h.1 uw = 156 ∨ h.1 uw = 157 ∨ h.1 uw = 158) from (fun z => z.elim (fun z => absurd (z.symm.trans kuw) (by decide)) (fun z => z.elim (fun z => absurd (z.symm.trans kuw) (by decide)) (fun z => z.elim (fun z => absurd (z.symm.trans kuw) (by decide)) (fun z => z.elim (fun z => absurd (z.symm.trans kuw) (by decide)) (fun z => z.elim (fun z => absurd (z.symm.trans kuw) (by decide)) (fun z => z.elim (fun z => absurd (z.symm.trans kuw) (by decide)) (fun z => z.elim (fun z => absurd (z.symm.trans kuw) (by decide)) (fun z => z.elim (fun z => absurd (z.symm.trans kuw) (by decide)) (fun z => z.elim (fun z => absurd (z.symm.trans kuw) (by decide)) (fun z => z.elim (fun z => absurd (z.symm.trans kuw) (by decide)) (fun z => z.elim (fun z => absurd (z.symm.trans kuw) (by decide)) (fun z => z.elim (fun z => absurd (z.symm.trans kuw) (by decide)) (fun z => z.elim (fun z => absurd (z.symm.trans kuw) (by decide)) (fun z => z.elim (fun z => absurd (z.symm.trans kuw) (by decide)) (fun z => absurd (z.symm.trans kuw) (by decide))))))))))))))))) (by rw [kuw]; decide)).trans (h2_q_1.G huw (show ¬ (sx_c6 h uw) from (sx_c6.n kuw (by decide))) (by rw [kuw]; decide))
  have z_55 : q_25.2.2.2.2 un = q.2.2.2.2 un := (h2_q_25.Lg hun (show ¬ (h.1 un = 12 ∨ h.1 un = 113 ∨ h.1 un = 133 ∨ h.1 un = 134 ∨ h.1 un = 135 ∨ h.1 un = 138 ∨ h.1 un = 139 ∨ h.1 un = 140 ∨ h.1 un = 136 ∨ h.1 un = 137 ∨ h.1 un = 144 ∨ h.1 un = 245 ∨ h.1 un = 156 ∨ h.1 un = 157 ∨ h.1 un = 158) from (fun z => z.elim (fun z => absurd (z.symm.trans kun) (by decide)) (fun z => z.elim (fun z => absurd (z.symm.trans kun) (by decide)) (fun z => z.elim (fun z => absurd (z.symm.trans kun) (by decide)) (fun z => z.elim (fun z => absurd (z.symm.trans kun) (by decide)) (fun z => z.elim (fun z => absurd (z.symm.trans kun) (by decide)) (fun z => z.elim (fun z => absurd (z.symm.trans kun) (by decide)) (fun z => z.elim (fun z => absurd (z.symm.trans kun) (by decide)) (fun z => z.elim (fun z => absurd (z.symm.trans kun) (by decide)) (fun z => z.elim (fun z => absurd (z.symm.trans kun) (by decide)) (fun z => z.elim (fun z => absurd (z.symm.trans kun) (by decide)) (fun z => z.elim (fun z => absurd (z.symm.trans kun) (by decide)) (fun z => z.elim (fun z => absurd (z.symm.trans kun) (by decide)) (fun z => z.elim (fun z => absurd (z.symm.trans kun) (by decide)) (fun z => z.elim (fun z => absurd (z.symm.trans kun) (by decide)) (fun z => absurd (z.symm.trans kun) (by decide))))))))))))))))) (by rw [kun]; decide)).trans (h2_q_1.Lg hun (show ¬ (sx_c6 h un) from (sx_c6.n kun (by decide))) (by rw [kun]; decide))
  have z_56 : q_25.2.2.2.2 m17 = q.2.2.2.2 m17 := (h2_q_25.Lg hm17 (show ¬ (h.1 m17 = 12 ∨ h.1 m17 = 113 ∨ h.1 m17 = 133 ∨ h.1 m17 = 134 ∨ h.1 m17 = 135 ∨ h.1 m17 = 138 ∨ h.1 m17 = 139 ∨ h.1 m17 = 140 ∨ h.1 m17 = 136 ∨ h.1 m17 = 137 ∨ h.1 m17 = 144 ∨ h.1 m17 = 245 ∨ h.1 m17 = 156 ∨ h.1 m17 = 157 ∨ h.1 m17 = 158) from (fun z => z.elim (fun z => absurd (z.symm.trans km17) (by decide)) (fun z => z.elim (fun z => absurd (z.symm.trans km17) (by decide)) (fun z => z.elim (fun z => absurd (z.symm.trans km17) (by decide)) (fun z => z.elim (fun z => absurd (z.symm.trans km17) (by decide)) (fun z => z.elim (fun z => absurd (z.symm.trans km17) (by decide)) (fun z => z.elim (fun z => absurd (z.symm.trans km17) (by decide)) (fun z => z.elim (fun z => absurd (z.symm.trans km17) (by decide)) (fun z => z.elim (fun z => absurd (z.symm.trans km17) (by decide)) (fun z => z.elim (fun z => absurd (z.symm.trans km17) (by decide)) (fun z => z.elim (fun z => absurd (z.symm.trans km17) (by decide)) (fun z => z.elim (fun z => absurd (z.symm.trans km17) (by decide)) (fun z => z.elim (fun z => absurd (z.symm.trans km17) (by decide)) (fun z => z.elim (fun z => absurd (z.symm.trans km17) (by decide)) (fun z => z.elim (fun z => absurd (z.symm.trans km17) (by decide)) (fun z => absurd (z.symm.trans km17) (by decide))))))))))))))))) (by rw [km17]; decide)).trans (h2_q_1.Lg hm17 (show ¬ (sx_c6 h m17) from (sx_c6.n km17 (by decide))) (by rw [km17]; decide))
  have hu9 : lc_uq8 q_25 a0 uu (mm 17) (mm 18) (mm 19) := by unfold lc_uq8; rw [← xm17, ← xm18, ← xm19, hR_uu, euc, euf, euw, eun, z_48, z_49, z_50, z_51, z_52, z_53, z_54, z_55, z_56]; exact hu
  have z_57 : q_25.2.2.1 x0 11 = uu := (h2_q_25.R hx0 (show ¬ ((h.1 x0 = 12 ∨ h.1 x0 = 113 ∨ h.1 x0 = 133 ∨ h.1 x0 = 134 ∨ h.1 x0 = 135 ∨ h.1 x0 = 138 ∨ h.1 x0 = 139 ∨ h.1 x0 = 140 ∨ h.1 x0 = 136 ∨ h.1 x0 = 137 ∨ h.1 x0 = 144 ∨ h.1 x0 = 245 ∨ h.1 x0 = 156 ∨ h.1 x0 = 157 ∨ h.1 x0 = 158) ∧ (h.1 x0 = 8 ∨ h.1 x0 = 11)) from fun z9 => (show ¬ (h.1 x0 = 12 ∨ h.1 x0 = 113 ∨ h.1 x0 = 133 ∨ h.1 x0 = 134 ∨ h.1 x0 = 135 ∨ h.1 x0 = 138 ∨ h.1 x0 = 139 ∨ h.1 x0 = 140 ∨ h.1 x0 = 136 ∨ h.1 x0 = 137 ∨ h.1 x0 = 144 ∨ h.1 x0 = 245 ∨ h.1 x0 = 156 ∨ h.1 x0 = 157 ∨ h.1 x0 = 158) from (fun z => z.elim (fun z => absurd (z.symm.trans kx0) (by decide)) (fun z => z.elim (fun z => absurd (z.symm.trans kx0) (by decide)) (fun z => z.elim (fun z => absurd (z.symm.trans kx0) (by decide)) (fun z => z.elim (fun z => absurd (z.symm.trans kx0) (by decide)) (fun z => z.elim (fun z => absurd (z.symm.trans kx0) (by decide)) (fun z => z.elim (fun z => absurd (z.symm.trans kx0) (by decide)) (fun z => z.elim (fun z => absurd (z.symm.trans kx0) (by decide)) (fun z => z.elim (fun z => absurd (z.symm.trans kx0) (by decide)) (fun z => z.elim (fun z => absurd (z.symm.trans kx0) (by decide)) (fun z => z.elim (fun z => absurd (z.symm.trans kx0) (by decide)) (fun z => z.elim (fun z => absurd (z.symm.trans kx0) (by decide)) (fun z => z.elim (fun z => absurd (z.symm.trans kx0) (by decide)) (fun z => z.elim (fun z => absurd (z.symm.trans kx0) (by decide)) (fun z => z.elim (fun z => absurd (z.symm.trans kx0) (by decide)) (fun z => absurd (z.symm.trans kx0) (by decide))))))))))))))))) z9.1) 11).trans (hw_3.2.2.2.1)
  have z_58 : q_25.2.2.1 x0 12 = su := (h2_q_25.R hx0 (show ¬ ((h.1 x0 = 12 ∨ h.1 x0 = 113 ∨ h.1 x0 = 133 ∨ h.1 x0 = 134 ∨ h.1 x0 = 135 ∨ h.1 x0 = 138 ∨ h.1 x0 = 139 ∨ h.1 x0 = 140 ∨ h.1 x0 = 136 ∨ h.1 x0 = 137 ∨ h.1 x0 = 144 ∨ h.1 x0 = 245 ∨ h.1 x0 = 156 ∨ h.1 x0 = 157 ∨ h.1 x0 = 158) ∧ (h.1 x0 = 8 ∨ h.1 x0 = 11)) from fun z9 => (show ¬ (h.1 x0 = 12 ∨ h.1 x0 = 113 ∨ h.1 x0 = 133 ∨ h.1 x0 = 134 ∨ h.1 x0 = 135 ∨ h.1 x0 = 138 ∨ h.1 x0 = 139 ∨ h.1 x0 = 140 ∨ h.1 x0 = 136 ∨ h.1 x0 = 137 ∨ h.1 x0 = 144 ∨ h.1 x0 = 245 ∨ h.1 x0 = 156 ∨ h.1 x0 = 157 ∨ h.1 x0 = 158) from (fun z => z.elim (fun z => absurd (z.symm.trans kx0) (by decide)) (fun z => z.elim (fun z => absurd (z.symm.trans kx0) (by decide)) (fun z => z.elim (fun z => absurd (z.symm.trans kx0) (by decide)) (fun z => z.elim (fun z => absurd (z.symm.trans kx0) (by decide)) (fun z => z.elim (fun z => absurd (z.symm.trans kx0) (by decide)) (fun z => z.elim (fun z => absurd (z.symm.trans kx0) (by decide)) (fun z => z.elim (fun z => absurd (z.symm.trans kx0) (by decide)) (fun z => z.elim (fun z => absurd (z.symm.trans kx0) (by decide)) (fun z => z.elim (fun z => absurd (z.symm.trans kx0) (by decide)) (fun z => z.elim (fun z => absurd (z.symm.trans kx0) (by decide)) (fun z => z.elim (fun z => absurd (z.symm.trans kx0) (by decide)) (fun z => z.elim (fun z => absurd (z.symm.trans kx0) (by decide)) (fun z => z.elim (fun z => absurd (z.symm.trans kx0) (by decide)) (fun z => z.elim (fun z => absurd (z.symm.trans kx0) (by decide)) (fun z => absurd (z.symm.trans kx0) (by decide))))))))))))))))) z9.1) 12).trans (hB_q_1)
  exact hcont _ _ (Or.inl rfl) ⟨⟨⟨hV_q_25, mN_q_25, by rw [← xm18, ← xm19]; exact mF_q_25, by rw [← xm17]; exact mU_q_25, by rw [← xm23, ← xm26, ← xm28, ← xm29]; exact mS_q_25, by rw [← xm40, ← xm41, ← xm44]; exact mL_q_25, z_36, fun k hk => by rw [show q_25.2.2.1 a0 = q_1.2.2.1 a0 from h2_q_25.2 a0 ha0 (fun z9 => absurd z9.2 (by omega)), show q_1.2.2.1 a0 = q.2.2.1 a0 from h2_q_1.2 a0 ha0 (fun z9 => absurd z9.2 (by omega))]; exact em k hk, by omega, by omega⟩, z_37, z_38, by rw [← xm1]; exact hT9, by rw [← xm44]; exact hR9⟩, uu, su, o0, ob, z_57, z_58, hdz.eq hR_uu hR_su, hu9, ⟨z_46, z_47⟩, hout9⟩
set_option maxHeartbeats 4000000 in
set_option maxRecDepth 100000 in
theorem lc6_725 (l : Launch) (hlst : l.stackTraces = false) {Z : Zt} (dC : Nat → ClassId) (dI : Nat → Nat → Nat) (h : Sh) (L : List Nat) (hN : sx_nd L) (B : BX dC dI h L 7 cL_law RL wsL_law Z) {b N : Nat} {xs : Nat → Int32} (hX : va_X b N xs Z.2.2.1 Z.2.2.1.heap) (hbl : b < Z.2.2.1.heap.size) (hbA : ¬ AL L Z.2.2.1.heap.size b) {x0 a0 ot t0 tb fa : Nat} (hfd : lc_fd h fa) {mm : Nat → Nat} (hx0 : x0 ∈ L) (kx0 : h.1 x0 = 11) (ha0 : a0 ∈ L) (ka0 : h.1 a0 = 12) (hot : ot ∈ L) (kot : h.1 ot = 200) (lot : h.2.1 ot = 1) {i : Int32} (hi0 : 0 ≤ i.toInt) (hi1 : i.toInt + 6 ≤ (N : Int)) (hN2 : N ≤ 3072) (hroom : (zl_more Z).2.2.2.2.2.2.2.2.2.1 ≤ room_1.cells ∧ (zl_more Z).2.2.2.2.2.2.2.2.2.2 ≤ room_1.slots) {q : Sg} (hI : lc_I8 h L x0 a0 t0 tb fa mm q) (hcont : ∀ (Z2 : Zt) (q2 : Sg), (Z2 = Z ∨ Z2 = zl_more Z) → lc_I8 h L x0 a0 t0 tb fa mm q2 → WA l dC dI h L room_1 7 Z2 q2 775 [(4, .int i), (3, .ref ot), (2, .ref a0), (1, .ref x0), (0, .ref b)] []) : WA l dC dI h L room_1 7 Z q 725 [(4, .int i), (3, .ref ot), (2, .ref a0), (1, .ref x0), (0, .ref b)] [] := by
  obtain ⟨hI, uu, su, o0, ob, euu, esu, hdz, hu0, ⟨eo0, eob⟩, hout0⟩ := hI
  obtain ⟨hI, etb, efa, hT0, hR0⟩ := hI
  obtain ⟨hV, mN, mF0, mU0, mS0, mL0, et0, em, hte, hfe⟩ := hI
  obtain ⟨ht0, kt0, lt0⟩ : t0 ∈ L ∧ h.1 t0 = 7 ∧ h.2.1 t0 = 1 := by obtain ⟨r9, e9, z1, z2, z3⟩ := hV.refn (t := 7) (n := 1) hx0 kx0 0 rfl (by decide) rfl (by decide); rw [← et0, e9]; exact ⟨z1, z2, z3⟩
  obtain ⟨m1, xm1⟩ : ∃ z, z = mm 1 := ⟨_, rfl⟩
  have em1 : q.2.2.1 a0 1 = m1 := by rw [xm1]; exact em 1 (by decide)
  obtain ⟨hm1, km1, lm1⟩ : m1 ∈ L ∧ h.1 m1 = 111 ∧ h.2.1 m1 = 440 := by obtain ⟨r9, e9, z1, z2, z3⟩ := hV.refn (t := 111) (n := 440) ha0 ka0 1 rfl (by decide) rfl (by decide); rw [← em1, e9]; exact ⟨z1, z2, z3⟩
  obtain ⟨m3, xm3⟩ : ∃ z, z = mm 3 := ⟨_, rfl⟩
  have em3 : q.2.2.1 a0 3 = m3 := by rw [xm3]; exact em 3 (by decide)
  obtain ⟨hm3, km3, lm3⟩ : m3 ∈ L ∧ h.1 m3 = 113 ∧ h.2.1 m3 = 500 := by obtain ⟨r9, e9, z1, z2, z3⟩ := hV.refn (t := 113) (n := 500) ha0 ka0 3 rfl (by decide) rfl (by decide); rw [← em3, e9]; exact ⟨z1, z2, z3⟩
  obtain ⟨m16, xm16⟩ : ∃ z, z = mm 16 := ⟨_, rfl⟩
  have em16 : q.2.2.1 a0 16 = m16 := by rw [xm16]; exact em 16 (by decide)
  obtain ⟨hm16, km16, lm16⟩ : m16 ∈ L ∧ h.1 m16 = 226 ∧ h.2.1 m16 = 6 := by obtain ⟨r9, e9, z1, z2, z3⟩ := hV.refn (t := 226) (n := 6) ha0 ka0 16 rfl (by decide) rfl (by decide); rw [← em16, e9]; exact ⟨z1, z2, z3⟩
  obtain ⟨m17, xm17⟩ : ∃ z, z = mm 17 := ⟨_, rfl⟩
  have em17 : q.2.2.1 a0 17 = m17 := by rw [xm17]; exact em 17 (by decide)
  obtain ⟨hm17, km17, lm17⟩ : m17 ∈ L ∧ h.1 m17 = 227 ∧ h.2.1 m17 = 30 := by obtain ⟨r9, e9, z1, z2, z3⟩ := hV.refn (t := 227) (n := 30) ha0 ka0 17 rfl (by decide) rfl (by decide); rw [← em17, e9]; exact ⟨z1, z2, z3⟩
  obtain ⟨m18, xm18⟩ : ∃ z, z = mm 18 := ⟨_, rfl⟩
  have em18 : q.2.2.1 a0 18 = m18 := by rw [xm18]; exact em 18 (by decide)
  obtain ⟨hm18, km18, lm18⟩ : m18 ∈ L ∧ h.1 m18 = 128 ∧ h.2.1 m18 = 6 := by obtain ⟨r9, e9, z1, z2, z3⟩ := hV.refn (t := 128) (n := 6) ha0 ka0 18 rfl (by decide) rfl (by decide); rw [← em18, e9]; exact ⟨z1, z2, z3⟩
  obtain ⟨m19, xm19⟩ : ∃ z, z = mm 19 := ⟨_, rfl⟩
  have em19 : q.2.2.1 a0 19 = m19 := by rw [xm19]; exact em 19 (by decide)
  obtain ⟨hm19, km19, lm19⟩ : m19 ∈ L ∧ h.1 m19 = 129 ∧ h.2.1 m19 = 30 := by obtain ⟨r9, e9, z1, z2, z3⟩ := hV.refn (t := 129) (n := 30) ha0 ka0 19 rfl (by decide) rfl (by decide); rw [← em19, e9]; exact ⟨z1, z2, z3⟩
  obtain ⟨m21, xm21⟩ : ∃ z, z = mm 21 := ⟨_, rfl⟩
  have em21 : q.2.2.1 a0 21 = m21 := by rw [xm21]; exact em 21 (by decide)
  obtain ⟨hm21, km21, lm21⟩ : m21 ∈ L ∧ h.1 m21 = 131 ∧ h.2.1 m21 = 80 := by obtain ⟨r9, e9, z1, z2, z3⟩ := hV.refn (t := 131) (n := 80) ha0 ka0 21 rfl (by decide) rfl (by decide); rw [← em21, e9]; exact ⟨z1, z2, z3⟩
  obtain ⟨m23, xm23⟩ : ∃ z, z = mm 23 := ⟨_, rfl⟩
  have em23 : q.2.2.1 a0 23 = m23 := by rw [xm23]; exact em 23 (by decide)
  obtain ⟨hm23, km23, lm23⟩ : m23 ∈ L ∧ h.1 m23 = 133 ∧ h.2.1 m23 = 9 := by obtain ⟨r9, e9, z1, z2, z3⟩ := hV.refn (t := 133) (n := 9) ha0 ka0 23 rfl (by decide) rfl (by decide); rw [← em23, e9]; exact ⟨z1, z2, z3⟩
  obtain ⟨m24, xm24⟩ : ∃ z, z = mm 24 := ⟨_, rfl⟩
  have em24 : q.2.2.1 a0 24 = m24 := by rw [xm24]; exact em 24 (by decide)
  obtain ⟨hm24, km24, lm24⟩ : m24 ∈ L ∧ h.1 m24 = 134 ∧ h.2.1 m24 = 108 := by obtain ⟨r9, e9, z1, z2, z3⟩ := hV.refn (t := 134) (n := 108) ha0 ka0 24 rfl (by decide) rfl (by decide); rw [← em24, e9]; exact ⟨z1, z2, z3⟩
  obtain ⟨m25, xm25⟩ : ∃ z, z = mm 25 := ⟨_, rfl⟩
  have em25 : q.2.2.1 a0 25 = m25 := by rw [xm25]; exact em 25 (by decide)
  obtain ⟨hm25, km25, lm25⟩ : m25 ∈ L ∧ h.1 m25 = 135 ∧ h.2.1 m25 = 108 := by obtain ⟨r9, e9, z1, z2, z3⟩ := hV.refn (t := 135) (n := 108) ha0 ka0 25 rfl (by decide) rfl (by decide); rw [← em25, e9]; exact ⟨z1, z2, z3⟩
  obtain ⟨m26, xm26⟩ : ∃ z, z = mm 26 := ⟨_, rfl⟩
  have em26 : q.2.2.1 a0 26 = m26 := by rw [xm26]; exact em 26 (by decide)
  obtain ⟨hm26, km26, lm26⟩ : m26 ∈ L ∧ h.1 m26 = 136 ∧ h.2.1 m26 = 108 := by obtain ⟨r9, e9, z1, z2, z3⟩ := hV.refn (t := 136) (n := 108) ha0 ka0 26 rfl (by decide) rfl (by decide); rw [← em26, e9]; exact ⟨z1, z2, z3⟩
  obtain ⟨m27, xm27⟩ : ∃ z, z = mm 27 := ⟨_, rfl⟩
  have em27 : q.2.2.1 a0 27 = m27 := by rw [xm27]; exact em 27 (by decide)
  obtain ⟨hm27, km27, lm27⟩ : m27 ∈ L ∧ h.1 m27 = 137 ∧ h.2.1 m27 = 9 := by obtain ⟨r9, e9, z1, z2, z3⟩ := hV.refn (t := 137) (n := 9) ha0 ka0 27 rfl (by decide) rfl (by decide); rw [← em27, e9]; exact ⟨z1, z2, z3⟩
  obtain ⟨m28, xm28⟩ : ∃ z, z = mm 28 := ⟨_, rfl⟩
  have em28 : q.2.2.1 a0 28 = m28 := by rw [xm28]; exact em 28 (by decide)
  obtain ⟨hm28, km28, lm28⟩ : m28 ∈ L ∧ h.1 m28 = 138 ∧ h.2.1 m28 = 540 := by obtain ⟨r9, e9, z1, z2, z3⟩ := hV.refn (t := 138) (n := 540) ha0 ka0 28 rfl (by decide) rfl (by decide); rw [← em28, e9]; exact ⟨z1, z2, z3⟩
  obtain ⟨m29, xm29⟩ : ∃ z, z = mm 29 := ⟨_, rfl⟩
  have em29 : q.2.2.1 a0 29 = m29 := by rw [xm29]; exact em 29 (by decide)
  obtain ⟨hm29, km29, lm29⟩ : m29 ∈ L ∧ h.1 m29 = 139 ∧ h.2.1 m29 = 540 := by obtain ⟨r9, e9, z1, z2, z3⟩ := hV.refn (t := 139) (n := 540) ha0 ka0 29 rfl (by decide) rfl (by decide); rw [← em29, e9]; exact ⟨z1, z2, z3⟩
  obtain ⟨m30, xm30⟩ : ∃ z, z = mm 30 := ⟨_, rfl⟩
  have em30 : q.2.2.1 a0 30 = m30 := by rw [xm30]; exact em 30 (by decide)
  obtain ⟨hm30, km30, lm30⟩ : m30 ∈ L ∧ h.1 m30 = 140 ∧ h.2.1 m30 = 540 := by obtain ⟨r9, e9, z1, z2, z3⟩ := hV.refn (t := 140) (n := 540) ha0 ka0 30 rfl (by decide) rfl (by decide); rw [← em30, e9]; exact ⟨z1, z2, z3⟩
  obtain ⟨m34, xm34⟩ : ∃ z, z = mm 34 := ⟨_, rfl⟩
  have em34 : q.2.2.1 a0 34 = m34 := by rw [xm34]; exact em 34 (by decide)
  obtain ⟨hm34, km34, lm34⟩ : m34 ∈ L ∧ h.1 m34 = 144 ∧ h.2.1 m34 = 4 := by obtain ⟨r9, e9, z1, z2, z3⟩ := hV.refn (t := 144) (n := 4) ha0 ka0 34 rfl (by decide) rfl (by decide); rw [← em34, e9]; exact ⟨z1, z2, z3⟩
  obtain ⟨m35, xm35⟩ : ∃ z, z = mm 35 := ⟨_, rfl⟩
  have em35 : q.2.2.1 a0 35 = m35 := by rw [xm35]; exact em 35 (by decide)
  obtain ⟨hm35, km35, lm35⟩ : m35 ∈ L ∧ h.1 m35 = 245 ∧ h.2.1 m35 = 12 := by obtain ⟨r9, e9, z1, z2, z3⟩ := hV.refn (t := 245) (n := 12) ha0 ka0 35 rfl (by decide) rfl (by decide); rw [← em35, e9]; exact ⟨z1, z2, z3⟩
  obtain ⟨m40, xm40⟩ : ∃ z, z = mm 40 := ⟨_, rfl⟩
  have em40 : q.2.2.1 a0 40 = m40 := by rw [xm40]; exact em 40 (by decide)
  obtain ⟨hm40, km40, lm40⟩ : m40 ∈ L ∧ h.1 m40 = 150 ∧ h.2.1 m40 = 2400 := by obtain ⟨r9, e9, z1, z2, z3⟩ := hV.refn (t := 150) (n := 2400) ha0 ka0 40 rfl (by decide) rfl (by decide); rw [← em40, e9]; exact ⟨z1, z2, z3⟩
  obtain ⟨m41, xm41⟩ : ∃ z, z = mm 41 := ⟨_, rfl⟩
  have em41 : q.2.2.1 a0 41 = m41 := by rw [xm41]; exact em 41 (by decide)
  obtain ⟨hm41, km41, lm41⟩ : m41 ∈ L ∧ h.1 m41 = 151 ∧ h.2.1 m41 = 12 := by obtain ⟨r9, e9, z1, z2, z3⟩ := hV.refn (t := 151) (n := 12) ha0 ka0 41 rfl (by decide) rfl (by decide); rw [← em41, e9]; exact ⟨z1, z2, z3⟩
  obtain ⟨m42, xm42⟩ : ∃ z, z = mm 42 := ⟨_, rfl⟩
  have em42 : q.2.2.1 a0 42 = m42 := by rw [xm42]; exact em 42 (by decide)
  obtain ⟨hm42, km42, lm42⟩ : m42 ∈ L ∧ h.1 m42 = 152 ∧ h.2.1 m42 = 12 := by obtain ⟨r9, e9, z1, z2, z3⟩ := hV.refn (t := 152) (n := 12) ha0 ka0 42 rfl (by decide) rfl (by decide); rw [← em42, e9]; exact ⟨z1, z2, z3⟩
  obtain ⟨m43, xm43⟩ : ∃ z, z = mm 43 := ⟨_, rfl⟩
  have em43 : q.2.2.1 a0 43 = m43 := by rw [xm43]; exact em 43 (by decide)
  obtain ⟨hm43, km43, lm43⟩ : m43 ∈ L ∧ h.1 m43 = 153 ∧ h.2.1 m43 = 12 := by obtain ⟨r9, e9, z1, z2, z3⟩ := hV.refn (t := 153) (n := 12) ha0 ka0 43 rfl (by decide) rfl (by decide); rw [← em43, e9]; exact ⟨z1, z2, z3⟩
  obtain ⟨m44, xm44⟩ : ∃ z, z = mm 44 := ⟨_, rfl⟩
  have em44 : q.2.2.1 a0 44 = m44 := by rw [xm44]; exact em 44 (by decide)
  obtain ⟨hm44, km44, lm44⟩ : m44 ∈ L ∧ h.1 m44 = 154 ∧ h.2.1 m44 = 12 := by obtain ⟨r9, e9, z1, z2, z3⟩ := hV.refn (t := 154) (n := 12) ha0 ka0 44 rfl (by decide) rfl (by decide); rw [← em44, e9]; exact ⟨z1, z2, z3⟩
  obtain ⟨m46, xm46⟩ : ∃ z, z = mm 46 := ⟨_, rfl⟩
  have em46 : q.2.2.1 a0 46 = m46 := by rw [xm46]; exact em 46 (by decide)
  obtain ⟨hm46, km46, lm46⟩ : m46 ∈ L ∧ h.1 m46 = 156 ∧ h.2.1 m46 = 144 := by obtain ⟨r9, e9, z1, z2, z3⟩ := hV.refn (t := 156) (n := 144) ha0 ka0 46 rfl (by decide) rfl (by decide); rw [← em46, e9]; exact ⟨z1, z2, z3⟩
  obtain ⟨m47, xm47⟩ : ∃ z, z = mm 47 := ⟨_, rfl⟩
  have em47 : q.2.2.1 a0 47 = m47 := by rw [xm47]; exact em 47 (by decide)
  obtain ⟨hm47, km47, lm47⟩ : m47 ∈ L ∧ h.1 m47 = 157 ∧ h.2.1 m47 = 4096 := by obtain ⟨r9, e9, z1, z2, z3⟩ := hV.refn (t := 157) (n := 4096) ha0 ka0 47 rfl (by decide) rfl (by decide); rw [← em47, e9]; exact ⟨z1, z2, z3⟩
  obtain ⟨m48, xm48⟩ : ∃ z, z = mm 48 := ⟨_, rfl⟩
  have em48 : q.2.2.1 a0 48 = m48 := by rw [xm48]; exact em 48 (by decide)
  obtain ⟨hm48, km48, lm48⟩ : m48 ∈ L ∧ h.1 m48 = 158 ∧ h.2.1 m48 = 12 := by obtain ⟨r9, e9, z1, z2, z3⟩ := hV.refn (t := 158) (n := 12) ha0 ka0 48 rfl (by decide) rfl (by decide); rw [← em48, e9]; exact ⟨z1, z2, z3⟩
  have mF : mv_F m18 m19 q := by rw [xm18, xm19]; exact mF0
  have mU : mv_U m17 q := by rw [xm17]; exact mU0
  have mS : mv_S m23 m26 m28 m29 q := by rw [xm23, xm26, xm28, xm29]; exact mS0
  have mL : mv_L m40 m41 m44 a0 q := by rw [xm40, xm41, xm44]; exact mL0
  have hF : sx_fr h L (fun _ => True) q q := sx_fr.rf
  obtain ⟨htb, ktb, ltb⟩ : tb ∈ L ∧ h.1 tb = 300 ∧ h.2.1 tb = 440 := by obtain ⟨r9, e9, z1, z2, z3⟩ := hV.refn (t := 300) (n := 440) ht0 kt0 0 rfl (by decide) (by rw [lt0]; rfl) (by decide); rw [← etb, e9]; exact ⟨z1, z2, z3⟩
  obtain ⟨hfa, kfa, lfa⟩ : fa ∈ L ∧ h.1 fa = 403 ∧ h.2.1 fa = 12 := by obtain ⟨r9, e9, z1, z2, z3⟩ := hV.refn (t := 403) (n := 12) hx0 kx0 9 rfl (by decide) rfl (by decide); rw [← efa, e9]; exact ⟨z1, z2, z3⟩
  have hT : ty_T (q.2.2.2.1 tb) (q.2.2.2.1 m1) (q.1 t0 1).toInt.toNat := by rw [xm1]; exact hT0
  have hR : lc_R h fa m44 x0 q := by rw [xm44]; exact hR0
  have gx14 : (0 : Int) ≤ (q.1 x0 14).toInt ∧ (q.1 x0 14).toInt ≤ 12 := hV.int hx0 kx0 14
  have gt1 : (0 : Int) ≤ (q.1 t0 1).toInt ∧ (q.1 t0 1).toInt ≤ 440 := by have z9 := hV.int ht0 kt0 1; rw [etb, ltb] at z9; exact z9
  obtain ⟨huu, kuu⟩ : uu ∈ L ∧ h.1 uu = 9 := by obtain ⟨r9, e9, z1, z2⟩ := hV.ref (t := 9) hx0 kx0 11 rfl (by decide); rw [← euu, e9]; exact ⟨z1, z2⟩
  obtain ⟨hsu, ksu⟩ : su ∈ L ∧ h.1 su = 9 := by obtain ⟨r9, e9, z1, z2⟩ := hV.ref (t := 9) hx0 kx0 12 rfl (by decide); rw [← esu, e9]; exact ⟨z1, z2⟩
  have nuu_su : ¬ uu = su := hdz.1
  obtain ⟨uc, euc⟩ : ∃ z, q.2.2.1 uu 1 = z := ⟨_, rfl⟩
  obtain ⟨huc, kuc, luc⟩ : uc ∈ L ∧ h.1 uc = 101 ∧ h.2.1 uc = 3 := by obtain ⟨r9, e9, z1, z2, z3⟩ := hV.refn (t := 101) (n := 3) huu kuu 1 rfl (by decide) rfl (by decide); rw [← euc, e9]; exact ⟨z1, z2, z3⟩
  obtain ⟨un, eun⟩ : ∃ z, q.2.2.1 uu 2 = z := ⟨_, rfl⟩
  obtain ⟨hun, kun, lun⟩ : un ∈ L ∧ h.1 un = 202 ∧ h.2.1 un = 15 := by obtain ⟨r9, e9, z1, z2, z3⟩ := hV.refn (t := 202) (n := 15) huu kuu 2 rfl (by decide) rfl (by decide); rw [← eun, e9]; exact ⟨z1, z2, z3⟩
  obtain ⟨uf, euf⟩ : ∃ z, q.2.2.1 uu 3 = z := ⟨_, rfl⟩
  obtain ⟨huf, kuf, luf⟩ : uf ∈ L ∧ h.1 uf = 102 ∧ h.2.1 uf = 15 := by obtain ⟨r9, e9, z1, z2, z3⟩ := hV.refn (t := 102) (n := 15) huu kuu 3 rfl (by decide) rfl (by decide); rw [← euf, e9]; exact ⟨z1, z2, z3⟩
  obtain ⟨uw, euw⟩ : ∃ z, q.2.2.1 uu 4 = z := ⟨_, rfl⟩
  obtain ⟨huw, kuw, luw⟩ : uw ∈ L ∧ h.1 uw = 103 ∧ h.2.1 uw = 15 := by obtain ⟨r9, e9, z1, z2, z3⟩ := hV.refn (t := 103) (n := 15) huu kuu 4 rfl (by decide) rfl (by decide); rw [← euw, e9]; exact ⟨z1, z2, z3⟩
  have hu : lc_u8 (q.1 uu 6) (q.1 a0 20) (q.2.2.2.1 uc) (q.2.2.2.1 m18) (q.2.2.2.1 uf) (q.2.2.2.1 m19) (q.2.2.2.1 uw) (q.2.2.2.2 un) (q.2.2.2.2 m17) := by rw [← euc, ← euf, ← euw, ← eun, xm17, xm18, xm19]; exact hu0
  obtain ⟨ho0, ko0, lo0⟩ : o0 ∈ L ∧ h.1 o0 = 7 ∧ h.2.1 o0 = 2 := by obtain ⟨r9, e9, z1, z2, z3⟩ := hV.refn (t := 7) (n := 2) hx0 kx0 1 rfl (by decide) rfl (by decide); rw [← eo0, e9]; exact ⟨z1, z2, z3⟩
  obtain ⟨hob, kob, lob⟩ : ob ∈ L ∧ h.1 ob = 300 ∧ h.2.1 ob = 59 := by obtain ⟨r9, e9, z1, z2, z3⟩ := hV.refn (t := 300) (n := 59) ho0 ko0 0 rfl (by decide) (by rw [lo0]; rfl) (by decide); rw [← eob, e9]; exact ⟨z1, z2, z3⟩
  have nt0_o0 : ¬ t0 = o0 := fun z9 => absurd (z9 ▸ lt0 : h.2.1 o0 = 1) (by rw [lo0]; decide)
  have ntb_ob : ¬ tb = ob := fun z9 => absurd (z9 ▸ ltb : h.2.1 ob = 440) (by rw [lob]; decide)
  have hout : lc_o (q.1 o0 1) (q.1 a0 22) (q.2.2.2.1 ob) (q.2.2.2.1 m21) := by rw [xm21]; exact hout0
  refine wa_aload_n B dL_law_725 rfl 3 rfl ?_
  refine wa_aload_n B dL_law_726 rfl 4 rfl ?_
  refine wa_iload B dL_law_727 0 rfl ?_
  refine wa_iconst B 1 dL_law_729 (by decide) ?_
  refine wa_iadd B dL_law_730 (fun v_1 ev_1 => ?_)
  subst ev_1
  have t_2 : (i + 1).toInt = i.toInt + 1 := by have b0 := zx_bd i; exact zx_add (show (-2147483648 : Int) ≤ i.toInt + 1 by omega) (show i.toInt + 1 < (2147483648 : Int) by omega)
  refine wa_sld B hX hbl hbA (i := (i + 1)) (show 0 ≤ (i + 1).toInt by omega) (show (i + 1).toInt < (N : Int) by omega) dL_law_731 ?_
  refine wa_callVi B (x := (RX11, TX11, 16)) (As := [.int ((xs ((i + 1) : Int32).toNatClampNeg))]) (rest := []) (k_X11_matched l dC dI h L hN q hV (a0 := x0) hx0 kx0 ((xs ((i + 1) : Int32).toNatClampNeg))  ) (cwV 1 B.1.2.2.2.2 gL_law_X11_matched rfl rfl rfl (by decide +kernel) ⟨Nat.le_of_ble_eq_true rfl, Nat.le_of_ble_eq_true rfl⟩) hx0 kx0 (by decide) rfl rfl rfl (Nat.le_of_ble_eq_true rfl) dL_law_732 (fun r_4 q_3 w_5 => ?_)
  subst w_5
  refine wa_pop B dL_law_735 rfl ?_
  refine wa_aload_n B dL_law_736 rfl 2 rfl ?_
  refine wa_aload_n B dL_law_737 rfl 4 rfl ?_
  refine wa_iload B dL_law_738 0 rfl ?_
  refine wa_iconst B 1 dL_law_740 (by decide) ?_
  refine wa_iadd B dL_law_741 (fun v_6 ev_6 => ?_)
  subst ev_6
  refine wa_sld B hX hbl hbA (i := (i + 1)) (show 0 ≤ (i + 1).toInt by omega) (show (i + 1).toInt < (N : Int) by omega) dL_law_742 ?_
  refine wa_callVi B (x := (RX12, TX12, 51)) (As := [.int ((xs ((i + 1) : Int32).toNatClampNeg))]) (rest := []) (k_X12_matched l dC dI h L hN q hV (a0 := a0) ha0 ka0 ((xs ((i + 1) : Int32).toNatClampNeg))  ) (cwV 1 B.1.2.2.2.2 gL_law_X12_matched rfl rfl rfl (by decide +kernel) ⟨Nat.le_of_ble_eq_true rfl, Nat.le_of_ble_eq_true rfl⟩) ha0 ka0 (by decide) rfl rfl rfl (Nat.le_of_ble_eq_true rfl) dL_law_743 (fun r_8 q_7 w_9 => ?_)
  obtain ⟨hV_q_7, h2_q_7, h3_q_7⟩ := w_9
  have mN_q_7 : mv_N a0 q_7 := mv_N.eq (h3_q_7.1 8 (by decide)) (h3_q_7.2 11 (by decide)) mN
  have mF_q_7 : mv_F m18 m19 q_7 := mv_F.eq (h2_q_7.G hm18 (show ¬ (h.1 m18 = 12) from (fun z => absurd (z.symm.trans km18) (by decide))) (by rw [km18]; decide)) (h2_q_7.G hm19 (show ¬ (h.1 m19 = 12) from (fun z => absurd (z.symm.trans km19) (by decide))) (by rw [km19]; decide)) mF
  have mU_q_7 : mv_U m17 q_7 := mv_U.eq (h2_q_7.Lg hm17 (show ¬ (h.1 m17 = 12) from (fun z => absurd (z.symm.trans km17) (by decide))) (by rw [km17]; decide)) mU
  have mS_q_7 : mv_S m23 m26 m28 m29 q_7 := mv_S.eq (h2_q_7.G hm23 (show ¬ (h.1 m23 = 12) from (fun z => absurd (z.symm.trans km23) (by decide))) (by rw [km23]; decide)) (h2_q_7.G hm26 (show ¬ (h.1 m26 = 12) from (fun z => absurd (z.symm.trans km26) (by decide))) (by rw [km26]; decide)) (h2_q_7.G hm28 (show ¬ (h.1 m28 = 12) from (fun z => absurd (z.symm.trans km28) (by decide))) (by rw [km28]; decide)) (h2_q_7.G hm29 (show ¬ (h.1 m29 = 12) from (fun z => absurd (z.symm.trans km29) (by decide))) (by rw [km29]; decide)) mS
  have mL_q_7 : mv_L m40 m41 m44 a0 q_7 := mv_L.eq (h2_q_7.G hm40 (show ¬ (h.1 m40 = 12) from (fun z => absurd (z.symm.trans km40) (by decide))) (by rw [km40]; decide)) (h2_q_7.G hm41 (show ¬ (h.1 m41 = 12) from (fun z => absurd (z.symm.trans km41) (by decide))) (by rw [km41]; decide)) (h2_q_7.G hm44 (show ¬ (h.1 m44 = 12) from (fun z => absurd (z.symm.trans km44) (by decide))) (by rw [km44]; decide)) (h3_q_7.1 45 (by decide)) mL
  refine wa_pop B dL_law_746 rfl ?_
  refine wa_goto B 775 dL_law_747 (by decide) ?_
  have z_10 : q_7.1 a0 2 = q.1 a0 2 := h3_q_7.1 2 (by decide)
  have y_11 : (q_7.1 a0 2).toInt = (q.1 a0 2).toInt := by rw [z_10]
  have z_12 : q_7.1 a0 45 = q.1 a0 45 := h3_q_7.1 45 (by decide)
  have y_13 : (q_7.1 a0 45).toInt = (q.1 a0 45).toInt := by rw [z_12]
  have z_14 : q_7.1 t0 1 = q.1 t0 1 := h2_q_7.I ht0 (show ¬ (h.1 t0 = 12) from (fun z => absurd (z.symm.trans kt0) (by decide))) 1
  have y_15 : (q_7.1 t0 1).toInt = (q.1 t0 1).toInt := by rw [z_14]
  have z_16 : q_7.1 x0 14 = q.1 x0 14 := h2_q_7.I hx0 (show ¬ (h.1 x0 = 12) from (fun z => absurd (z.symm.trans kx0) (by decide))) 14
  have y_17 : (q_7.1 x0 14).toInt = (q.1 x0 14).toInt := by rw [z_16]
  have z_18 : q_7.2.2.1 x0 0 = t0 := (h2_q_7.R hx0 (show ¬ ((h.1 x0 = 12) ∧ (h.1 x0 = 8 ∨ h.1 x0 = 11)) from fun z9 => (show ¬ (h.1 x0 = 12) from (fun z => absurd (z.symm.trans kx0) (by decide))) z9.1) 0).trans (et0)
  have z_19 : q_7.2.2.1 t0 0 = tb := (h2_q_7.R ht0 (fun z9 => absurd z9.2 (by omega)) 0).trans (etb)
  have z_20 : q_7.2.2.1 x0 9 = fa := (h2_q_7.R hx0 (show ¬ ((h.1 x0 = 12) ∧ (h.1 x0 = 8 ∨ h.1 x0 = 11)) from fun z9 => (show ¬ (h.1 x0 = 12) from (fun z => absurd (z.symm.trans kx0) (by decide))) z9.1) 9).trans (efa)
  have z_21 : q_7.2.2.2.1 tb = q.2.2.2.1 tb := h2_q_7.G htb (show ¬ (h.1 tb = 12) from (fun z => absurd (z.symm.trans ktb) (by decide))) (by rw [ktb]; decide)
  have z_22 : q_7.2.2.2.1 m1 = q.2.2.2.1 m1 := h2_q_7.G hm1 (show ¬ (h.1 m1 = 12) from (fun z => absurd (z.symm.trans km1) (by decide))) (by rw [km1]; decide)
  have hT9 : ty_T (q_7.2.2.2.1 tb) (q_7.2.2.2.1 m1) (q_7.1 t0 1).toInt.toNat := by rw [z_21, z_22]; exact hT.le (by omega)
  have z_23 : q_7.2.2.2.1 m44 = q.2.2.2.1 m44 := h2_q_7.G hm44 (show ¬ (h.1 m44 = 12) from (fun z => absurd (z.symm.trans km44) (by decide))) (by rw [km44]; decide)
  have hR9 : lc_R h fa m44 x0 q_7 := by
    intro f hf
    obtain ⟨e9, ee9, he9, ke9⟩ := hV.elem (t := 0) hfa kfa (by decide) rfl (j := f) (by omega)
    rw [ee9, show q_7.1 e9 3 = q.1 e9 3 from h2_q_7.I he9 (show ¬ (h.1 e9 = 12) from by omega) 3, ← ee9, z_23]
    exact hR f (by omega)
  have hR_uu : q_7.2.2.1 uu = q.2.2.1 uu := by rw [show q_7.2.2.1 uu = q.2.2.1 uu from h2_q_7.2 uu huu (fun z9 => absurd z9.2 (by rw [kuu]; decide))]
  have hR_su : q_7.2.2.1 su = q.2.2.1 su := by rw [show q_7.2.2.1 su = q.2.2.1 su from h2_q_7.2 su hsu (fun z9 => absurd z9.2 (by rw [ksu]; decide))]
  have z_24 : q_7.1 o0 1 = q.1 o0 1 := h2_q_7.I ho0 (show ¬ (h.1 o0 = 12) from (fun z => absurd (z.symm.trans ko0) (by decide))) 1
  have z_25 : q_7.1 a0 22 = q.1 a0 22 := h3_q_7.1 22 (by decide)
  have z_26 : q_7.2.2.2.1 ob = q.2.2.2.1 ob := h2_q_7.G hob (show ¬ (h.1 ob = 12) from (fun z => absurd (z.symm.trans kob) (by decide))) (by rw [kob]; decide)
  have z_27 : q_7.2.2.2.1 m21 = q.2.2.2.1 m21 := h2_q_7.G hm21 (show ¬ (h.1 m21 = 12) from (fun z => absurd (z.symm.trans km21) (by decide))) (by rw [km21]; decide)
  have hout9 : lc_o (q_7.1 o0 1) (q_7.1 a0 22) (q_7.2.2.2.1 ob) (q_7.2.2.2.1 (mm 21)) := by rw [← xm21, z_24, z_25, z_26, z_27]; exact hout
  have z_28 : q_7.2.2.1 x0 1 = o0 := (h2_q_7.R hx0 (show ¬ ((h.1 x0 = 12) ∧ (h.1 x0 = 8 ∨ h.1 x0 = 11)) from fun z9 => (show ¬ (h.1 x0 = 12) from (fun z => absurd (z.symm.trans kx0) (by decide))) z9.1) 1).trans (eo0)
  have z_29 : q_7.2.2.1 o0 0 = ob := (h2_q_7.R ho0 (fun z9 => absurd z9.2 (by omega)) 0).trans (eob)
  have z_30 : q_7.1 uu 6 = q.1 uu 6 := h2_q_7.I huu (show ¬ (h.1 uu = 12) from (fun z => absurd (z.symm.trans kuu) (by decide))) 6
  have z_31 : q_7.1 a0 20 = q.1 a0 20 := h3_q_7.1 20 (by decide)
  have z_32 : q_7.2.2.2.1 uc = q.2.2.2.1 uc := h2_q_7.G huc (show ¬ (h.1 uc = 12) from (fun z => absurd (z.symm.trans kuc) (by decide))) (by rw [kuc]; decide)
  have z_33 : q_7.2.2.2.1 m18 = q.2.2.2.1 m18 := h2_q_7.G hm18 (show ¬ (h.1 m18 = 12) from (fun z => absurd (z.symm.trans km18) (by decide))) (by rw [km18]; decide)
  have z_34 : q_7.2.2.2.1 uf = q.2.2.2.1 uf := h2_q_7.G huf (show ¬ (h.1 uf = 12) from (fun z => absurd (z.symm.trans kuf) (by decide))) (by rw [kuf]; decide)
  have z_35 : q_7.2.2.2.1 m19 = q.2.2.2.1 m19 := h2_q_7.G hm19 (show ¬ (h.1 m19 = 12) from (fun z => absurd (z.symm.trans km19) (by decide))) (by rw [km19]; decide)
  have z_36 : q_7.2.2.2.1 uw = q.2.2.2.1 uw := h2_q_7.G huw (show ¬ (h.1 uw = 12) from (fun z => absurd (z.symm.trans kuw) (by decide))) (by rw [kuw]; decide)
  have z_37 : q_7.2.2.2.2 un = q.2.2.2.2 un := h2_q_7.Lg hun (show ¬ (h.1 un = 12) from (fun z => absurd (z.symm.trans kun) (by decide))) (by rw [kun]; decide)
  have z_38 : q_7.2.2.2.2 m17 = q.2.2.2.2 m17 := h2_q_7.Lg hm17 (show ¬ (h.1 m17 = 12) from (fun z => absurd (z.symm.trans km17) (by decide))) (by rw [km17]; decide)
  have hu9 : lc_uq8 q_7 a0 uu (mm 17) (mm 18) (mm 19) := by unfold lc_uq8; rw [← xm17, ← xm18, ← xm19, hR_uu, euc, euf, euw, eun, z_30, z_31, z_32, z_33, z_34, z_35, z_36, z_37, z_38]; exact hu
  have z_39 : q_7.2.2.1 x0 11 = uu := (h2_q_7.R hx0 (show ¬ ((h.1 x0 = 12) ∧ (h.1 x0 = 8 ∨ h.1 x0 = 11)) from fun z9 => (show ¬ (h.1 x0 = 12) from (fun z => absurd (z.symm.trans kx0) (by decide))) z9.1) 11).trans (euu)
  have z_40 : q_7.2.2.1 x0 12 = su := (h2_q_7.R hx0 (show ¬ ((h.1 x0 = 12) ∧ (h.1 x0 = 8 ∨ h.1 x0 = 11)) from fun z9 => (show ¬ (h.1 x0 = 12) from (fun z => absurd (z.symm.trans kx0) (by decide))) z9.1) 12).trans (esu)
  exact hcont _ _ (Or.inl rfl) ⟨⟨⟨hV_q_7, mN_q_7, by rw [← xm18, ← xm19]; exact mF_q_7, by rw [← xm17]; exact mU_q_7, by rw [← xm23, ← xm26, ← xm28, ← xm29]; exact mS_q_7, by rw [← xm40, ← xm41, ← xm44]; exact mL_q_7, z_18, fun k hk => by rw [show q_7.2.2.1 a0 = q.2.2.1 a0 from h2_q_7.2 a0 ha0 (fun z9 => absurd z9.2 (by omega))]; exact em k hk, by omega, by omega⟩, z_19, z_20, by rw [← xm1]; exact hT9, by rw [← xm44]; exact hR9⟩, uu, su, o0, ob, z_39, z_40, hdz.eq hR_uu hR_su, hu9, ⟨z_28, z_29⟩, hout9⟩
set_option maxHeartbeats 4000000 in
set_option maxRecDepth 100000 in
theorem lc6_750 (l : Launch) (hlst : l.stackTraces = false) {Z : Zt} (dC : Nat → ClassId) (dI : Nat → Nat → Nat) (h : Sh) (L : List Nat) (hN : sx_nd L) (B : BX dC dI h L 7 cL_law RL wsL_law Z) {b N : Nat} {xs : Nat → Int32} (hX : va_X b N xs Z.2.2.1 Z.2.2.1.heap) (hbl : b < Z.2.2.1.heap.size) (hbA : ¬ AL L Z.2.2.1.heap.size b) {x0 a0 ot t0 tb fa : Nat} (hfd : lc_fd h fa) {mm : Nat → Nat} (hx0 : x0 ∈ L) (kx0 : h.1 x0 = 11) (ha0 : a0 ∈ L) (ka0 : h.1 a0 = 12) (hot : ot ∈ L) (kot : h.1 ot = 200) (lot : h.2.1 ot = 1) {i : Int32} (hi0 : 0 ≤ i.toInt) (hi1 : i.toInt + 6 ≤ (N : Int)) (hN2 : N ≤ 3072) (hroom : (zl_more Z).2.2.2.2.2.2.2.2.2.1 ≤ room_1.cells ∧ (zl_more Z).2.2.2.2.2.2.2.2.2.2 ≤ room_1.slots) {q : Sg} (hI : lc_I8 h L x0 a0 t0 tb fa mm q) (hcont : ∀ (Z2 : Zt) (q2 : Sg), (Z2 = Z ∨ Z2 = zl_more Z) → lc_I8 h L x0 a0 t0 tb fa mm q2 → WA l dC dI h L room_1 7 Z2 q2 775 [(4, .int i), (3, .ref ot), (2, .ref a0), (1, .ref x0), (0, .ref b)] []) : WA l dC dI h L room_1 7 Z q 750 [(4, .int i), (3, .ref ot), (2, .ref a0), (1, .ref x0), (0, .ref b)] [] := by
  obtain ⟨hI, uu, su, o0, ob, euu, esu, hdz, hu0, ⟨eo0, eob⟩, hout0⟩ := hI
  obtain ⟨hI, etb, efa, hT0, hR0⟩ := hI
  obtain ⟨hV, mN, mF0, mU0, mS0, mL0, et0, em, hte, hfe⟩ := hI
  obtain ⟨ht0, kt0, lt0⟩ : t0 ∈ L ∧ h.1 t0 = 7 ∧ h.2.1 t0 = 1 := by obtain ⟨r9, e9, z1, z2, z3⟩ := hV.refn (t := 7) (n := 1) hx0 kx0 0 rfl (by decide) rfl (by decide); rw [← et0, e9]; exact ⟨z1, z2, z3⟩
  obtain ⟨m1, xm1⟩ : ∃ z, z = mm 1 := ⟨_, rfl⟩
  have em1 : q.2.2.1 a0 1 = m1 := by rw [xm1]; exact em 1 (by decide)
  obtain ⟨hm1, km1, lm1⟩ : m1 ∈ L ∧ h.1 m1 = 111 ∧ h.2.1 m1 = 440 := by obtain ⟨r9, e9, z1, z2, z3⟩ := hV.refn (t := 111) (n := 440) ha0 ka0 1 rfl (by decide) rfl (by decide); rw [← em1, e9]; exact ⟨z1, z2, z3⟩
  obtain ⟨m3, xm3⟩ : ∃ z, z = mm 3 := ⟨_, rfl⟩
  have em3 : q.2.2.1 a0 3 = m3 := by rw [xm3]; exact em 3 (by decide)
  obtain ⟨hm3, km3, lm3⟩ : m3 ∈ L ∧ h.1 m3 = 113 ∧ h.2.1 m3 = 500 := by obtain ⟨r9, e9, z1, z2, z3⟩ := hV.refn (t := 113) (n := 500) ha0 ka0 3 rfl (by decide) rfl (by decide); rw [← em3, e9]; exact ⟨z1, z2, z3⟩
  obtain ⟨m16, xm16⟩ : ∃ z, z = mm 16 := ⟨_, rfl⟩
  have em16 : q.2.2.1 a0 16 = m16 := by rw [xm16]; exact em 16 (by decide)
  obtain ⟨hm16, km16, lm16⟩ : m16 ∈ L ∧ h.1 m16 = 226 ∧ h.2.1 m16 = 6 := by obtain ⟨r9, e9, z1, z2, z3⟩ := hV.refn (t := 226) (n := 6) ha0 ka0 16 rfl (by decide) rfl (by decide); rw [← em16, e9]; exact ⟨z1, z2, z3⟩
  obtain ⟨m17, xm17⟩ : ∃ z, z = mm 17 := ⟨_, rfl⟩
  have em17 : q.2.2.1 a0 17 = m17 := by rw [xm17]; exact em 17 (by decide)
  obtain ⟨hm17, km17, lm17⟩ : m17 ∈ L ∧ h.1 m17 = 227 ∧ h.2.1 m17 = 30 := by obtain ⟨r9, e9, z1, z2, z3⟩ := hV.refn (t := 227) (n := 30) ha0 ka0 17 rfl (by decide) rfl (by decide); rw [← em17, e9]; exact ⟨z1, z2, z3⟩
  obtain ⟨m18, xm18⟩ : ∃ z, z = mm 18 := ⟨_, rfl⟩
  have em18 : q.2.2.1 a0 18 = m18 := by rw [xm18]; exact em 18 (by decide)
  obtain ⟨hm18, km18, lm18⟩ : m18 ∈ L ∧ h.1 m18 = 128 ∧ h.2.1 m18 = 6 := by obtain ⟨r9, e9, z1, z2, z3⟩ := hV.refn (t := 128) (n := 6) ha0 ka0 18 rfl (by decide) rfl (by decide); rw [← em18, e9]; exact ⟨z1, z2, z3⟩
  obtain ⟨m19, xm19⟩ : ∃ z, z = mm 19 := ⟨_, rfl⟩
  have em19 : q.2.2.1 a0 19 = m19 := by rw [xm19]; exact em 19 (by decide)
  obtain ⟨hm19, km19, lm19⟩ : m19 ∈ L ∧ h.1 m19 = 129 ∧ h.2.1 m19 = 30 := by obtain ⟨r9, e9, z1, z2, z3⟩ := hV.refn (t := 129) (n := 30) ha0 ka0 19 rfl (by decide) rfl (by decide); rw [← em19, e9]; exact ⟨z1, z2, z3⟩
  obtain ⟨m21, xm21⟩ : ∃ z, z = mm 21 := ⟨_, rfl⟩
  have em21 : q.2.2.1 a0 21 = m21 := by rw [xm21]; exact em 21 (by decide)
  obtain ⟨hm21, km21, lm21⟩ : m21 ∈ L ∧ h.1 m21 = 131 ∧ h.2.1 m21 = 80 := by obtain ⟨r9, e9, z1, z2, z3⟩ := hV.refn (t := 131) (n := 80) ha0 ka0 21 rfl (by decide) rfl (by decide); rw [← em21, e9]; exact ⟨z1, z2, z3⟩
  obtain ⟨m23, xm23⟩ : ∃ z, z = mm 23 := ⟨_, rfl⟩
  have em23 : q.2.2.1 a0 23 = m23 := by rw [xm23]; exact em 23 (by decide)
  obtain ⟨hm23, km23, lm23⟩ : m23 ∈ L ∧ h.1 m23 = 133 ∧ h.2.1 m23 = 9 := by obtain ⟨r9, e9, z1, z2, z3⟩ := hV.refn (t := 133) (n := 9) ha0 ka0 23 rfl (by decide) rfl (by decide); rw [← em23, e9]; exact ⟨z1, z2, z3⟩
  obtain ⟨m24, xm24⟩ : ∃ z, z = mm 24 := ⟨_, rfl⟩
  have em24 : q.2.2.1 a0 24 = m24 := by rw [xm24]; exact em 24 (by decide)
  obtain ⟨hm24, km24, lm24⟩ : m24 ∈ L ∧ h.1 m24 = 134 ∧ h.2.1 m24 = 108 := by obtain ⟨r9, e9, z1, z2, z3⟩ := hV.refn (t := 134) (n := 108) ha0 ka0 24 rfl (by decide) rfl (by decide); rw [← em24, e9]; exact ⟨z1, z2, z3⟩
  obtain ⟨m25, xm25⟩ : ∃ z, z = mm 25 := ⟨_, rfl⟩
  have em25 : q.2.2.1 a0 25 = m25 := by rw [xm25]; exact em 25 (by decide)
  obtain ⟨hm25, km25, lm25⟩ : m25 ∈ L ∧ h.1 m25 = 135 ∧ h.2.1 m25 = 108 := by obtain ⟨r9, e9, z1, z2, z3⟩ := hV.refn (t := 135) (n := 108) ha0 ka0 25 rfl (by decide) rfl (by decide); rw [← em25, e9]; exact ⟨z1, z2, z3⟩
  obtain ⟨m26, xm26⟩ : ∃ z, z = mm 26 := ⟨_, rfl⟩
  have em26 : q.2.2.1 a0 26 = m26 := by rw [xm26]; exact em 26 (by decide)
  obtain ⟨hm26, km26, lm26⟩ : m26 ∈ L ∧ h.1 m26 = 136 ∧ h.2.1 m26 = 108 := by obtain ⟨r9, e9, z1, z2, z3⟩ := hV.refn (t := 136) (n := 108) ha0 ka0 26 rfl (by decide) rfl (by decide); rw [← em26, e9]; exact ⟨z1, z2, z3⟩
  obtain ⟨m27, xm27⟩ : ∃ z, z = mm 27 := ⟨_, rfl⟩
  have em27 : q.2.2.1 a0 27 = m27 := by rw [xm27]; exact em 27 (by decide)
  obtain ⟨hm27, km27, lm27⟩ : m27 ∈ L ∧ h.1 m27 = 137 ∧ h.2.1 m27 = 9 := by obtain ⟨r9, e9, z1, z2, z3⟩ := hV.refn (t := 137) (n := 9) ha0 ka0 27 rfl (by decide) rfl (by decide); rw [← em27, e9]; exact ⟨z1, z2, z3⟩
  obtain ⟨m28, xm28⟩ : ∃ z, z = mm 28 := ⟨_, rfl⟩
  have em28 : q.2.2.1 a0 28 = m28 := by rw [xm28]; exact em 28 (by decide)
  obtain ⟨hm28, km28, lm28⟩ : m28 ∈ L ∧ h.1 m28 = 138 ∧ h.2.1 m28 = 540 := by obtain ⟨r9, e9, z1, z2, z3⟩ := hV.refn (t := 138) (n := 540) ha0 ka0 28 rfl (by decide) rfl (by decide); rw [← em28, e9]; exact ⟨z1, z2, z3⟩
  obtain ⟨m29, xm29⟩ : ∃ z, z = mm 29 := ⟨_, rfl⟩
  have em29 : q.2.2.1 a0 29 = m29 := by rw [xm29]; exact em 29 (by decide)
  obtain ⟨hm29, km29, lm29⟩ : m29 ∈ L ∧ h.1 m29 = 139 ∧ h.2.1 m29 = 540 := by obtain ⟨r9, e9, z1, z2, z3⟩ := hV.refn (t := 139) (n := 540) ha0 ka0 29 rfl (by decide) rfl (by decide); rw [← em29, e9]; exact ⟨z1, z2, z3⟩
  obtain ⟨m30, xm30⟩ : ∃ z, z = mm 30 := ⟨_, rfl⟩
  have em30 : q.2.2.1 a0 30 = m30 := by rw [xm30]; exact em 30 (by decide)
  obtain ⟨hm30, km30, lm30⟩ : m30 ∈ L ∧ h.1 m30 = 140 ∧ h.2.1 m30 = 540 := by obtain ⟨r9, e9, z1, z2, z3⟩ := hV.refn (t := 140) (n := 540) ha0 ka0 30 rfl (by decide) rfl (by decide); rw [← em30, e9]; exact ⟨z1, z2, z3⟩
  obtain ⟨m34, xm34⟩ : ∃ z, z = mm 34 := ⟨_, rfl⟩
  have em34 : q.2.2.1 a0 34 = m34 := by rw [xm34]; exact em 34 (by decide)
  obtain ⟨hm34, km34, lm34⟩ : m34 ∈ L ∧ h.1 m34 = 144 ∧ h.2.1 m34 = 4 := by obtain ⟨r9, e9, z1, z2, z3⟩ := hV.refn (t := 144) (n := 4) ha0 ka0 34 rfl (by decide) rfl (by decide); rw [← em34, e9]; exact ⟨z1, z2, z3⟩
  obtain ⟨m35, xm35⟩ : ∃ z, z = mm 35 := ⟨_, rfl⟩
  have em35 : q.2.2.1 a0 35 = m35 := by rw [xm35]; exact em 35 (by decide)
  obtain ⟨hm35, km35, lm35⟩ : m35 ∈ L ∧ h.1 m35 = 245 ∧ h.2.1 m35 = 12 := by obtain ⟨r9, e9, z1, z2, z3⟩ := hV.refn (t := 245) (n := 12) ha0 ka0 35 rfl (by decide) rfl (by decide); rw [← em35, e9]; exact ⟨z1, z2, z3⟩
  obtain ⟨m40, xm40⟩ : ∃ z, z = mm 40 := ⟨_, rfl⟩
  have em40 : q.2.2.1 a0 40 = m40 := by rw [xm40]; exact em 40 (by decide)
  obtain ⟨hm40, km40, lm40⟩ : m40 ∈ L ∧ h.1 m40 = 150 ∧ h.2.1 m40 = 2400 := by obtain ⟨r9, e9, z1, z2, z3⟩ := hV.refn (t := 150) (n := 2400) ha0 ka0 40 rfl (by decide) rfl (by decide); rw [← em40, e9]; exact ⟨z1, z2, z3⟩
  obtain ⟨m41, xm41⟩ : ∃ z, z = mm 41 := ⟨_, rfl⟩
  have em41 : q.2.2.1 a0 41 = m41 := by rw [xm41]; exact em 41 (by decide)
  obtain ⟨hm41, km41, lm41⟩ : m41 ∈ L ∧ h.1 m41 = 151 ∧ h.2.1 m41 = 12 := by obtain ⟨r9, e9, z1, z2, z3⟩ := hV.refn (t := 151) (n := 12) ha0 ka0 41 rfl (by decide) rfl (by decide); rw [← em41, e9]; exact ⟨z1, z2, z3⟩
  obtain ⟨m42, xm42⟩ : ∃ z, z = mm 42 := ⟨_, rfl⟩
  have em42 : q.2.2.1 a0 42 = m42 := by rw [xm42]; exact em 42 (by decide)
  obtain ⟨hm42, km42, lm42⟩ : m42 ∈ L ∧ h.1 m42 = 152 ∧ h.2.1 m42 = 12 := by obtain ⟨r9, e9, z1, z2, z3⟩ := hV.refn (t := 152) (n := 12) ha0 ka0 42 rfl (by decide) rfl (by decide); rw [← em42, e9]; exact ⟨z1, z2, z3⟩
  obtain ⟨m43, xm43⟩ : ∃ z, z = mm 43 := ⟨_, rfl⟩
  have em43 : q.2.2.1 a0 43 = m43 := by rw [xm43]; exact em 43 (by decide)
  obtain ⟨hm43, km43, lm43⟩ : m43 ∈ L ∧ h.1 m43 = 153 ∧ h.2.1 m43 = 12 := by obtain ⟨r9, e9, z1, z2, z3⟩ := hV.refn (t := 153) (n := 12) ha0 ka0 43 rfl (by decide) rfl (by decide); rw [← em43, e9]; exact ⟨z1, z2, z3⟩
  obtain ⟨m44, xm44⟩ : ∃ z, z = mm 44 := ⟨_, rfl⟩
  have em44 : q.2.2.1 a0 44 = m44 := by rw [xm44]; exact em 44 (by decide)
  obtain ⟨hm44, km44, lm44⟩ : m44 ∈ L ∧ h.1 m44 = 154 ∧ h.2.1 m44 = 12 := by obtain ⟨r9, e9, z1, z2, z3⟩ := hV.refn (t := 154) (n := 12) ha0 ka0 44 rfl (by decide) rfl (by decide); rw [← em44, e9]; exact ⟨z1, z2, z3⟩
  obtain ⟨m46, xm46⟩ : ∃ z, z = mm 46 := ⟨_, rfl⟩
  have em46 : q.2.2.1 a0 46 = m46 := by rw [xm46]; exact em 46 (by decide)
  obtain ⟨hm46, km46, lm46⟩ : m46 ∈ L ∧ h.1 m46 = 156 ∧ h.2.1 m46 = 144 := by obtain ⟨r9, e9, z1, z2, z3⟩ := hV.refn (t := 156) (n := 144) ha0 ka0 46 rfl (by decide) rfl (by decide); rw [← em46, e9]; exact ⟨z1, z2, z3⟩
  obtain ⟨m47, xm47⟩ : ∃ z, z = mm 47 := ⟨_, rfl⟩
  have em47 : q.2.2.1 a0 47 = m47 := by rw [xm47]; exact em 47 (by decide)
  obtain ⟨hm47, km47, lm47⟩ : m47 ∈ L ∧ h.1 m47 = 157 ∧ h.2.1 m47 = 4096 := by obtain ⟨r9, e9, z1, z2, z3⟩ := hV.refn (t := 157) (n := 4096) ha0 ka0 47 rfl (by decide) rfl (by decide); rw [← em47, e9]; exact ⟨z1, z2, z3⟩
  obtain ⟨m48, xm48⟩ : ∃ z, z = mm 48 := ⟨_, rfl⟩
  have em48 : q.2.2.1 a0 48 = m48 := by rw [xm48]; exact em 48 (by decide)
  obtain ⟨hm48, km48, lm48⟩ : m48 ∈ L ∧ h.1 m48 = 158 ∧ h.2.1 m48 = 12 := by obtain ⟨r9, e9, z1, z2, z3⟩ := hV.refn (t := 158) (n := 12) ha0 ka0 48 rfl (by decide) rfl (by decide); rw [← em48, e9]; exact ⟨z1, z2, z3⟩
  have mF : mv_F m18 m19 q := by rw [xm18, xm19]; exact mF0
  have mU : mv_U m17 q := by rw [xm17]; exact mU0
  have mS : mv_S m23 m26 m28 m29 q := by rw [xm23, xm26, xm28, xm29]; exact mS0
  have mL : mv_L m40 m41 m44 a0 q := by rw [xm40, xm41, xm44]; exact mL0
  have hF : sx_fr h L (fun _ => True) q q := sx_fr.rf
  obtain ⟨htb, ktb, ltb⟩ : tb ∈ L ∧ h.1 tb = 300 ∧ h.2.1 tb = 440 := by obtain ⟨r9, e9, z1, z2, z3⟩ := hV.refn (t := 300) (n := 440) ht0 kt0 0 rfl (by decide) (by rw [lt0]; rfl) (by decide); rw [← etb, e9]; exact ⟨z1, z2, z3⟩
  obtain ⟨hfa, kfa, lfa⟩ : fa ∈ L ∧ h.1 fa = 403 ∧ h.2.1 fa = 12 := by obtain ⟨r9, e9, z1, z2, z3⟩ := hV.refn (t := 403) (n := 12) hx0 kx0 9 rfl (by decide) rfl (by decide); rw [← efa, e9]; exact ⟨z1, z2, z3⟩
  have hT : ty_T (q.2.2.2.1 tb) (q.2.2.2.1 m1) (q.1 t0 1).toInt.toNat := by rw [xm1]; exact hT0
  have hR : lc_R h fa m44 x0 q := by rw [xm44]; exact hR0
  have gx14 : (0 : Int) ≤ (q.1 x0 14).toInt ∧ (q.1 x0 14).toInt ≤ 12 := hV.int hx0 kx0 14
  have gt1 : (0 : Int) ≤ (q.1 t0 1).toInt ∧ (q.1 t0 1).toInt ≤ 440 := by have z9 := hV.int ht0 kt0 1; rw [etb, ltb] at z9; exact z9
  obtain ⟨huu, kuu⟩ : uu ∈ L ∧ h.1 uu = 9 := by obtain ⟨r9, e9, z1, z2⟩ := hV.ref (t := 9) hx0 kx0 11 rfl (by decide); rw [← euu, e9]; exact ⟨z1, z2⟩
  obtain ⟨hsu, ksu⟩ : su ∈ L ∧ h.1 su = 9 := by obtain ⟨r9, e9, z1, z2⟩ := hV.ref (t := 9) hx0 kx0 12 rfl (by decide); rw [← esu, e9]; exact ⟨z1, z2⟩
  have nuu_su : ¬ uu = su := hdz.1
  obtain ⟨uc, euc⟩ : ∃ z, q.2.2.1 uu 1 = z := ⟨_, rfl⟩
  obtain ⟨huc, kuc, luc⟩ : uc ∈ L ∧ h.1 uc = 101 ∧ h.2.1 uc = 3 := by obtain ⟨r9, e9, z1, z2, z3⟩ := hV.refn (t := 101) (n := 3) huu kuu 1 rfl (by decide) rfl (by decide); rw [← euc, e9]; exact ⟨z1, z2, z3⟩
  obtain ⟨un, eun⟩ : ∃ z, q.2.2.1 uu 2 = z := ⟨_, rfl⟩
  obtain ⟨hun, kun, lun⟩ : un ∈ L ∧ h.1 un = 202 ∧ h.2.1 un = 15 := by obtain ⟨r9, e9, z1, z2, z3⟩ := hV.refn (t := 202) (n := 15) huu kuu 2 rfl (by decide) rfl (by decide); rw [← eun, e9]; exact ⟨z1, z2, z3⟩
  obtain ⟨uf, euf⟩ : ∃ z, q.2.2.1 uu 3 = z := ⟨_, rfl⟩
  obtain ⟨huf, kuf, luf⟩ : uf ∈ L ∧ h.1 uf = 102 ∧ h.2.1 uf = 15 := by obtain ⟨r9, e9, z1, z2, z3⟩ := hV.refn (t := 102) (n := 15) huu kuu 3 rfl (by decide) rfl (by decide); rw [← euf, e9]; exact ⟨z1, z2, z3⟩
  obtain ⟨uw, euw⟩ : ∃ z, q.2.2.1 uu 4 = z := ⟨_, rfl⟩
  obtain ⟨huw, kuw, luw⟩ : uw ∈ L ∧ h.1 uw = 103 ∧ h.2.1 uw = 15 := by obtain ⟨r9, e9, z1, z2, z3⟩ := hV.refn (t := 103) (n := 15) huu kuu 4 rfl (by decide) rfl (by decide); rw [← euw, e9]; exact ⟨z1, z2, z3⟩
  have hu : lc_u8 (q.1 uu 6) (q.1 a0 20) (q.2.2.2.1 uc) (q.2.2.2.1 m18) (q.2.2.2.1 uf) (q.2.2.2.1 m19) (q.2.2.2.1 uw) (q.2.2.2.2 un) (q.2.2.2.2 m17) := by rw [← euc, ← euf, ← euw, ← eun, xm17, xm18, xm19]; exact hu0
  obtain ⟨ho0, ko0, lo0⟩ : o0 ∈ L ∧ h.1 o0 = 7 ∧ h.2.1 o0 = 2 := by obtain ⟨r9, e9, z1, z2, z3⟩ := hV.refn (t := 7) (n := 2) hx0 kx0 1 rfl (by decide) rfl (by decide); rw [← eo0, e9]; exact ⟨z1, z2, z3⟩
  obtain ⟨hob, kob, lob⟩ : ob ∈ L ∧ h.1 ob = 300 ∧ h.2.1 ob = 59 := by obtain ⟨r9, e9, z1, z2, z3⟩ := hV.refn (t := 300) (n := 59) ho0 ko0 0 rfl (by decide) (by rw [lo0]; rfl) (by decide); rw [← eob, e9]; exact ⟨z1, z2, z3⟩
  have nt0_o0 : ¬ t0 = o0 := fun z9 => absurd (z9 ▸ lt0 : h.2.1 o0 = 1) (by rw [lo0]; decide)
  have ntb_ob : ¬ tb = ob := fun z9 => absurd (z9 ▸ ltb : h.2.1 ob = 440) (by rw [lob]; decide)
  have hout : lc_o (q.1 o0 1) (q.1 a0 22) (q.2.2.2.1 ob) (q.2.2.2.1 m21) := by rw [xm21]; exact hout0
  refine wa_aload_n B dL_law_750 rfl 3 rfl ?_
  refine wa_aload_n B dL_law_751 rfl 4 rfl ?_
  refine wa_iload B dL_law_752 0 rfl ?_
  refine wa_iconst B 1 dL_law_754 (by decide) ?_
  refine wa_iadd B dL_law_755 (fun v_1 ev_1 => ?_)
  subst ev_1
  have t_2 : (i + 1).toInt = i.toInt + 1 := by have b0 := zx_bd i; exact zx_add (show (-2147483648 : Int) ≤ i.toInt + 1 by omega) (show i.toInt + 1 < (2147483648 : Int) by omega)
  refine wa_sld B hX hbl hbA (i := (i + 1)) (show 0 ≤ (i + 1).toInt by omega) (show (i + 1).toInt < (N : Int) by omega) dL_law_756 ?_
  refine wa_callVi B (x := (RX11, TX11, 16)) (As := [.int ((xs ((i + 1) : Int32).toNatClampNeg))]) (rest := []) (k_X11_count l dC dI h L hN q hV (a0 := x0) hx0 kx0 ((xs ((i + 1) : Int32).toNatClampNeg))  ) (cwV 1 B.1.2.2.2.2 gL_law_X11_count rfl rfl rfl (by decide +kernel) ⟨Nat.le_of_ble_eq_true rfl, Nat.le_of_ble_eq_true rfl⟩) hx0 kx0 (by decide) rfl rfl rfl (Nat.le_of_ble_eq_true rfl) dL_law_757 (fun r_4 q_3 w_5 => ?_)
  subst w_5
  refine wa_pop B dL_law_760 rfl ?_
  refine wa_aload_n B dL_law_761 rfl 2 rfl ?_
  refine wa_aload_n B dL_law_762 rfl 4 rfl ?_
  refine wa_iload B dL_law_763 0 rfl ?_
  refine wa_iconst B 1 dL_law_765 (by decide) ?_
  refine wa_iadd B dL_law_766 (fun v_6 ev_6 => ?_)
  subst ev_6
  refine wa_sld B hX hbl hbA (i := (i + 1)) (show 0 ≤ (i + 1).toInt by omega) (show (i + 1).toInt < (N : Int) by omega) dL_law_767 ?_
  refine wa_callVi B (x := (RX12, TX12, 51)) (As := [.int ((xs ((i + 1) : Int32).toNatClampNeg))]) (rest := []) (k_X12_count l dC dI h L hN q hV (a0 := a0) ha0 ka0 ((xs ((i + 1) : Int32).toNatClampNeg))  ) (cwV 1 B.1.2.2.2.2 gL_law_X12_count rfl rfl rfl (by decide +kernel) ⟨Nat.le_of_ble_eq_true rfl, Nat.le_of_ble_eq_true rfl⟩) ha0 ka0 (by decide) rfl rfl rfl (Nat.le_of_ble_eq_true rfl) dL_law_768 (fun r_8 q_7 w_9 => ?_)
  obtain ⟨hV_q_7, h2_q_7, h3_q_7⟩ := w_9
  have mN_q_7 : mv_N a0 q_7 := mv_N.eq (h3_q_7.1 8 (by decide)) (h3_q_7.2 11 (by decide)) mN
  have mF_q_7 : mv_F m18 m19 q_7 := mv_F.eq (h2_q_7.G hm18 (show ¬ (h.1 m18 = 12) from (fun z => absurd (z.symm.trans km18) (by decide))) (by rw [km18]; decide)) (h2_q_7.G hm19 (show ¬ (h.1 m19 = 12) from (fun z => absurd (z.symm.trans km19) (by decide))) (by rw [km19]; decide)) mF
  have mU_q_7 : mv_U m17 q_7 := mv_U.eq (h2_q_7.Lg hm17 (show ¬ (h.1 m17 = 12) from (fun z => absurd (z.symm.trans km17) (by decide))) (by rw [km17]; decide)) mU
  have mS_q_7 : mv_S m23 m26 m28 m29 q_7 := mv_S.eq (h2_q_7.G hm23 (show ¬ (h.1 m23 = 12) from (fun z => absurd (z.symm.trans km23) (by decide))) (by rw [km23]; decide)) (h2_q_7.G hm26 (show ¬ (h.1 m26 = 12) from (fun z => absurd (z.symm.trans km26) (by decide))) (by rw [km26]; decide)) (h2_q_7.G hm28 (show ¬ (h.1 m28 = 12) from (fun z => absurd (z.symm.trans km28) (by decide))) (by rw [km28]; decide)) (h2_q_7.G hm29 (show ¬ (h.1 m29 = 12) from (fun z => absurd (z.symm.trans km29) (by decide))) (by rw [km29]; decide)) mS
  have mL_q_7 : mv_L m40 m41 m44 a0 q_7 := mv_L.eq (h2_q_7.G hm40 (show ¬ (h.1 m40 = 12) from (fun z => absurd (z.symm.trans km40) (by decide))) (by rw [km40]; decide)) (h2_q_7.G hm41 (show ¬ (h.1 m41 = 12) from (fun z => absurd (z.symm.trans km41) (by decide))) (by rw [km41]; decide)) (h2_q_7.G hm44 (show ¬ (h.1 m44 = 12) from (fun z => absurd (z.symm.trans km44) (by decide))) (by rw [km44]; decide)) (h3_q_7.1 45 (by decide)) mL
  refine wa_pop B dL_law_771 rfl ?_
  refine wa_goto B 775 dL_law_772 (by decide) ?_
  have z_10 : q_7.1 a0 2 = q.1 a0 2 := h3_q_7.1 2 (by decide)
  have y_11 : (q_7.1 a0 2).toInt = (q.1 a0 2).toInt := by rw [z_10]
  have z_12 : q_7.1 a0 45 = q.1 a0 45 := h3_q_7.1 45 (by decide)
  have y_13 : (q_7.1 a0 45).toInt = (q.1 a0 45).toInt := by rw [z_12]
  have z_14 : q_7.1 t0 1 = q.1 t0 1 := h2_q_7.I ht0 (show ¬ (h.1 t0 = 12) from (fun z => absurd (z.symm.trans kt0) (by decide))) 1
  have y_15 : (q_7.1 t0 1).toInt = (q.1 t0 1).toInt := by rw [z_14]
  have z_16 : q_7.1 x0 14 = q.1 x0 14 := h2_q_7.I hx0 (show ¬ (h.1 x0 = 12) from (fun z => absurd (z.symm.trans kx0) (by decide))) 14
  have y_17 : (q_7.1 x0 14).toInt = (q.1 x0 14).toInt := by rw [z_16]
  have z_18 : q_7.2.2.1 x0 0 = t0 := (h2_q_7.R hx0 (show ¬ ((h.1 x0 = 12) ∧ (h.1 x0 = 8 ∨ h.1 x0 = 11)) from fun z9 => (show ¬ (h.1 x0 = 12) from (fun z => absurd (z.symm.trans kx0) (by decide))) z9.1) 0).trans (et0)
  have z_19 : q_7.2.2.1 t0 0 = tb := (h2_q_7.R ht0 (fun z9 => absurd z9.2 (by omega)) 0).trans (etb)
  have z_20 : q_7.2.2.1 x0 9 = fa := (h2_q_7.R hx0 (show ¬ ((h.1 x0 = 12) ∧ (h.1 x0 = 8 ∨ h.1 x0 = 11)) from fun z9 => (show ¬ (h.1 x0 = 12) from (fun z => absurd (z.symm.trans kx0) (by decide))) z9.1) 9).trans (efa)
  have z_21 : q_7.2.2.2.1 tb = q.2.2.2.1 tb := h2_q_7.G htb (show ¬ (h.1 tb = 12) from (fun z => absurd (z.symm.trans ktb) (by decide))) (by rw [ktb]; decide)
  have z_22 : q_7.2.2.2.1 m1 = q.2.2.2.1 m1 := h2_q_7.G hm1 (show ¬ (h.1 m1 = 12) from (fun z => absurd (z.symm.trans km1) (by decide))) (by rw [km1]; decide)
  have hT9 : ty_T (q_7.2.2.2.1 tb) (q_7.2.2.2.1 m1) (q_7.1 t0 1).toInt.toNat := by rw [z_21, z_22]; exact hT.le (by omega)
  have z_23 : q_7.2.2.2.1 m44 = q.2.2.2.1 m44 := h2_q_7.G hm44 (show ¬ (h.1 m44 = 12) from (fun z => absurd (z.symm.trans km44) (by decide))) (by rw [km44]; decide)
  have hR9 : lc_R h fa m44 x0 q_7 := by
    intro f hf
    obtain ⟨e9, ee9, he9, ke9⟩ := hV.elem (t := 0) hfa kfa (by decide) rfl (j := f) (by omega)
    rw [ee9, show q_7.1 e9 3 = q.1 e9 3 from h2_q_7.I he9 (show ¬ (h.1 e9 = 12) from by omega) 3, ← ee9, z_23]
    exact hR f (by omega)
  have hR_uu : q_7.2.2.1 uu = q.2.2.1 uu := by rw [show q_7.2.2.1 uu = q.2.2.1 uu from h2_q_7.2 uu huu (fun z9 => absurd z9.2 (by rw [kuu]; decide))]
  have hR_su : q_7.2.2.1 su = q.2.2.1 su := by rw [show q_7.2.2.1 su = q.2.2.1 su from h2_q_7.2 su hsu (fun z9 => absurd z9.2 (by rw [ksu]; decide))]
  have z_24 : q_7.1 o0 1 = q.1 o0 1 := h2_q_7.I ho0 (show ¬ (h.1 o0 = 12) from (fun z => absurd (z.symm.trans ko0) (by decide))) 1
  have z_25 : q_7.1 a0 22 = q.1 a0 22 := h3_q_7.1 22 (by decide)
  have z_26 : q_7.2.2.2.1 ob = q.2.2.2.1 ob := h2_q_7.G hob (show ¬ (h.1 ob = 12) from (fun z => absurd (z.symm.trans kob) (by decide))) (by rw [kob]; decide)
  have z_27 : q_7.2.2.2.1 m21 = q.2.2.2.1 m21 := h2_q_7.G hm21 (show ¬ (h.1 m21 = 12) from (fun z => absurd (z.symm.trans km21) (by decide))) (by rw [km21]; decide)
  have hout9 : lc_o (q_7.1 o0 1) (q_7.1 a0 22) (q_7.2.2.2.1 ob) (q_7.2.2.2.1 (mm 21)) := by rw [← xm21, z_24, z_25, z_26, z_27]; exact hout
  have z_28 : q_7.2.2.1 x0 1 = o0 := (h2_q_7.R hx0 (show ¬ ((h.1 x0 = 12) ∧ (h.1 x0 = 8 ∨ h.1 x0 = 11)) from fun z9 => (show ¬ (h.1 x0 = 12) from (fun z => absurd (z.symm.trans kx0) (by decide))) z9.1) 1).trans (eo0)
  have z_29 : q_7.2.2.1 o0 0 = ob := (h2_q_7.R ho0 (fun z9 => absurd z9.2 (by omega)) 0).trans (eob)
  have z_30 : q_7.1 uu 6 = q.1 uu 6 := h2_q_7.I huu (show ¬ (h.1 uu = 12) from (fun z => absurd (z.symm.trans kuu) (by decide))) 6
  have z_31 : q_7.1 a0 20 = q.1 a0 20 := h3_q_7.1 20 (by decide)
  have z_32 : q_7.2.2.2.1 uc = q.2.2.2.1 uc := h2_q_7.G huc (show ¬ (h.1 uc = 12) from (fun z => absurd (z.symm.trans kuc) (by decide))) (by rw [kuc]; decide)
  have z_33 : q_7.2.2.2.1 m18 = q.2.2.2.1 m18 := h2_q_7.G hm18 (show ¬ (h.1 m18 = 12) from (fun z => absurd (z.symm.trans km18) (by decide))) (by rw [km18]; decide)
  have z_34 : q_7.2.2.2.1 uf = q.2.2.2.1 uf := h2_q_7.G huf (show ¬ (h.1 uf = 12) from (fun z => absurd (z.symm.trans kuf) (by decide))) (by rw [kuf]; decide)
  have z_35 : q_7.2.2.2.1 m19 = q.2.2.2.1 m19 := h2_q_7.G hm19 (show ¬ (h.1 m19 = 12) from (fun z => absurd (z.symm.trans km19) (by decide))) (by rw [km19]; decide)
  have z_36 : q_7.2.2.2.1 uw = q.2.2.2.1 uw := h2_q_7.G huw (show ¬ (h.1 uw = 12) from (fun z => absurd (z.symm.trans kuw) (by decide))) (by rw [kuw]; decide)
  have z_37 : q_7.2.2.2.2 un = q.2.2.2.2 un := h2_q_7.Lg hun (show ¬ (h.1 un = 12) from (fun z => absurd (z.symm.trans kun) (by decide))) (by rw [kun]; decide)
  have z_38 : q_7.2.2.2.2 m17 = q.2.2.2.2 m17 := h2_q_7.Lg hm17 (show ¬ (h.1 m17 = 12) from (fun z => absurd (z.symm.trans km17) (by decide))) (by rw [km17]; decide)
  have hu9 : lc_uq8 q_7 a0 uu (mm 17) (mm 18) (mm 19) := by unfold lc_uq8; rw [← xm17, ← xm18, ← xm19, hR_uu, euc, euf, euw, eun, z_30, z_31, z_32, z_33, z_34, z_35, z_36, z_37, z_38]; exact hu
  have z_39 : q_7.2.2.1 x0 11 = uu := (h2_q_7.R hx0 (show ¬ ((h.1 x0 = 12) ∧ (h.1 x0 = 8 ∨ h.1 x0 = 11)) from fun z9 => (show ¬ (h.1 x0 = 12) from (fun z => absurd (z.symm.trans kx0) (by decide))) z9.1) 11).trans (euu)
  have z_40 : q_7.2.2.1 x0 12 = su := (h2_q_7.R hx0 (show ¬ ((h.1 x0 = 12) ∧ (h.1 x0 = 8 ∨ h.1 x0 = 11)) from fun z9 => (show ¬ (h.1 x0 = 12) from (fun z => absurd (z.symm.trans kx0) (by decide))) z9.1) 12).trans (esu)
  exact hcont _ _ (Or.inl rfl) ⟨⟨⟨hV_q_7, mN_q_7, by rw [← xm18, ← xm19]; exact mF_q_7, by rw [← xm17]; exact mU_q_7, by rw [← xm23, ← xm26, ← xm28, ← xm29]; exact mS_q_7, by rw [← xm40, ← xm41, ← xm44]; exact mL_q_7, z_18, fun k hk => by rw [show q_7.2.2.1 a0 = q.2.2.1 a0 from h2_q_7.2 a0 ha0 (fun z9 => absurd z9.2 (by omega))]; exact em k hk, by omega, by omega⟩, z_19, z_20, by rw [← xm1]; exact hT9, by rw [← xm44]; exact hR9⟩, uu, su, o0, ob, z_39, z_40, hdz.eq hR_uu hR_su, hu9, ⟨z_28, z_29⟩, hout9⟩
