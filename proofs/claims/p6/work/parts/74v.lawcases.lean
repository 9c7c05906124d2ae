set_option maxHeartbeats 4000000 in
set_option maxRecDepth 100000 in
theorem lc6_260 (l : Launch) (hlst : l.stackTraces = false) {Z : Zt} (dC : Nat → ClassId) (dI : Nat → Nat → Nat) (h : Sh) (L : List Nat) (hN : sx_nd L) (B : BX dC dI h L 7 cL_law RL wsL_law Z) {b N : Nat} {xs : Nat → Int32} (hX : va_X b N xs Z.2.2.1 Z.2.2.1.heap) (hbl : b < Z.2.2.1.heap.size) (hbA : ¬ AL L Z.2.2.1.heap.size b) {x0 a0 ot t0 tb fa : Nat} (hfd : lc_fd h fa) {mm : Nat → Nat} (hx0 : x0 ∈ L) (kx0 : h.1 x0 = 11) (ha0 : a0 ∈ L) (ka0 : h.1 a0 = 12) (hot : ot ∈ L) (kot : h.1 ot = 200) (lot : h.2.1 ot = 1) {i : Int32} (hi0 : 0 ≤ i.toInt) (hi1 : i.toInt + 6 ≤ (N : Int)) (hN2 : N ≤ 3072) (hroom : (zl_more Z).2.2.2.2.2.2.2.2.2.1 ≤ room_1.cells ∧ (zl_more Z).2.2.2.2.2.2.2.2.2.2 ≤ room_1.slots) {q : Sg} (hI : lc_I6 h L x0 a0 t0 tb fa mm q) (hcont : ∀ (Z2 : Zt) (q2 : Sg), (Z2 = Z ∨ Z2 = zl_more Z) → lc_I6 h L x0 a0 t0 tb fa mm q2 → WA l dC dI h L room_1 7 Z2 q2 803 [(4, .int i), (3, .ref ot), (2, .ref a0), (1, .ref x0), (0, .ref b)] []) : WA l dC dI h L room_1 7 Z q 260 [(4, .int i), (3, .ref ot), (2, .ref a0), (1, .ref x0), (0, .ref b)] [] := by
  obtain ⟨hI, uu, su, euu, esu, hdz, hu0⟩ := hI
  obtain ⟨hI, etb, efa, hT0, hR0⟩ := hI
  obtain ⟨hV, mN, mF0, mU0, mS0, mL0, et0, em, hte, hfe⟩ := hI
  obtain ⟨ht0, kt0, lt0⟩ : t0 ∈ L ∧ h.1 t0 = 7 ∧ h.2.1 t0 = 1 := by obtain ⟨r9, e9, z1, z2, z3⟩ := hV.refn (t := 7) (n := 1) hx0 kx0 0 rfl (by decide) rfl (by decide); rw [← et0, e9]; exact ⟨z1, z2, z3⟩
  obtain ⟨m1, xm1⟩ : ∃ z, z = mm 1 := ⟨_, rfl⟩
  have em1 : q.2.2.1 a0 1 = m1 := by rw [xm1]; exact em 1 (by decide)
  obtain ⟨hm1, km1, lm1⟩ : m1 ∈ L ∧ h.1 m1 = 111 ∧ h.2.1 m1 = 440 := by obtain ⟨r9, e9, z1, z2, z3⟩ := hV.refn (t := 111) (n := 440) ha0 ka0 1 rfl (by decide) rfl (by decide); rw [← em1, e9]; exact ⟨z1, z2, z3⟩
  obtain ⟨m3, xm3⟩ : ∃ z, z = mm 3 := ⟨_, rfl⟩
  have em3 : q.2.2.1 a0 3 = m3 := by rw [xm3]; exact em 3 (by decide)
  obtain ⟨hm3, km3, lm3⟩ : m3 ∈ L ∧ h.1 m3 = 113 ∧ h.2.1 m3 = 500 := by obtain ⟨r9, e9, z1, z2, z3⟩ := hV.refn (t := 113) (n := 500) ha0 ka0 3 rfl (by decide) rfl (by decide); rw [← em3, e9]; exact ⟨z1, z2, z3⟩
  obtain ⟨m16, xm16⟩ : ∃ z, z = mm 16 := ⟨_, rfl⟩
  have em16 : q.2.2.1 a0 16 = m16 := by rw [xm16]; exact em 16 (by decide)
  obtain ⟨hm16, km16, lm16⟩ : m16 ∈ L ∧ h.1 m16 = 226 ∧ h.2.1 m16 = 6 := by obtain ⟨r9, e9, z1, z2, z3⟩ := hV.refn (t := 226) (n := 6) ha0 ka0 16 rfl (by decide) rfl (by decide); rw [← em16, e9]; exact ⟨z1, z2, z3⟩
  obtain ⟨m17, xm17⟩ : ∃ z, z = mm 17 := ⟨_, rfl⟩
  have em17 : q.2.2.1 a0 17 = m17 := by rw [xm17]; exact em 17 (by decide)
  obtain ⟨hm17, km17, lm17⟩ : m17 ∈ L ∧ h.1 m17 = 227 ∧ h.2.1 m17 = 30 := by obtain ⟨r9, e9, z1, z2, z3⟩ := hV.refn (t := 227) (n := 30) ha0 ka0 17 rfl (by decide) rfl (by decide); rw [← em17, e9]; exact ⟨z1, z2, z3⟩
  obtain ⟨m18, xm18⟩ : ∃ z, z = mm 18 := ⟨_, rfl⟩
  have em18 : q.2.2.1 a0 18 = m18 := by rw [xm18]; exact em 18 (by decide)
  obtain ⟨hm18, km18, lm18⟩ : m18 ∈ L ∧ h.1 m18 = 128 ∧ h.2.1 m18 = 6 := by obtain ⟨r9, e9, z1, z2, z3⟩ := hV.refn (t := 128) (n := 6) ha0 ka0 18 rfl (by decide) rfl (by decide); rw [← em18, e9]; exact ⟨z1, z2, z3⟩
  obtain ⟨m19, xm19⟩ : ∃ z, z = mm 19 := ⟨_, rfl⟩
  have em19 : q.2.2.1 a0 19 = m19 := by rw [xm19]; exact em 19 (by decide)
  obtain ⟨hm19, km19, lm19⟩ : m19 ∈ L ∧ h.1 m19 = 129 ∧ h.2.1 m19 = 30 := by obtain ⟨r9, e9, z1, z2, z3⟩ := hV.refn (t := 129) (n := 30) ha0 ka0 19 rfl (by decide) rfl (by decide); rw [← em19, e9]; exact ⟨z1, z2, z3⟩
  obtain ⟨m21, xm21⟩ : ∃ z, z = mm 21 := ⟨_, rfl⟩
  have em21 : q.2.2.1 a0 21 = m21 := by rw [xm21]; exact em 21 (by decide)
  obtain ⟨hm21, km21, lm21⟩ : m21 ∈ L ∧ h.1 m21 = 131 ∧ h.2.1 m21 = 80 := by obtain ⟨r9, e9, z1, z2, z3⟩ := hV.refn (t := 131) (n := 80) ha0 ka0 21 rfl (by decide) rfl (by decide); rw [← em21, e9]; exact ⟨z1, z2, z3⟩
  obtain ⟨m23, xm23⟩ : ∃ z, z = mm 23 := ⟨_, rfl⟩
  have em23 : q.2.2.1 a0 23 = m23 := by rw [xm23]; exact em 23 (by decide)
  obtain ⟨hm23, km23, lm23⟩ : m23 ∈ L ∧ h.1 m23 = 133 ∧ h.2.1 m23 = 9 := by obtain ⟨r9, e9, z1, z2, z3⟩ := hV.refn (t := 133) (n := 9) ha0 ka0 23 rfl (by decide) rfl (by decide); rw [← em23, e9]; exact ⟨z1, z2, z3⟩
  obtain ⟨m24, xm24⟩ : ∃ z, z = mm 24 := ⟨_, rfl⟩
  have em24 : q.2.2.1 a0 24 = m24 := by rw [xm24]; exact em 24 (by decide)
  obtain ⟨hm24, km24, lm24⟩ : m24 ∈ L ∧ h.1 m24 = 134 ∧ h.2.1 m24 = 108 := by obtain ⟨r9, e9, z1, z2, z3⟩ := hV.refn (t := 134) (n := 108) ha0 ka0 24 rfl (by decide) rfl (by decide); rw [← em24, e9]; exact ⟨z1, z2, z3⟩
  obtain ⟨m25, xm25⟩ : ∃ z, z = mm 25 := ⟨_, rfl⟩
  have em25 : q.2.2.1 a0 25 = m25 := by rw [xm25]; exact em 25 (by decide)
  obtain ⟨hm25, km25, lm25⟩ : m25 ∈ L ∧ h.1 m25 = 135 ∧ h.2.1 m25 = 108 := by obtain ⟨r9, e9, z1, z2, z3⟩ := hV.refn (t := 135) (n := 108) ha0 ka0 25 rfl (by decide) rfl (by decide); rw [← em25, e9]; exact ⟨z1, z2, z3⟩
  obtain ⟨m26, xm26⟩ : ∃ z, z = mm 26 := ⟨_, rfl⟩
  have em26 : q.2.2.1 a0 26 = m26 := by rw [xm26]; exact em 26 (by decide)
  obtain ⟨hm26, km26, lm26⟩ : m26 ∈ L ∧ h.1 m26 = 136 ∧ h.2.1 m26 = 108 := by obtain ⟨r9, e9, z1, z2, z3⟩ := hV.refn (t := 136) (n := 108) ha0 ka0 26 rfl (by decide) rfl (by decide); rw [← em26, e9]; exact ⟨z1, z2, z3⟩
  obtain ⟨m27, xm27⟩ : ∃ z, z = mm 27 := ⟨_, rfl⟩
  have em27 : q.2.2.1 a0 27 = m27 := by rw [xm27]; exact em 27 (by decide)
  obtain ⟨hm27, km27, lm27⟩ : m27 ∈ L ∧ h.1 m27 = 137 ∧ h.2.1 m27 = 9 := by obtain ⟨r9, e9, z1, z2, z3⟩ := hV.refn (t := 137) (n := 9) ha0 ka0 27 rfl (by decide) rfl (by decide); rw [← em27, e9]; exact ⟨z1, z2, z3⟩
  obtain ⟨m28, xm28⟩ : ∃ z, z = mm 28 := ⟨_, rfl⟩
  have em28 : q.2.2.1 a0 28 = m28 := by rw [xm28]; exact em 28 (by decide)
  obtain ⟨hm28, km28, lm28⟩ : m28 ∈ L ∧ h.1 m28 = 138 ∧ h.2.1 m28 = 540 := by obtain ⟨r9, e9, z1, z2, z3⟩ := hV.refn (t := 138) (n := 540) ha0 ka0 28 rfl (by decide) rfl (by decide); rw [← em28, e9]; exact ⟨z1, z2, z3⟩
  obtain ⟨m29, xm29⟩ : ∃ z, z = mm 29 := ⟨_, rfl⟩
  have em29 : q.2.2.1 a0 29 = m29 := by rw [xm29]; exact em 29 (by decide)
  obtain ⟨hm29, km29, lm29⟩ : m29 ∈ L ∧ h.1 m29 = 139 ∧ h.2.1 m29 = 540 := by obtain ⟨r9, e9, z1, z2, z3⟩ := hV.refn (t := 139) (n := 540) ha0 ka0 29 rfl (by decide) rfl (by decide); rw [← em29, e9]; exact ⟨z1, z2, z3⟩
  obtain ⟨m30, xm30⟩ : ∃ z, z = mm 30 := ⟨_, rfl⟩
  have em30 : q.2.2.1 a0 30 = m30 := by rw [xm30]; exact em 30 (by decide)
  obtain ⟨hm30, km30, lm30⟩ : m30 ∈ L ∧ h.1 m30 = 140 ∧ h.2.1 m30 = 540 := by obtain ⟨r9, e9, z1, z2, z3⟩ := hV.refn (t := 140) (n := 540) ha0 ka0 30 rfl (by decide) rfl (by decide); rw [← em30, e9]; exact ⟨z1, z2, z3⟩
  obtain ⟨m34, xm34⟩ : ∃ z, z = mm 34 := ⟨_, rfl⟩
  have em34 : q.2.2.1 a0 34 = m34 := by rw [xm34]; exact em 34 (by decide)
  obtain ⟨hm34, km34, lm34⟩ : m34 ∈ L ∧ h.1 m34 = 144 ∧ h.2.1 m34 = 4 := by obtain ⟨r9, e9, z1, z2, z3⟩ := hV.refn (t := 144) (n := 4) ha0 ka0 34 rfl (by decide) rfl (by decide); rw [← em34, e9]; exact ⟨z1, z2, z3⟩
  obtain ⟨m35, xm35⟩ : ∃ z, z = mm 35 := ⟨_, rfl⟩
  have em35 : q.2.2.1 a0 35 = m35 := by rw [xm35]; exact em 35 (by decide)
  obtain ⟨hm35, km35, lm35⟩ : m35 ∈ L ∧ h.1 m35 = 245 ∧ h.2.1 m35 = 12 := by obtain ⟨r9, e9, z1, z2, z3⟩ := hV.refn (t := 245) (n := 12) ha0 ka0 35 rfl (by decide) rfl (by decide); rw [← em35, e9]; exact ⟨z1, z2, z3⟩
  obtain ⟨m40, xm40⟩ : ∃ z, z = mm 40 := ⟨_, rfl⟩
  have em40 : q.2.2.1 a0 40 = m40 := by rw [xm40]; exact em 40 (by decide)
  obtain ⟨hm40, km40, lm40⟩ : m40 ∈ L ∧ h.1 m40 = 150 ∧ h.2.1 m40 = 2400 := by obtain ⟨r9, e9, z1, z2, z3⟩ := hV.refn (t := 150) (n := 2400) ha0 ka0 40 rfl (by decide) rfl (by decide); rw [← em40, e9]; exact ⟨z1, z2, z3⟩
  obtain ⟨m41, xm41⟩ : ∃ z, z = mm 41 := ⟨_, rfl⟩
  have em41 : q.2.2.1 a0 41 = m41 := by rw [xm41]; exact em 41 (by decide)
  obtain ⟨hm41, km41, lm41⟩ : m41 ∈ L ∧ h.1 m41 = 151 ∧ h.2.1 m41 = 12 := by obtain ⟨r9, e9, z1, z2, z3⟩ := hV.refn (t := 151) (n := 12) ha0 ka0 41 rfl (by decide) rfl (by decide); rw [← em41, e9]; exact ⟨z1, z2, z3⟩
  obtain ⟨m42, xm42⟩ : ∃ z, z = mm 42 := ⟨_, rfl⟩
  have em42 : q.2.2.1 a0 42 = m42 := by rw [xm42]; exact em 42 (by decide)
  obtain ⟨hm42, km42, lm42⟩ : m42 ∈ L ∧ h.1 m42 = 152 ∧ h.2.1 m42 = 12 := by obtain ⟨r9, e9, z1, z2, z3⟩ := hV.refn (t := 152) (n := 12) ha0 ka0 42 rfl (by decide) rfl (by decide); rw [← em42, e9]; exact ⟨z1, z2, z3⟩
  obtain ⟨m43, xm43⟩ : ∃ z, z = mm 43 := ⟨_, rfl⟩
  have em43 : q.2.2.1 a0 43 = m43 := by rw [xm43]; exact em 43 (by decide)
  obtain ⟨hm43, km43, lm43⟩ : m43 ∈ L ∧ h.1 m43 = 153 ∧ h.2.1 m43 = 12 := by obtain ⟨r9, e9, z1, z2, z3⟩ := hV.refn (t := 153) (n := 12) ha0 ka0 43 rfl (by decide) rfl (by decide); rw [← em43, e9]; exact ⟨z1, z2, z3⟩
  obtain ⟨m44, xm44⟩ : ∃ z, z = mm 44 := ⟨_, rfl⟩
  have em44 : q.2.2.1 a0 44 = m44 := by rw [xm44]; exact em 44 (by decide)
  obtain ⟨hm44, km44, lm44⟩ : m44 ∈ L ∧ h.1 m44 = 154 ∧ h.2.1 m44 = 12 := by obtain ⟨r9, e9, z1, z2, z3⟩ := hV.refn (t := 154) (n := 12) ha0 ka0 44 rfl (by decide) rfl (by decide); rw [← em44, e9]; exact ⟨z1, z2, z3⟩
  obtain ⟨m46, xm46⟩ : ∃ z, z = mm 46 := ⟨_, rfl⟩
  have em46 : q.2.2.1 a0 46 = m46 := by rw [xm46]; exact em 46 (by decide)
  obtain ⟨hm46, km46, lm46⟩ : m46 ∈ L ∧ h.1 m46 = 156 ∧ h.2.1 m46 = 144 := by obtain ⟨r9, e9, z1, z2, z3⟩ := hV.refn (t := 156) (n := 144) ha0 ka0 46 rfl (by decide) rfl (by decide); rw [← em46, e9]; exact ⟨z1, z2, z3⟩
  obtain ⟨m47, xm47⟩ : ∃ z, z = mm 47 := ⟨_, rfl⟩
  have em47 : q.2.2.1 a0 47 = m47 := by rw [xm47]; exact em 47 (by decide)
  obtain ⟨hm47, km47, lm47⟩ : m47 ∈ L ∧ h.1 m47 = 157 ∧ h.2.1 m47 = 4096 := by obtain ⟨r9, e9, z1, z2, z3⟩ := hV.refn (t := 157) (n := 4096) ha0 ka0 47 rfl (by decide) rfl (by decide); rw [← em47, e9]; exact ⟨z1, z2, z3⟩
  obtain ⟨m48, xm48⟩ : ∃ z, z = mm 48 := ⟨_, rfl⟩
  have em48 : q.2.2.1 a0 48 = m48 := by rw [xm48]; exact em 48 (by decide)
  obtain ⟨hm48, km48, lm48⟩ : m48 ∈ L ∧ h.1 m48 = 158 ∧ h.2.1 m48 = 12 := by obtain ⟨r9, e9, z1, z2, z3⟩ := hV.refn (t := 158) (n := 12) ha0 ka0 48 rfl (by decide) rfl (by decide); rw [← em48, e9]; exact ⟨z1, z2, z3⟩
  have mF : mv_F m18 m19 q := by rw [xm18, xm19]; exact mF0
  have mU : mv_U m17 q := by rw [xm17]; exact mU0
  have mS : mv_S m23 m26 m28 m29 q := by rw [xm23, xm26, xm28, xm29]; exact mS0
  have mL : mv_L m40 m41 m44 a0 q := by rw [xm40, xm41, xm44]; exact mL0
  have hF : sx_fr h L (fun _ => True) q q := sx_fr.rf
  obtain ⟨htb, ktb, ltb⟩ : tb ∈ L ∧ h.1 tb = 300 ∧ h.2.1 tb = 440 := by obtain ⟨r9, e9, z1, z2, z3⟩ := hV.refn (t := 300) (n := 440) ht0 kt0 0 rfl (by decide) (by rw [lt0]; rfl) (by decide); rw [← etb, e9]; exact ⟨z1, z2, z3⟩
  obtain ⟨hfa, kfa, lfa⟩ : fa ∈ L ∧ h.1 fa = 403 ∧ h.2.1 fa = 12 := by obtain ⟨r9, e9, z1, z2, z3⟩ := hV.refn (t := 403) (n := 12) hx0 kx0 9 rfl (by decide) rfl (by decide); rw [← efa, e9]; exact ⟨z1, z2, z3⟩
  have hT : ty_T (q.2.2.2.1 tb) (q.2.2.2.1 m1) (q.1 t0 1).toInt.toNat := by rw [xm1]; exact hT0
  have hR : lc_R h fa m44 x0 q := by rw [xm44]; exact hR0
  have gx14 : (0 : Int) ≤ (q.1 x0 14).toInt ∧ (q.1 x0 14).toInt ≤ 12 := hV.int hx0 kx0 14
  have gt1 : (0 : Int) ≤ (q.1 t0 1).toInt ∧ (q.1 t0 1).toInt ≤ 440 := by have z9 := hV.int ht0 kt0 1; rw [etb, ltb] at z9; exact z9
  obtain ⟨huu, kuu⟩ : uu ∈ L ∧ h.1 uu = 9 := by obtain ⟨r9, e9, z1, z2⟩ := hV.ref (t := 9) hx0 kx0 11 rfl (by decide); rw [← euu, e9]; exact ⟨z1, z2⟩
  obtain ⟨hsu, ksu⟩ : su ∈ L ∧ h.1 su = 9 := by obtain ⟨r9, e9, z1, z2⟩ := hV.ref (t := 9) hx0 kx0 12 rfl (by decide); rw [← esu, e9]; exact ⟨z1, z2⟩
  have nuu_su : ¬ uu = su := hdz.1
  obtain ⟨uc, euc⟩ : ∃ z, q.2.2.1 uu 1 = z := ⟨_, rfl⟩
  obtain ⟨huc, kuc, luc⟩ : uc ∈ L ∧ h.1 uc = 101 ∧ h.2.1 uc = 3 := by obtain ⟨r9, e9, z1, z2, z3⟩ := hV.refn (t := 101) (n := 3) huu kuu 1 rfl (by decide) rfl (by decide); rw [← euc, e9]; exact ⟨z1, z2, z3⟩
  obtain ⟨un, eun⟩ : ∃ z, q.2.2.1 uu 2 = z := ⟨_, rfl⟩
  obtain ⟨hun, kun, lun⟩ : un ∈ L ∧ h.1 un = 202 ∧ h.2.1 un = 15 := by obtain ⟨r9, e9, z1, z2, z3⟩ := hV.refn (t := 202) (n := 15) huu kuu 2 rfl (by decide) rfl (by decide); rw [← eun, e9]; exact ⟨z1, z2, z3⟩
  obtain ⟨uf, euf⟩ : ∃ z, q.2.2.1 uu 3 = z := ⟨_, rfl⟩
  obtain ⟨huf, kuf, luf⟩ : uf ∈ L ∧ h.1 uf = 102 ∧ h.2.1 uf = 15 := by obtain ⟨r9, e9, z1, z2, z3⟩ := hV.refn (t := 102) (n := 15) huu kuu 3 rfl (by decide) rfl (by decide); rw [← euf, e9]; exact ⟨z1, z2, z3⟩
  obtain ⟨uw, euw⟩ : ∃ z, q.2.2.1 uu 4 = z := ⟨_, rfl⟩
  obtain ⟨huw, kuw, luw⟩ : uw ∈ L ∧ h.1 uw = 103 ∧ h.2.1 uw = 15 := by obtain ⟨r9, e9, z1, z2, z3⟩ := hV.refn (t := 103) (n := 15) huu kuu 4 rfl (by decide) rfl (by decide); rw [← euw, e9]; exact ⟨z1, z2, z3⟩
  have hu : lc_u (q.1 uu 6) (q.1 a0 20) (q.2.2.2.1 uc) (q.2.2.2.1 m18) (q.2.2.2.1 uf) (q.2.2.2.1 m19) (q.2.2.2.1 uw) (q.2.2.2.2 un) (q.2.2.2.2 m17) := by rw [← euc, ← euf, ← euw, ← eun, xm17, xm18, xm19]; exact hu0
  refine wa_aload_n B dL_law_260 rfl 3 rfl ?_
  refine wa_aload_n B dL_law_261 rfl 4 rfl ?_
  refine wa_iload B dL_law_262 0 rfl ?_
  refine wa_iconst B 1 dL_law_264 (by decide) ?_
  refine wa_iadd B dL_law_265 (fun v_1 ev_1 => ?_)
  subst ev_1
  have t_2 : (i + 1).toInt = i.toInt + 1 := by have b0 := zx_bd i; exact zx_add (show (-2147483648 : Int) ≤ i.toInt + 1 by omega) (show i.toInt + 1 < (2147483648 : Int) by omega)
  refine wa_sld B hX hbl hbA (i := (i + 1)) (show 0 ≤ (i + 1).toInt by omega) (show (i + 1).toInt < (N : Int) by omega) dL_law_266 ?_
  refine wa_aload_n B dL_law_267 rfl 4 rfl ?_
  refine wa_iload B dL_law_268 0 rfl ?_
  refine wa_iconst B 2 dL_law_270 (by decide) ?_
  refine wa_iadd B dL_law_271 (fun v_3 ev_3 => ?_)
  subst ev_3
  have t_4 : (i + 2).toInt = i.toInt + 2 := by have b0 := zx_bd i; exact zx_add (show (-2147483648 : Int) ≤ i.toInt + 2 by omega) (show i.toInt + 2 < (2147483648 : Int) by omega)
  refine wa_sld B hX hbl hbA (i := (i + 2)) (show 0 ≤ (i + 2).toInt by omega) (show (i + 2).toInt < (N : Int) by omega) dL_law_272 ?_
  refine wa_aload_n B dL_law_273 rfl 1 rfl ?_
  refine wa_callZ B (As := [.ref x0, .int ((xs ((i + 1) : Int32).toNatClampNeg)), .int ((xs ((i + 2) : Int32).toNatClampNeg)), .ref ot]) (rest := []) (klz_system l hlst dC dI h L hN q hV (a0 := x0) hx0 kx0 (uu := uu) euu (c0 := uc) euc (f0 := uf) euf ((xs ((i + 1) : Int32).toNatClampNeg)) ((xs ((i + 2) : Int32).toNatClampNeg)) (ot := ot) hot kot lot) (vx_cwSW 4 B.1.2.2.2.2 gL_law_L_system rfl rfl rfl (by decide +kernel) ⟨Nat.le_of_ble_eq_true rfl, Nat.le_of_ble_eq_true rfl⟩) rfl rfl (Nat.le_of_ble_eq_true rfl) dL_law_274 hroom (fun r_6 q_5 w_7 => ?_)
  have B := zl_moreB B
  rcases w_7 with ⟨zk, zt, zq⟩ | ⟨zk, r9, za, zq⟩
  · have eq9 : q = q_5 := zq.symm
    clear zq
    subst eq9
    refine wa_istore B [(5, .int r_6), (4, .int i), (3, .ref ot), (2, .ref a0), (1, .ref x0), (0, .ref b)] dL_law_277 (by decide) rfl ?_
    refine wa_aload_n B dL_law_279 rfl 3 rfl ?_
    refine wa_aload_n B dL_law_280 rfl 5 rfl ?_
    refine wa_iload B dL_law_281 1 rfl ?_
    refine wa_iconst B 1 dL_law_283 (by decide) ?_
    refine wa_iadd B dL_law_284 (fun v_8 ev_8 => ?_)
    subst ev_8
    refine wa_sld B hX hbl hbA (i := (i + 1)) (show 0 ≤ (i + 1).toInt by omega) (show (i + 1).toInt < (N : Int) by omega) dL_law_285 ?_
    refine wa_aload_n B dL_law_286 rfl 5 rfl ?_
    refine wa_iload B dL_law_287 1 rfl ?_
    refine wa_iconst B 2 dL_law_289 (by decide) ?_
    refine wa_iadd B dL_law_290 (fun v_9 ev_9 => ?_)
    subst ev_9
    refine wa_sld B hX hbl hbA (i := (i + 2)) (show 0 ≤ (i + 2).toInt by omega) (show (i + 2).toInt < (N : Int) by omega) dL_law_291 ?_
    refine wa_callVi B (x := (RX12, TX12, 51)) (As := [.int ((xs ((i + 1) : Int32).toNatClampNeg)), .int ((xs ((i + 2) : Int32).toNatClampNeg))]) (rest := []) (k_X12_system_c l dC dI h L hN q hV (a0 := a0) ha0 ka0 ((xs ((i + 1) : Int32).toNatClampNeg)) ((xs ((i + 2) : Int32).toNatClampNeg)) (m18 := m18) em18 (m19 := m19) em19  ) (cwV 2 B.1.2.2.2.2 gL_law_X12_system rfl rfl rfl (by decide +kernel) ⟨Nat.le_of_ble_eq_true rfl, Nat.le_of_ble_eq_true rfl⟩) ha0 ka0 (by decide) rfl rfl rfl (Nat.le_of_ble_eq_true rfl) dL_law_292 (fun r_11 q_10 w_12 => ?_)
    obtain ⟨hV_q_10, h2_q_10, h3_q_10, hw_12⟩ := w_12
    have mN_q_10 : mv_N a0 q_10 := mv_N.eq (h3_q_10.1 8 (by decide)) (h3_q_10.2 11 (by decide)) mN
    have mF_q_10 : mv_F m18 m19 q_10 := mv_F.eq (h2_q_10.G hm18 (show ¬ (h.1 m18 = 12) from (fun z => absurd (z.symm.trans km18) (by decide))) (by rw [km18]; decide)) (h2_q_10.G hm19 (show ¬ (h.1 m19 = 12) from (fun z => absurd (z.symm.trans km19) (by decide))) (by rw [km19]; decide)) mF
    have mU_q_10 : mv_U m17 q_10 := mv_U.eq (h2_q_10.Lg hm17 (show ¬ (h.1 m17 = 12) from (fun z => absurd (z.symm.trans km17) (by decide))) (by rw [km17]; decide)) mU
    have mS_q_10 : mv_S m23 m26 m28 m29 q_10 := mv_S.eq (h2_q_10.G hm23 (show ¬ (h.1 m23 = 12) from (fun z => absurd (z.symm.trans km23) (by decide))) (by rw [km23]; decide)) (h2_q_10.G hm26 (show ¬ (h.1 m26 = 12) from (fun z => absurd (z.symm.trans km26) (by decide))) (by rw [km26]; decide)) (h2_q_10.G hm28 (show ¬ (h.1 m28 = 12) from (fun z => absurd (z.symm.trans km28) (by decide))) (by rw [km28]; decide)) (h2_q_10.G hm29 (show ¬ (h.1 m29 = 12) from (fun z => absurd (z.symm.trans km29) (by decide))) (by rw [km29]; decide)) mS
    have mL_q_10 : mv_L m40 m41 m44 a0 q_10 := mv_L.eq (h2_q_10.G hm40 (show ¬ (h.1 m40 = 12) from (fun z => absurd (z.symm.trans km40) (by decide))) (by rw [km40]; decide)) (h2_q_10.G hm41 (show ¬ (h.1 m41 = 12) from (fun z => absurd (z.symm.trans km41) (by decide))) (by rw [km41]; decide)) (h2_q_10.G hm44 (show ¬ (h.1 m44 = 12) from (fun z => absurd (z.symm.trans km44) (by decide))) (by rw [km44]; decide)) (h3_q_10.1 45 (by decide)) mL
    refine wa_istore B [(6, .int r_11), (5, .int r_6), (4, .int i), (3, .ref ot), (2, .ref a0), (1, .ref x0), (0, .ref b)] dL_law_295 (by decide) rfl ?_
    refine wa_aload_n B dL_law_297 rfl 4 rfl ?_
    refine wa_callVi B (x := (RX12, TX12, 51)) (As := []) (rest := []) (k_X12_thrown_c l dC dI h L hN q_10 hV_q_10 (a0 := a0) ha0 ka0  ) (cwV 0 B.1.2.2.2.2 gL_law_X12_thrown rfl rfl rfl (by decide +kernel) ⟨Nat.le_of_ble_eq_true rfl, Nat.le_of_ble_eq_true rfl⟩) ha0 ka0 (by decide) rfl rfl rfl (Nat.le_of_ble_eq_true rfl) dL_law_298 (fun r_14 q_13 w_15 => ?_)
    obtain ⟨ew_15, hw_15⟩ := w_15
    subst ew_15
    have rr9 : r_14.toInt = 1 := by rcases hw_12.1 with ⟨y1, -, -⟩ | ⟨-, y2⟩; (exact absurd ((lc_u_ok hu).mpr y1) zt); (rw [hw_15]; exact y2)
    refine wa_iload B dL_law_301 1 rfl ?_
    refine wa_icmp_eq B 308 dL_law_303 (by decide) (fun (t_16 : r_14.toInt = r_6.toInt) => ?_) (fun (t_16 : ¬ r_14.toInt = r_6.toInt) => ?_)
    · refine wa_iload B dL_law_308 1 rfl ?_
      refine wa_if_ne B 325 dL_law_310 (by decide) (fun (t_17 : ¬ r_6.toInt = 0) => ?_) (fun (t_17 : r_6.toInt = 0) => ?_)
      · refine wa_goto B 803 dL_law_325 (by decide) ?_
        have z_18 : q_10.1 a0 2 = q.1 a0 2 := h3_q_10.1 2 (by decide)
        have y_19 : (q_10.1 a0 2).toInt = (q.1 a0 2).toInt := by rw [z_18]
        have z_20 : q_10.1 a0 45 = q.1 a0 45 := h3_q_10.1 45 (by decide)
        have y_21 : (q_10.1 a0 45).toInt = (q.1 a0 45).toInt := by rw [z_20]
        have z_22 : q_10.1 t0 1 = q.1 t0 1 := h2_q_10.I ht0 (show ¬ (h.1 t0 = 12) from (fun z => absurd (z.symm.trans kt0) (by decide))) 1
        have y_23 : (q_10.1 t0 1).toInt = (q.1 t0 1).toInt := by rw [z_22]
        have z_24 : q_10.1 x0 14 = q.1 x0 14 := h2_q_10.I hx0 (show ¬ (h.1 x0 = 12) from (fun z => absurd (z.symm.trans kx0) (by decide))) 14
        have y_25 : (q_10.1 x0 14).toInt = (q.1 x0 14).toInt := by rw [z_24]
        have z_26 : q_10.2.2.1 x0 0 = t0 := (h2_q_10.R hx0 (show ¬ ((h.1 x0 = 12) ∧ (h.1 x0 = 8 ∨ h.1 x0 = 11)) from fun z9 => (show ¬ (h.1 x0 = 12) from (fun z => absurd (z.symm.trans kx0) (by decide))) z9.1) 0).trans (et0)
        have z_27 : q_10.2.2.1 t0 0 = tb := (h2_q_10.R ht0 (fun z9 => absurd z9.2 (by omega)) 0).trans (etb)
        have z_28 : q_10.2.2.1 x0 9 = fa := (h2_q_10.R hx0 (show ¬ ((h.1 x0 = 12) ∧ (h.1 x0 = 8 ∨ h.1 x0 = 11)) from fun z9 => (show ¬ (h.1 x0 = 12) from (fun z => absurd (z.symm.trans kx0) (by decide))) z9.1) 9).trans (efa)
        have z_29 : q_10.2.2.2.1 tb = q.2.2.2.1 tb := h2_q_10.G htb (show ¬ (h.1 tb = 12) from (fun z => absurd (z.symm.trans ktb) (by decide))) (by rw [ktb]; decide)
        have z_30 : q_10.2.2.2.1 m1 = q.2.2.2.1 m1 := h2_q_10.G hm1 (show ¬ (h.1 m1 = 12) from (fun z => absurd (z.symm.trans km1) (by decide))) (by rw [km1]; decide)
        have hT9 : ty_T (q_10.2.2.2.1 tb) (q_10.2.2.2.1 m1) (q_10.1 t0 1).toInt.toNat := by rw [z_29, z_30]; exact hT.le (by omega)
        have z_31 : q_10.2.2.2.1 m44 = q.2.2.2.1 m44 := h2_q_10.G hm44 (show ¬ (h.1 m44 = 12) from (fun z => absurd (z.symm.trans km44) (by decide))) (by rw [km44]; decide)
        have hR9 : lc_R h fa m44 x0 q_10 := by
          intro f hf
          obtain ⟨e9, ee9, he9, ke9⟩ := hV.elem (t := 0) hfa kfa (by decide) rfl (j := f) (by omega)
          rw [ee9, show q_10.1 e9 3 = q.1 e9 3 from h2_q_10.I he9 (show ¬ (h.1 e9 = 12) from by omega) 3, ← ee9, z_31]
          exact hR f (by omega)
        refine WA.sub [2, 3, 4, 5, 6] rfl ?_
        have hR_uu : q_10.2.2.1 uu = q.2.2.1 uu := by rw [show q_10.2.2.1 uu = q.2.2.1 uu from h2_q_10.2 uu huu (fun z9 => absurd z9.2 (by rw [kuu]; decide))]
        have hR_su : q_10.2.2.1 su = q.2.2.1 su := by rw [show q_10.2.2.1 su = q.2.2.1 su from h2_q_10.2 su hsu (fun z9 => absurd z9.2 (by rw [ksu]; decide))]
        have z_32 : q_10.1 uu 6 = q.1 uu 6 := h2_q_10.I huu (show ¬ (h.1 uu = 12) from (fun z => absurd (z.symm.trans kuu) (by decide))) 6
        have z_33 : q_10.1 a0 20 = q.1 a0 20 := h3_q_10.1 20 (by decide)
        have z_34 : q_10.2.2.2.1 uc = q.2.2.2.1 uc := h2_q_10.G huc (show ¬ (h.1 uc = 12) from (fun z => absurd (z.symm.trans kuc) (by decide))) (by rw [kuc]; decide)
        have z_35 : q_10.2.2.2.1 m18 = q.2.2.2.1 m18 := h2_q_10.G hm18 (show ¬ (h.1 m18 = 12) from (fun z => absurd (z.symm.trans km18) (by decide))) (by rw [km18]; decide)
        have z_36 : q_10.2.2.2.1 uf = q.2.2.2.1 uf := h2_q_10.G huf (show ¬ (h.1 uf = 12) from (fun z => absurd (z.symm.trans kuf) (by decide))) (by rw [kuf]; decide)
        have z_37 : q_10.2.2.2.1 m19 = q.2.2.2.1 m19 := h2_q_10.G hm19 (show ¬ (h.1 m19 = 12) from (fun z => absurd (z.symm.trans km19) (by decide))) (by rw [km19]; decide)
        have z_38 : q_10.2.2.2.1 uw = q.2.2.2.1 uw := h2_q_10.G huw (show ¬ (h.1 uw = 12) from (fun z => absurd (z.symm.trans kuw) (by decide))) (by rw [kuw]; decide)
        have z_39 : q_10.2.2.2.2 un = q.2.2.2.2 un := h2_q_10.Lg hun (show ¬ (h.1 un = 12) from (fun z => absurd (z.symm.trans kun) (by decide))) (by rw [kun]; decide)
        have z_40 : q_10.2.2.2.2 m17 = q.2.2.2.2 m17 := h2_q_10.Lg hm17 (show ¬ (h.1 m17 = 12) from (fun z => absurd (z.symm.trans km17) (by decide))) (by rw [km17]; decide)
        have hu9 : lc_uq q_10 a0 uu (mm 17) (mm 18) (mm 19) := by unfold lc_uq; rw [← xm17, ← xm18, ← xm19, hR_uu, euc, euf, euw, eun, z_32, z_33, z_34, z_35, z_36, z_37, z_38, z_39, z_40]; exact hu
        have z_41 : q_10.2.2.1 x0 11 = uu := (h2_q_10.R hx0 (show ¬ ((h.1 x0 = 12) ∧ (h.1 x0 = 8 ∨ h.1 x0 = 11)) from fun z9 => (show ¬ (h.1 x0 = 12) from (fun z => absurd (z.symm.trans kx0) (by decide))) z9.1) 11).trans (euu)
        have z_42 : q_10.2.2.1 x0 12 = su := (h2_q_10.R hx0 (show ¬ ((h.1 x0 = 12) ∧ (h.1 x0 = 8 ∨ h.1 x0 = 11)) from fun z9 => (show ¬ (h.1 x0 = 12) from (fun z => absurd (z.symm.trans kx0) (by decide))) z9.1) 12).trans (esu)
        exact hcont _ _ (Or.inr rfl) ⟨⟨⟨hV_q_10, mN_q_10, by rw [← xm18, ← xm19]; exact mF_q_10, by rw [← xm17]; exact mU_q_10, by rw [← xm23, ← xm26, ← xm28, ← xm29]; exact mS_q_10, by rw [← xm40, ← xm41, ← xm44]; exact mL_q_10, z_26, fun k hk => by rw [show q_10.2.2.1 a0 = q.2.2.1 a0 from h2_q_10.2 a0 ha0 (fun z9 => absurd z9.2 (by omega))]; exact em k hk, by omega, by omega⟩, z_27, z_28, by rw [← xm1]; exact hT9, by rw [← xm44]; exact hR9⟩, uu, su, z_41, z_42, hdz.eq hR_uu hR_su, hu9⟩
      · refine wa_aload_n B dL_law_313 rfl 3 rfl ?_
        refine wa_iconst B 0 dL_law_314 (by decide) ?_
        refine wa_laload B hot kot (by decide) (by decide) (show (0 : Int) ≤ _ by decide) (show (0 : Int) < (h.2.1 ot : Int) by omega) (v := (q_10.2.2.2.2 ot (0 : Int32).toNatClampNeg)) rfl dL_law_315 ?_
        refine wa_iload B dL_law_316 0 rfl ?_
        refine wa_i2l B dL_law_318 (fun v_43 ev_43 => ?_)
        refine wa_lcmp B dL_law_319 (fun v_44 ev_44 => ?_)
        refine wa_if_eq B 325 dL_law_320 (by decide) (fun (t_45 : v_44.toInt = 0) => ?_) (fun (t_45 : ¬ v_44.toInt = 0) => ?_)
        · refine wa_goto B 803 dL_law_325 (by decide) ?_
          have z_46 : q_10.1 a0 2 = q.1 a0 2 := h3_q_10.1 2 (by decide)
          have y_47 : (q_10.1 a0 2).toInt = (q.1 a0 2).toInt := by rw [z_46]
          have z_48 : q_10.1 a0 45 = q.1 a0 45 := h3_q_10.1 45 (by decide)
          have y_49 : (q_10.1 a0 45).toInt = (q.1 a0 45).toInt := by rw [z_48]
          have z_50 : q_10.1 t0 1 = q.1 t0 1 := h2_q_10.I ht0 (show ¬ (h.1 t0 = 12) from (fun z => absurd (z.symm.trans kt0) (by decide))) 1
          have y_51 : (q_10.1 t0 1).toInt = (q.1 t0 1).toInt := by rw [z_50]
          have z_52 : q_10.1 x0 14 = q.1 x0 14 := h2_q_10.I hx0 (show ¬ (h.1 x0 = 12) from (fun z => absurd (z.symm.trans kx0) (by decide))) 14
          have y_53 : (q_10.1 x0 14).toInt = (q.1 x0 14).toInt := by rw [z_52]
          have z_54 : q_10.2.2.1 x0 0 = t0 := (h2_q_10.R hx0 (show ¬ ((h.1 x0 = 12) ∧ (h.1 x0 = 8 ∨ h.1 x0 = 11)) from fun z9 => (show ¬ (h.1 x0 = 12) from (fun z => absurd (z.symm.trans kx0) (by decide))) z9.1) 0).trans (et0)
          have z_55 : q_10.2.2.1 t0 0 = tb := (h2_q_10.R ht0 (fun z9 => absurd z9.2 (by omega)) 0).trans (etb)
          have z_56 : q_10.2.2.1 x0 9 = fa := (h2_q_10.R hx0 (show ¬ ((h.1 x0 = 12) ∧ (h.1 x0 = 8 ∨ h.1 x0 = 11)) from fun z9 => (show ¬ (h.1 x0 = 12) from (fun z => absurd (z.symm.trans kx0) (by decide))) z9.1) 9).trans (efa)
          have z_57 : q_10.2.2.2.1 tb = q.2.2.2.1 tb := h2_q_10.G htb (show ¬ (h.1 tb = 12) from (fun z => absurd (z.symm.trans ktb) (by decide))) (by rw [ktb]; decide)
          have z_58 : q_10.2.2.2.1 m1 = q.2.2.2.1 m1 := h2_q_10.G hm1 (show ¬ (h.1 m1 = 12) from (fun z => absurd (z.symm.trans km1) (by decide))) (by rw [km1]; decide)
          have hT9 : ty_T (q_10.2.2.2.1 tb) (q_10.2.2.2.1 m1) (q_10.1 t0 1).toInt.toNat := by rw [z_57, z_58]; exact hT.le (by omega)
          have z_59 : q_10.2.2.2.1 m44 = q.2.2.2.1 m44 := h2_q_10.G hm44 (show ¬ (h.1 m44 = 12) from (fun z => absurd (z.symm.trans km44) (by decide))) (by rw [km44]; decide)
          have hR9 : lc_R h fa m44 x0 q_10 := by
            intro f hf
            obtain ⟨e9, ee9, he9, ke9⟩ := hV.elem (t := 0) hfa kfa (by decide) rfl (j := f) (by omega)
            rw [ee9, show q_10.1 e9 3 = q.1 e9 3 from h2_q_10.I he9 (show ¬ (h.1 e9 = 12) from by omega) 3, ← ee9, z_59]
            exact hR f (by omega)
          refine WA.sub [2, 3, 4, 5, 6] rfl ?_
          have hR_uu : q_10.2.2.1 uu = q.2.2.1 uu := by rw [show q_10.2.2.1 uu = q.2.2.1 uu from h2_q_10.2 uu huu (fun z9 => absurd z9.2 (by rw [kuu]; decide))]
          have hR_su : q_10.2.2.1 su = q.2.2.1 su := by rw [show q_10.2.2.1 su = q.2.2.1 su from h2_q_10.2 su hsu (fun z9 => absurd z9.2 (by rw [ksu]; decide))]
          have z_60 : q_10.1 uu 6 = q.1 uu 6 := h2_q_10.I huu (show ¬ (h.1 uu = 12) from (fun z => absurd (z.symm.trans kuu) (by decide))) 6
          have z_61 : q_10.1 a0 20 = q.1 a0 20 := h3_q_10.1 20 (by decide)
          have z_62 : q_10.2.2.2.1 uc = q.2.2.2.1 uc := h2_q_10.G huc (show ¬ (h.1 uc = 12) from (fun z => absurd (z.symm.trans kuc) (by decide))) (by rw [kuc]; decide)
          have z_63 : q_10.2.2.2.1 m18 = q.2.2.2.1 m18 := h2_q_10.G hm18 (show ¬ (h.1 m18 = 12) from (fun z => absurd (z.symm.trans km18) (by decide))) (by rw [km18]; decide)
          have z_64 : q_10.2.2.2.1 uf = q.2.2.2.1 uf := h2_q_10.G huf (show ¬ (h.1 uf = 12) from (fun z => absurd (z.symm.trans kuf) (by decide))) (by rw [kuf]; decide)
          have z_65 : q_10.2.2.2.1 m19 = q.2.2.2.1 m19 := h2_q_10.G hm19 (show ¬ (h.1 m19 = 12) from (fun z => absurd (z.symm.trans km19) (by decide))) (by rw [km19]; decide)
          have z_66 : q_10.2.2.2.1 uw = q.2.2.2.1 uw := h2_q_10.G huw (show ¬ (h.1 uw = 12) from (fun z => absurd (z.symm.trans kuw) (by decide))) (by rw [kuw]; decide)
          have z_67 : q_10.2.2.2.2 un = q.2.2.2.2 un := h2_q_10.Lg hun (show ¬ (h.1 un = 12) from (fun z => absurd (z.symm.trans kun) (by decide))) (by rw [kun]; decide)
          have z_68 : q_10.2.2.2.2 m17 = q.2.2.2.2 m17 := h2_q_10.Lg hm17 (show ¬ (h.1 m17 = 12) from (fun z => absurd (z.symm.trans km17) (by decide))) (by rw [km17]; decide)
          have hu9 : lc_uq q_10 a0 uu (mm 17) (mm 18) (mm 19) := by unfold lc_uq; rw [← xm17, ← xm18, ← xm19, hR_uu, euc, euf, euw, eun, z_60, z_61, z_62, z_63, z_64, z_65, z_66, z_67, z_68]; exact hu
          have z_69 : q_10.2.2.1 x0 11 = uu := (h2_q_10.R hx0 (show ¬ ((h.1 x0 = 12) ∧ (h.1 x0 = 8 ∨ h.1 x0 = 11)) from fun z9 => (show ¬ (h.1 x0 = 12) from (fun z => absurd (z.symm.trans kx0) (by decide))) z9.1) 11).trans (euu)
          have z_70 : q_10.2.2.1 x0 12 = su := (h2_q_10.R hx0 (show ¬ ((h.1 x0 = 12) ∧ (h.1 x0 = 8 ∨ h.1 x0 = 11)) from fun z9 => (show ¬ (h.1 x0 = 12) from (fun z => absurd (z.symm.trans kx0) (by decide))) z9.1) 12).trans (esu)
          exact hcont _ _ (Or.inr rfl) ⟨⟨⟨hV_q_10, mN_q_10, by rw [← xm18, ← xm19]; exact mF_q_10, by rw [← xm17]; exact mU_q_10, by rw [← xm23, ← xm26, ← xm28, ← xm29]; exact mS_q_10, by rw [← xm40, ← xm41, ← xm44]; exact mL_q_10, z_54, fun k hk => by rw [show q_10.2.2.1 a0 = q.2.2.1 a0 from h2_q_10.2 a0 ha0 (fun z9 => absurd z9.2 (by omega))]; exact em k hk, by omega, by omega⟩, z_55, z_56, by rw [← xm1]; exact hT9, by rw [← xm44]; exact hR9⟩, uu, su, z_69, z_70, hdz.eq hR_uu hR_su, hu9⟩
        · exfalso
          omega
    · exfalso
      omega
  · have hV_q_5 : sx_V h L q_5 := by rw [zq]; exact hV.pL
    have h2_q_5 : sx_fr h L (fun a => False) q q_5 := by rw [zq]; exact sx_fr.pL (Or.inl kot)
    have mN_q_5 : mv_N a0 q_5 := mv_N.eq (h2_q_5.I ha0 (show ¬ (False) from id) 8) (h2_q_5.J ha0 (show ¬ (False) from id) 11) mN
    have mF_q_5 : mv_F m18 m19 q_5 := mv_F.eq (h2_q_5.G hm18 (show ¬ (False) from id) (by rw [km18]; decide)) (h2_q_5.G hm19 (show ¬ (False) from id) (by rw [km19]; decide)) mF
    have mU_q_5 : mv_U m17 q_5 := mv_U.eq (h2_q_5.Lg hm17 (show ¬ (False) from id) (by rw [km17]; decide)) mU
    have mS_q_5 : mv_S m23 m26 m28 m29 q_5 := mv_S.eq (h2_q_5.G hm23 (show ¬ (False) from id) (by rw [km23]; decide)) (h2_q_5.G hm26 (show ¬ (False) from id) (by rw [km26]; decide)) (h2_q_5.G hm28 (show ¬ (False) from id) (by rw [km28]; decide)) (h2_q_5.G hm29 (show ¬ (False) from id) (by rw [km29]; decide)) mS
    have mL_q_5 : mv_L m40 m41 m44 a0 q_5 := mv_L.eq (h2_q_5.G hm40 (show ¬ (False) from id) (by rw [km40]; decide)) (h2_q_5.G hm41 (show ¬ (False) from id) (by rw [km41]; decide)) (h2_q_5.G hm44 (show ¬ (False) from id) (by rw [km44]; decide)) (h2_q_5.I ha0 (show ¬ (False) from id) 45) mL
    have eot : q_5.2.2.2.2 ot = (vp_updL (q.2.2.2.2 ot) 0 r9.toInt64) := by rw [zq]; exact sg_pL_e
    refine wa_istore B [(5, .int r_6), (4, .int i), (3, .ref ot), (2, .ref a0), (1, .ref x0), (0, .ref b)] dL_law_277 (by decide) rfl ?_
    refine wa_aload_n B dL_law_279 rfl 3 rfl ?_
    refine wa_aload_n B dL_law_280 rfl 5 rfl ?_
    refine wa_iload B dL_law_281 1 rfl ?_
    refine wa_iconst B 1 dL_law_283 (by decide) ?_
    refine wa_iadd B dL_law_284 (fun v_71 ev_71 => ?_)
    subst ev_71
    refine wa_sld B hX hbl hbA (i := (i + 1)) (show 0 ≤ (i + 1).toInt by omega) (show (i + 1).toInt < (N : Int) by omega) dL_law_285 ?_
    refine wa_aload_n B dL_law_286 rfl 5 rfl ?_
    refine wa_iload B dL_law_287 1 rfl ?_
    refine wa_iconst B 2 dL_law_289 (by decide) ?_
    refine wa_iadd B dL_law_290 (fun v_72 ev_72 => ?_)
    subst ev_72
    refine wa_sld B hX hbl hbA (i := (i + 2)) (show 0 ≤ (i + 2).toInt by omega) (show (i + 2).toInt < (N : Int) by omega) dL_law_291 ?_
    have z_73 : q_5.2.2.1 a0 18 = m18 := (h2_q_5.R ha0 (fun z9 => absurd z9.2 (by omega)) 18).trans (em18)
    have z_74 : q_5.2.2.1 a0 19 = m19 := (h2_q_5.R ha0 (fun z9 => absurd z9.2 (by omega)) 19).trans (em19)
    have z_75 : q_5.1 a0 20 = q.1 a0 20 := h2_q_5.I ha0 (show ¬ (False) from id) 20
    have y_76 : (q_5.1 a0 20).toInt = (q.1 a0 20).toInt := by rw [z_75]
    have z_77 : q_5.2.2.2.1 m18 = q.2.2.2.1 m18 := h2_q_5.G hm18 (show ¬ (False) from id) (by rw [km18]; decide)
    have z_78 : q_5.2.2.2.1 m19 = q.2.2.2.1 m19 := h2_q_5.G hm19 (show ¬ (False) from id) (by rw [km19]; decide)
    refine wa_callVi B (x := (RX12, TX12, 51)) (As := [.int ((xs ((i + 1) : Int32).toNatClampNeg)), .int ((xs ((i + 2) : Int32).toNatClampNeg))]) (rest := []) (k_X12_system_c l dC dI h L hN q_5 hV_q_5 (a0 := a0) ha0 ka0 ((xs ((i + 1) : Int32).toNatClampNeg)) ((xs ((i + 2) : Int32).toNatClampNeg)) (m18 := m18) z_73 (m19 := m19) z_74  ) (cwV 2 B.1.2.2.2.2 gL_law_X12_system rfl rfl rfl (by decide +kernel) ⟨Nat.le_of_ble_eq_true rfl, Nat.le_of_ble_eq_true rfl⟩) ha0 ka0 (by decide) rfl rfl rfl (Nat.le_of_ble_eq_true rfl) dL_law_292 (fun r_80 q_79 w_81 => ?_)
    obtain ⟨hV_q_79, h2_q_79, h3_q_79, hw_81⟩ := w_81
    have mN_q_79 : mv_N a0 q_79 := mv_N.eq (h3_q_79.1 8 (by decide)) (h3_q_79.2 11 (by decide)) mN_q_5
    have mF_q_79 : mv_F m18 m19 q_79 := mv_F.eq (h2_q_79.G hm18 (show ¬ (h.1 m18 = 12) from (fun z => absurd (z.symm.trans km18) (by decide))) (by rw [km18]; decide)) (h2_q_79.G hm19 (show ¬ (h.1 m19 = 12) from (fun z => absurd (z.symm.trans km19) (by decide))) (by rw [km19]; decide)) mF_q_5
    have mU_q_79 : mv_U m17 q_79 := mv_U.eq (h2_q_79.Lg hm17 (show ¬ (h.1 m17 = 12) from (fun z => absurd (z.symm.trans km17) (by decide))) (by rw [km17]; decide)) mU_q_5
    have mS_q_79 : mv_S m23 m26 m28 m29 q_79 := mv_S.eq (h2_q_79.G hm23 (show ¬ (h.1 m23 = 12) from (fun z => absurd (z.symm.trans km23) (by decide))) (by rw [km23]; decide)) (h2_q_79.G hm26 (show ¬ (h.1 m26 = 12) from (fun z => absurd (z.symm.trans km26) (by decide))) (by rw [km26]; decide)) (h2_q_79.G hm28 (show ¬ (h.1 m28 = 12) from (fun z => absurd (z.symm.trans km28) (by decide))) (by rw [km28]; decide)) (h2_q_79.G hm29 (show ¬ (h.1 m29 = 12) from (fun z => absurd (z.symm.trans km29) (by decide))) (by rw [km29]; decide)) mS_q_5
    have mL_q_79 : mv_L m40 m41 m44 a0 q_79 := mv_L.eq (h2_q_79.G hm40 (show ¬ (h.1 m40 = 12) from (fun z => absurd (z.symm.trans km40) (by decide))) (by rw [km40]; decide)) (h2_q_79.G hm41 (show ¬ (h.1 m41 = 12) from (fun z => absurd (z.symm.trans km41) (by decide))) (by rw [km41]; decide)) (h2_q_79.G hm44 (show ¬ (h.1 m44 = 12) from (fun z => absurd (z.symm.trans km44) (by decide))) (by rw [km44]; decide)) (h3_q_79.1 45 (by decide)) mL_q_5
    have eot2 : q_79.2.2.2.2 ot = (vp_updL (q.2.2.2.2 ot) 0 r9.toInt64) := (congrFun hw_81.2 ot).trans eot
    refine wa_istore B [(6, .int r_80), (5, .int r_6), (4, .int i), (3, .ref ot), (2, .ref a0), (1, .ref x0), (0, .ref b)] dL_law_295 (by decide) rfl ?_
    refine wa_aload_n B dL_law_297 rfl 4 rfl ?_
    refine wa_callVi B (x := (RX12, TX12, 51)) (As := []) (rest := []) (k_X12_thrown_c l dC dI h L hN q_79 hV_q_79 (a0 := a0) ha0 ka0  ) (cwV 0 B.1.2.2.2.2 gL_law_X12_thrown rfl rfl rfl (by decide +kernel) ⟨Nat.le_of_ble_eq_true rfl, Nat.le_of_ble_eq_true rfl⟩) ha0 ka0 (by decide) rfl rfl rfl (Nat.le_of_ble_eq_true rfl) dL_law_298 (fun r_83 q_82 w_84 => ?_)
    obtain ⟨ew_84, hw_84⟩ := w_84
    subst ew_84
    have rr8 : r_83.toInt = 0 ∧ r9 = r_80 := by rcases hw_81.1 with ⟨y1, y2, y3⟩ | ⟨y1, -⟩; (rw [z_75] at y1; rw [z_77, z_78] at y3; exact ⟨by rw [hw_84]; exact y2, lc_u_an hu za.1 za.2 y3⟩); (rw [z_75] at y1; exact absurd ((lc_u_ok hu).mp za.1) y1)
    have rr9 := rr8.1
    refine wa_iload B dL_law_301 1 rfl ?_
    refine wa_icmp_eq B 308 dL_law_303 (by decide) (fun (t_85 : r_83.toInt = r_6.toInt) => ?_) (fun (t_85 : ¬ r_83.toInt = r_6.toInt) => ?_)
    · refine wa_iload B dL_law_308 1 rfl ?_
      refine wa_if_ne B 325 dL_law_310 (by decide) (fun (t_86 : ¬ r_6.toInt = 0) => ?_) (fun (t_86 : r_6.toInt = 0) => ?_)
      · refine wa_goto B 803 dL_law_325 (by decide) ?_
        have z_87 : q_79.1 a0 2 = q.1 a0 2 := (h3_q_79.1 2 (by decide)).trans (h2_q_5.I ha0 (show ¬ (False) from id) 2)
        have y_88 : (q_79.1 a0 2).toInt = (q.1 a0 2).toInt := by rw [z_87]
        have z_89 : q_79.1 a0 45 = q.1 a0 45 := (h3_q_79.1 45 (by decide)).trans (h2_q_5.I ha0 (show ¬ (False) from id) 45)
        have y_90 : (q_79.1 a0 45).toInt = (q.1 a0 45).toInt := by rw [z_89]
        have z_91 : q_79.1 t0 1 = q.1 t0 1 := (h2_q_79.I ht0 (show ¬ (h.1 t0 = 12) from (fun z => absurd (z.symm.trans kt0) (by decide))) 1).trans (h2_q_5.I ht0 (show ¬ (False) from id) 1)
        have y_92 : (q_79.1 t0 1).toInt = (q.1 t0 1).toInt := by rw [z_91]
        have z_93 : q_79.1 x0 14 = q.1 x0 14 := (h2_q_79.I hx0 (show ¬ (h.1 x0 = 12) from (fun z => absurd (z.symm.trans kx0) (by decide))) 14).trans (h2_q_5.I hx0 (show ¬ (False) from id) 14)
        have y_94 : (q_79.1 x0 14).toInt = (q.1 x0 14).toInt := by rw [z_93]
        have z_95 : q_79.2.2.1 x0 0 = t0 := (h2_q_79.R hx0 (show ¬ ((h.1 x0 = 12) ∧ (h.1 x0 = 8 ∨ h.1 x0 = 11)) from fun z9 => (show ¬ (h.1 x0 = 12) from (fun z => absurd (z.symm.trans kx0) (by decide))) z9.1) 0).trans ((h2_q_5.R hx0 (show ¬ ((False) ∧ (h.1 x0 = 8 ∨ h.1 x0 = 11)) from fun z9 => (show ¬ (False) from id) z9.1) 0).trans (et0))
        have z_96 : q_79.2.2.1 t0 0 = tb := (h2_q_79.R ht0 (fun z9 => absurd z9.2 (by omega)) 0).trans ((h2_q_5.R ht0 (fun z9 => absurd z9.2 (by omega)) 0).trans (etb))
        have z_97 : q_79.2.2.1 x0 9 = fa := (h2_q_79.R hx0 (show ¬ ((h.1 x0 = 12) ∧ (h.1 x0 = 8 ∨ h.1 x0 = 11)) from fun z9 => (show ¬ (h.1 x0 = 12) from (fun z => absurd (z.symm.trans kx0) (by decide))) z9.1) 9).trans ((h2_q_5.R hx0 (show ¬ ((False) ∧ (h.1 x0 = 8 ∨ h.1 x0 = 11)) from fun z9 => (show ¬ (False) from id) z9.1) 9).trans (efa))
        have z_98 : q_79.2.2.2.1 tb = q.2.2.2.1 tb := (h2_q_79.G htb (show ¬ (h.1 tb = 12) from (fun z => absurd (z.symm.trans ktb) (by decide))) (by rw [ktb]; decide)).trans (h2_q_5.G htb (show ¬ (False) from id) (by rw [ktb]; decide))
        have z_99 : q_79.2.2.2.1 m1 = q.2.2.2.1 m1 := (h2_q_79.G hm1 (show ¬ (h.1 m1 = 12) from (fun z => absurd (z.symm.trans km1) (by decide))) (by rw [km1]; decide)).trans (h2_q_5.G hm1 (show ¬ (False) from id) (by rw [km1]; decide))
        have hT9 : ty_T (q_79.2.2.2.1 tb) (q_79.2.2.2.1 m1) (q_79.1 t0 1).toInt.toNat := by rw [z_98, z_99]; exact hT.le (by omega)
        have z_100 : q_79.2.2.2.1 m44 = q.2.2.2.1 m44 := (h2_q_79.G hm44 (show ¬ (h.1 m44 = 12) from (fun z => absurd (z.symm.trans km44) (by decide))) (by rw [km44]; decide)).trans (h2_q_5.G hm44 (show ¬ (False) from id) (by rw [km44]; decide))
        have hR9 : lc_R h fa m44 x0 q_79 := by
          intro f hf
          obtain ⟨e9, ee9, he9, ke9⟩ := hV.elem (t := 0) hfa kfa (by decide) rfl (j := f) (by omega)
          rw [ee9, show q_79.1 e9 3 = q_5.1 e9 3 from h2_q_79.I he9 (show ¬ (h.1 e9 = 12) from by omega) 3, show q_5.1 e9 3 = q.1 e9 3 from h2_q_5.I he9 (show ¬ (False) from id) 3, ← ee9, z_100]
          exact hR f (by omega)
        refine WA.sub [2, 3, 4, 5, 6] rfl ?_
        have hR_uu : q_79.2.2.1 uu = q.2.2.1 uu := by rw [show q_79.2.2.1 uu = q_5.2.2.1 uu from h2_q_79.2 uu huu (fun z9 => absurd z9.2 (by rw [kuu]; decide)), show q_5.2.2.1 uu = q.2.2.1 uu from h2_q_5.2 uu huu (fun z9 => absurd z9.2 (by rw [kuu]; decide))]
        have hR_su : q_79.2.2.1 su = q.2.2.1 su := by rw [show q_79.2.2.1 su = q_5.2.2.1 su from h2_q_79.2 su hsu (fun z9 => absurd z9.2 (by rw [ksu]; decide)), show q_5.2.2.1 su = q.2.2.1 su from h2_q_5.2 su hsu (fun z9 => absurd z9.2 (by rw [ksu]; decide))]
        have z_101 : q_79.1 uu 6 = q.1 uu 6 := (h2_q_79.I huu (show ¬ (h.1 uu = 12) from (fun z => absurd (z.symm.trans kuu) (by decide))) 6).trans (h2_q_5.I huu (show ¬ (False) from id) 6)
        have z_102 : q_79.1 a0 20 = (q.1 a0 20) := (h3_q_79.1 20 (by decide)).trans (z_75)
        have z_103 : q_79.2.2.2.1 uc = q.2.2.2.1 uc := (h2_q_79.G huc (show ¬ (h.1 uc = 12) from (fun z => absurd (z.symm.trans kuc) (by decide))) (by rw [kuc]; decide)).trans (h2_q_5.G huc (show ¬ (False) from id) (by rw [kuc]; decide))
        have z_104 : q_79.2.2.2.1 m18 = (q.2.2.2.1 m18) := (h2_q_79.G hm18 (show ¬ (h.1 m18 = 12) from (fun z => absurd (z.symm.trans km18) (by decide))) (by rw [km18]; decide)).trans (z_77)
        have z_105 : q_79.2.2.2.1 uf = q.2.2.2.1 uf := (h2_q_79.G huf (show ¬ (h.1 uf = 12) from (fun z => absurd (z.symm.trans kuf) (by decide))) (by rw [kuf]; decide)).trans (h2_q_5.G huf (show ¬ (False) from id) (by rw [kuf]; decide))
        have z_106 : q_79.2.2.2.1 m19 = (q.2.2.2.1 m19) := (h2_q_79.G hm19 (show ¬ (h.1 m19 = 12) from (fun z => absurd (z.symm.trans km19) (by decide))) (by rw [km19]; decide)).trans (z_78)
        have z_107 : q_79.2.2.2.1 uw = q.2.2.2.1 uw := (h2_q_79.G huw (show ¬ (h.1 uw = 12) from (fun z => absurd (z.symm.trans kuw) (by decide))) (by rw [kuw]; decide)).trans (h2_q_5.G huw (show ¬ (False) from id) (by rw [kuw]; decide))
        have z_108 : q_79.2.2.2.2 un = q.2.2.2.2 un := (h2_q_79.Lg hun (show ¬ (h.1 un = 12) from (fun z => absurd (z.symm.trans kun) (by decide))) (by rw [kun]; decide)).trans (h2_q_5.Lg hun (show ¬ (False) from id) (by rw [kun]; decide))
        have z_109 : q_79.2.2.2.2 m17 = q.2.2.2.2 m17 := (h2_q_79.Lg hm17 (show ¬ (h.1 m17 = 12) from (fun z => absurd (z.symm.trans km17) (by decide))) (by rw [km17]; decide)).trans (h2_q_5.Lg hm17 (show ¬ (False) from id) (by rw [km17]; decide))
        have hu9 : lc_uq q_79 a0 uu (mm 17) (mm 18) (mm 19) := by unfold lc_uq; rw [← xm17, ← xm18, ← xm19, hR_uu, euc, euf, euw, eun, z_101, z_102, z_103, z_104, z_105, z_106, z_107, z_108, z_109]; exact hu
        have z_110 : q_79.2.2.1 x0 11 = uu := (h2_q_79.R hx0 (show ¬ ((h.1 x0 = 12) ∧ (h.1 x0 = 8 ∨ h.1 x0 = 11)) from fun z9 => (show ¬ (h.1 x0 = 12) from (fun z => absurd (z.symm.trans kx0) (by decide))) z9.1) 11).trans ((h2_q_5.R hx0 (show ¬ ((False) ∧ (h.1 x0 = 8 ∨ h.1 x0 = 11)) from fun z9 => (show ¬ (False) from id) z9.1) 11).trans (euu))
        have z_111 : q_79.2.2.1 x0 12 = su := (h2_q_79.R hx0 (show ¬ ((h.1 x0 = 12) ∧ (h.1 x0 = 8 ∨ h.1 x0 = 11)) from fun z9 => (show ¬ (h.1 x0 = 12) from (fun z => absurd (z.symm.trans kx0) (by decide))) z9.1) 12).trans ((h2_q_5.R hx0 (show ¬ ((False) ∧ (h.1 x0 = 8 ∨ h.1 x0 = 11)) from fun z9 => (show ¬ (False) from id) z9.1) 12).trans (esu))
        exact hcont _ _ (Or.inr rfl) ⟨⟨⟨hV_q_79, mN_q_79, by rw [← xm18, ← xm19]; exact mF_q_79, by rw [← xm17]; exact mU_q_79, by rw [← xm23, ← xm26, ← xm28, ← xm29]; exact mS_q_79, by rw [← xm40, ← xm41, ← xm44]; exact mL_q_79, z_95, fun k hk => by rw [show q_79.2.2.1 a0 = q_5.2.2.1 a0 from h2_q_79.2 a0 ha0 (fun z9 => absurd z9.2 (by omega)), show q_5.2.2.1 a0 = q.2.2.1 a0 from h2_q_5.2 a0 ha0 (fun z9 => absurd z9.2 (by omega))]; exact em k hk, by omega, by omega⟩, z_96, z_97, by rw [← xm1]; exact hT9, by rw [← xm44]; exact hR9⟩, uu, su, z_110, z_111, hdz.eq hR_uu hR_su, hu9⟩
      · refine wa_aload_n B dL_law_313 rfl 3 rfl ?_
        refine wa_iconst B 0 dL_law_314 (by decide) ?_
        have z_112 : q_79.2.2.2.2 ot (0 : Int32).toNatClampNeg = (vp_updL (q.2.2.2.2 ot) 0 r9.toInt64 (0 : Int32).toNatClampNeg) := congrFun eot2 _
        refine wa_laload B hot kot (by decide) (by decide) (show (0 : Int) ≤ _ by decide) (show (0 : Int) < (h.2.1 ot : Int) by omega) (v := (vp_updL (q.2.2.2.2 ot) 0 r9.toInt64 (0 : Int32).toNatClampNeg)) z_112 dL_law_315 ?_
        refine wa_iload B dL_law_316 0 rfl ?_
        refine wa_i2l B dL_law_318 (fun v_113 ev_113 => ?_)
        refine wa_lcmp B dL_law_319 (fun v_114 ev_114 => ?_)
        have zc9 : v_114.toInt = 0 := by rw [ev_114]; exact pz_cmp.mpr ((show ((vp_updL (q.2.2.2.2 ot) 0 r9.toInt64 (0 : Int32).toNatClampNeg) : Int64) = r9.toInt64 from if_pos rfl).trans (by rw [ev_113, rr8.2]))
        refine wa_if_eq B 325 dL_law_320 (by decide) (fun (t_115 : v_114.toInt = 0) => ?_) (fun (t_115 : ¬ v_114.toInt = 0) => ?_)
        · refine wa_goto B 803 dL_law_325 (by decide) ?_
          have z_116 : q_79.1 a0 2 = q.1 a0 2 := (h3_q_79.1 2 (by decide)).trans (h2_q_5.I ha0 (show ¬ (False) from id) 2)
          have y_117 : (q_79.1 a0 2).toInt = (q.1 a0 2).toInt := by rw [z_116]
          have z_118 : q_79.1 a0 45 = q.1 a0 45 := (h3_q_79.1 45 (by decide)).trans (h2_q_5.I ha0 (show ¬ (False) from id) 45)
          have y_119 : (q_79.1 a0 45).toInt = (q.1 a0 45).toInt := by rw [z_118]
          have z_120 : q_79.1 t0 1 = q.1 t0 1 := (h2_q_79.I ht0 (show ¬ (h.1 t0 = 12) from (fun z => absurd (z.symm.trans kt0) (by decide))) 1).trans (h2_q_5.I ht0 (show ¬ (False) from id) 1)
          have y_121 : (q_79.1 t0 1).toInt = (q.1 t0 1).toInt := by rw [z_120]
          have z_122 : q_79.1 x0 14 = q.1 x0 14 := (h2_q_79.I hx0 (show ¬ (h.1 x0 = 12) from (fun z => absurd (z.symm.trans kx0) (by decide))) 14).trans (h2_q_5.I hx0 (show ¬ (False) from id) 14)
          have y_123 : (q_79.1 x0 14).toInt = (q.1 x0 14).toInt := by rw [z_122]
          have z_124 : q_79.2.2.1 x0 0 = t0 := (h2_q_79.R hx0 (show ¬ ((h.1 x0 = 12) ∧ (h.1 x0 = 8 ∨ h.1 x0 = 11)) from fun z9 => (show ¬ (h.1 x0 = 12) from (fun z => absurd (z.symm.trans kx0) (by decide))) z9.1) 0).trans ((h2_q_5.R hx0 (show ¬ ((False) ∧ (h.1 x0 = 8 ∨ h.1 x0 = 11)) from fun z9 => (show ¬ (False) from id) z9.1) 0).trans (et0))
          have z_125 : q_79.2.2.1 t0 0 = tb := (h2_q_79.R ht0 (fun z9 => absurd z9.2 (by omega)) 0).trans ((h2_q_5.R ht0 (fun z9 => absurd z9.2 (by omega)) 0).trans (etb))
          have z_126 : q_79.2.2.1 x0 9 = fa := (h2_q_79.R hx0 (show ¬ ((h.1 x0 = 12) ∧ (h.1 x0 = 8 ∨ h.1 x0 = 11)) from fun z9 => (show ¬ (h.1 x0 = 12) from (fun z => absurd (z.symm.trans kx0) (by decide))) z9.1) 9).trans ((h2_q_5.R hx0 (show ¬ ((False) ∧ (h.1 x0 = 8 ∨ h.1 x0 = 11)) from fun z9 => (show ¬ (False) from id) z9.1) 9).trans (efa))
          have z_127 : q_79.2.2.2.1 tb = q.2.2.2.1 tb := (h2_q_79.G htb (show ¬ (h.1 tb = 12) from (fun z => absurd (z.symm.trans ktb) (by decide))) (by rw [ktb]; decide)).trans (h2_q_5.G htb (show ¬ (False) from id) (by rw [ktb]; decide))
          have z_128 : q_79.2.2.2.1 m1 = q.2.2.2.1 m1 := (h2_q_79.G hm1 (show ¬ (h.1 m1 = 12) from (fun z => absurd (z.symm.trans km1) (by decide))) (by rw [km1]; decide)).trans (h2_q_5.G hm1 (show ¬ (False) from id) (by rw [km1]; decide))
          have hT9 : ty_T (q_79.2.2.2.1 tb) (q_79.2.2.2.1 m1) (q_79.1 t0 1).toInt.toNat := by rw [z_127, z_128]; exact hT.le (by omega)
          have z_129 : q_79.2.2.2.1 m44 = q.2.2.2.1 m44 := (h2_q_79.G hm44 (show ¬ (h.1 m44 = 12) from (fun z => absurd (z.symm.trans km44) (by decide))) (by rw [km44]; decide)).trans (h2_q_5.G hm44 (show ¬ (False) from id) (by rw [km44]; decide))
          have hR9 : lc_R h fa m44 x0 q_79 := by
            intro f hf
            obtain ⟨e9, ee9, he9, ke9⟩ := hV.elem (t := 0) hfa kfa (by decide) rfl (j := f) (by omega)
            rw [ee9, show q_79.1 e9 3 = q_5.1 e9 3 from h2_q_79.I he9 (show ¬ (h.1 e9 = 12) from by omega) 3, show q_5.1 e9 3 = q.1 e9 3 from h2_q_5.I he9 (show ¬ (False) from id) 3, ← ee9, z_129]
            exact hR f (by omega)
          refine WA.sub [2, 3, 4, 5, 6] rfl ?_
          have hR_uu : q_79.2.2.1 uu = q.2.2.1 uu := by rw [show q_79.2.2.1 uu = q_5.2.2.1 uu from h2_q_79.2 uu huu (fun z9 => absurd z9.2 (by rw [kuu]; decide)), show q_5.2.2.1 uu = q.2.2.1 uu from h2_q_5.2 uu huu (fun z9 => absurd z9.2 (by rw [kuu]; decide))]
          have hR_su : q_79.2.2.1 su = q.2.2.1 su := by rw [show q_79.2.2.1 su = q_5.2.2.1 su from h2_q_79.2 su hsu (fun z9 => absurd z9.2 (by rw [ksu]; decide)), show q_5.2.2.1 su = q.2.2.1 su from h2_q_5.2 su hsu (fun z9 => absurd z9.2 (by rw [ksu]; decide))]
          have z_130 : q_79.1 uu 6 = q.1 uu 6 := (h2_q_79.I huu (show ¬ (h.1 uu = 12) from (fun z => absurd (z.symm.trans kuu) (by decide))) 6).trans (h2_q_5.I huu (show ¬ (False) from id) 6)
          have z_131 : q_79.1 a0 20 = (q.1 a0 20) := (h3_q_79.1 20 (by decide)).trans (z_75)
          have z_132 : q_79.2.2.2.1 uc = q.2.2.2.1 uc := (h2_q_79.G huc (show ¬ (h.1 uc = 12) from (fun z => absurd (z.symm.trans kuc) (by decide))) (by rw [kuc]; decide)).trans (h2_q_5.G huc (show ¬ (False) from id) (by rw [kuc]; decide))
          have z_133 : q_79.2.2.2.1 m18 = (q.2.2.2.1 m18) := (h2_q_79.G hm18 (show ¬ (h.1 m18 = 12) from (fun z => absurd (z.symm.trans km18) (by decide))) (by rw [km18]; decide)).trans (z_77)
          have z_134 : q_79.2.2.2.1 uf = q.2.2.2.1 uf := (h2_q_79.G huf (show ¬ (h.1 uf = 12) from (fun z => absurd (z.symm.trans kuf) (by decide))) (by rw [kuf]; decide)).trans (h2_q_5.G huf (show ¬ (False) from id) (by rw [kuf]; decide))
          have z_135 : q_79.2.2.2.1 m19 = (q.2.2.2.1 m19) := (h2_q_79.G hm19 (show ¬ (h.1 m19 = 12) from (fun z => absurd (z.symm.trans km19) (by decide))) (by rw [km19]; decide)).trans (z_78)
          have z_136 : q_79.2.2.2.1 uw = q.2.2.2.1 uw := (h2_q_79.G huw (show ¬ (h.1 uw = 12) from (fun z => absurd (z.symm.trans kuw) (by decide))) (by rw [kuw]; decide)).trans (h2_q_5.G huw (show ¬ (False) from id) (by rw [kuw]; decide))
          have z_137 : q_79.2.2.2.2 un = q.2.2.2.2 un := (h2_q_79.Lg hun (show ¬ (h.1 un = 12) from (fun z => absurd (z.symm.trans kun) (by decide))) (by rw [kun]; decide)).trans (h2_q_5.Lg hun (show ¬ (False) from id) (by rw [kun]; decide))
          have z_138 : q_79.2.2.2.2 m17 = q.2.2.2.2 m17 := (h2_q_79.Lg hm17 (show ¬ (h.1 m17 = 12) from (fun z => absurd (z.symm.trans km17) (by decide))) (by rw [km17]; decide)).trans (h2_q_5.Lg hm17 (show ¬ (False) from id) (by rw [km17]; decide))
          have hu9 : lc_uq q_79 a0 uu (mm 17) (mm 18) (mm 19) := by unfold lc_uq; rw [← xm17, ← xm18, ← xm19, hR_uu, euc, euf, euw, eun, z_130, z_131, z_132, z_133, z_134, z_135, z_136, z_137, z_138]; exact hu
          have z_139 : q_79.2.2.1 x0 11 = uu := (h2_q_79.R hx0 (show ¬ ((h.1 x0 = 12) ∧ (h.1 x0 = 8 ∨ h.1 x0 = 11)) from fun z9 => (show ¬ (h.1 x0 = 12) from (fun z => absurd (z.symm.trans kx0) (by decide))) z9.1) 11).trans ((h2_q_5.R hx0 (show ¬ ((False) ∧ (h.1 x0 = 8 ∨ h.1 x0 = 11)) from fun z9 => (show ¬ (False) from id) z9.1) 11).trans (euu))
          have z_140 : q_79.2.2.1 x0 12 = su := (h2_q_79.R hx0 (show ¬ ((h.1 x0 = 12) ∧ (h.1 x0 = 8 ∨ h.1 x0 = 11)) from fun z9 => (show ¬ (h.1 x0 = 12) from (fun z => absurd (z.symm.trans kx0) (by decide))) z9.1) 12).trans ((h2_q_5.R hx0 (show ¬ ((False) ∧ (h.1 x0 = 8 ∨ h.1 x0 = 11)) from fun z9 => (show ¬ (False) from id) z9.1) 12).trans (esu))
          exact hcont _ _ (Or.inr rfl) ⟨⟨⟨hV_q_79, mN_q_79, by rw [← xm18, ← xm19]; exact mF_q_79, by rw [← xm17]; exact mU_q_79, by rw [← xm23, ← xm26, ← xm28, ← xm29]; exact mS_q_79, by rw [← xm40, ← xm41, ← xm44]; exact mL_q_79, z_124, fun k hk => by rw [show q_79.2.2.1 a0 = q_5.2.2.1 a0 from h2_q_79.2 a0 ha0 (fun z9 => absurd z9.2 (by omega)), show q_5.2.2.1 a0 = q.2.2.1 a0 from h2_q_5.2 a0 ha0 (fun z9 => absurd z9.2 (by omega))]; exact em k hk, by omega, by omega⟩, z_125, z_126, by rw [← xm1]; exact hT9, by rw [← xm44]; exact hR9⟩, uu, su, z_139, z_140, hdz.eq hR_uu hR_su, hu9⟩
        · exfalso
          omega
    · exfalso
      omega
