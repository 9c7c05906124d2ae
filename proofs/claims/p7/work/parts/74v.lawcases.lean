set_option maxHeartbeats 4000000 in
set_option maxRecDepth 100000 in
theorem lc6_300 (l : Launch) (hlst : l.stackTraces = false) {Z : Zt} (dC : Nat → ClassId) (dI : Nat → Nat → Nat) (h : Sh) (L : List Nat) (hN : sx_nd L) (B : BX dC dI h L 7 cL_law RL wsL_law Z) {b N : Nat} {xs : Nat → Int32} (hX : va_X b N xs Z.2.2.1 Z.2.2.1.heap) (hbl : b < Z.2.2.1.heap.size) (hbA : ¬ AL L Z.2.2.1.heap.size b) {x0 a0 ot t0 tb fa : Nat} (hfd : lc_fd h fa) {mm : Nat → Nat} (hx0 : x0 ∈ L) (kx0 : h.1 x0 = 11) (ha0 : a0 ∈ L) (ka0 : h.1 a0 = 12) (hot : ot ∈ L) (kot : h.1 ot = 200) (lot : h.2.1 ot = 1) {i : Int32} (hi0 : 0 ≤ i.toInt) (hi1 : i.toInt + 6 ≤ (N : Int)) (hN2 : N ≤ 3072) (hroom : (zl_more Z).2.2.2.2.2.2.2.2.2.1 ≤ room_1.cells ∧ (zl_more Z).2.2.2.2.2.2.2.2.2.2 ≤ room_1.slots) {q : Sg} (hI : lc_I8 h L x0 a0 t0 tb fa mm q) (hcont : ∀ (Z2 : Zt) (q2 : Sg), (Z2 = Z ∨ Z2 = zl_more Z) → lc_I8 h L x0 a0 t0 tb fa mm q2 → WA l dC dI h L room_1 7 Z2 q2 775 [(4, .int i), (3, .ref ot), (2, .ref a0), (1, .ref x0), (0, .ref b)] []) : WA l dC dI h L room_1 7 Z q 300 [(4, .int i), (3, .ref ot), (2, .ref a0), (1, .ref x0), (0, .ref b)] [] := by
  obtain ⟨hI, uu, su, o0, ob, euu, esu, hdz, hu0, ⟨eo0, eob⟩, hout0⟩ := hI
  obtain ⟨hI, etb, efa, hT0, hR0⟩ := hI
  obtain ⟨hV, mN, mF0, mU0, mS0, mL0, et0, em, hte, hfe⟩ := hI
  obtain ⟨ht0, kt0, lt0⟩ : t0 ∈ L ∧ h.1 t0 = 7 ∧ h.2.1 t0 = 1 := by obtain ⟨r9, e9, z1, z2, z3⟩ := hV.refn (t := 7) (n := 1) hx0 kx0 0 rfl (by decide) rfl (by decide); rw [← et0, e9]; exact ⟨z1, z2, z3⟩
  obtain ⟨m1, xm1⟩ : ∃ z, z = mm 1 := ⟨_, rfl⟩
  have em1 : q.2.2.1 a0 1 = m1 := by rw [xm1]; exact em 1 (by decide)
  obtain ⟨hm1, km1, lm1⟩ : m1 ∈ L ∧ h.1 m1 = 111 ∧ h.2.1 m1 = 440 := by obtain ⟨r9, e9, z1, z2, z3⟩ := hV.refn (t := 111) (n := 440) ha0 ka0 1 rfl (by decide) rfl (by decide); rw [← em1, e9]; exact ⟨z1, z2, z3⟩
  obtain ⟨m3, xm3⟩ : ∃ z, z = mm 3 := ⟨_, rfl⟩
  have em3 : q.2.2.1 a0 3 = m3 := by rw [xm3]; exact em 3 (by decide)
  obtain ⟨hm3, km3, lm3⟩ : m3 ∈ L ∧ h.1 m3 = 113 ∧ h.2.1 m3 = 500 := by obtain ⟨r9, e9, z1, z2, z3⟩ := hV.refn (t := 113) (n := 500) ha0 ka0 3 rfl (by decide) rfl (by decide); rw [← em3, e9]; exact ⟨z1, z2, z3⟩
  obtain ⟨m16, xm16⟩ : ∃ z, z = mm 16 := ⟨_, rfl⟩
  have em16 : q.2.2.1 a0 16 = m16 := by rw [xm16]; exact em 16 (by decide)
  obtain ⟨hm16, km16, lm16⟩ : m16 ∈ L ∧ h.1 m16 = 226 ∧ h.2.1 m16 = 6 := by obtain ⟨r9, e9, z1, z2, z3⟩ := hV.refn (t := 226) (n := 6) ha0 ka0 16 rfl (by decide) rfl (by decide); rw [← em16, e9]; exact ⟨z1, z2, z3⟩
  obtain ⟨m17, xm17⟩ : ∃ z, z = mm 17 := ⟨_, rfl⟩
  have em17 : q.2.2.1 a0 17 = m17 := by rw [xm17]; exact em 17 (by decide)
  obtain ⟨hm17, km17, lm17⟩ : m17 ∈ L ∧ h.1 m17 = 227 ∧ h.2.1 m17 = 30 := by obtain ⟨r9, e9, z1, z2, z3⟩ := hV.refn (t := 227) (n := 30) ha0 ka0 17 rfl (by decide) rfl (by decide); rw [← em17, e9]; exact ⟨z1, z2, z3⟩
  obtain ⟨m18, xm18⟩ : ∃ z, z = mm 18 := ⟨_, rfl⟩
  have em18 : q.2.2.1 a0 18 = m18 := by rw [xm18]; exact em 18 (by decide)
  obtain ⟨hm18, km18, lm18⟩ : m18 ∈ L ∧ h.1 m18 = 128 ∧ h.2.1 m18 = 6 := by obtain ⟨r9, e9, z1, z2, z3⟩ := hV.refn (t := 128) (n := 6) ha0 ka0 18 rfl (by decide) rfl (by decide); rw [← em18, e9]; exact ⟨z1, z2, z3⟩
  obtain ⟨m19, xm19⟩ : ∃ z, z = mm 19 := ⟨_, rfl⟩
  have em19 : q.2.2.1 a0 19 = m19 := by rw [xm19]; exact em 19 (by decide)
  obtain ⟨hm19, km19, lm19⟩ : m19 ∈ L ∧ h.1 m19 = 129 ∧ h.2.1 m19 = 30 := by obtain ⟨r9, e9, z1, z2, z3⟩ := hV.refn (t := 129) (n := 30) ha0 ka0 19 rfl (by decide) rfl (by decide); rw [← em19, e9]; exact ⟨z1, z2, z3⟩
  obtain ⟨m21, xm21⟩ : ∃ z, z = mm 21 := ⟨_, rfl⟩
  have em21 : q.2.2.1 a0 21 = m21 := by rw [xm21]; exact em 21 (by decide)
  obtain ⟨hm21, km21, lm21⟩ : m21 ∈ L ∧ h.1 m21 = 131 ∧ h.2.1 m21 = 80 := by obtain ⟨r9, e9, z1, z2, z3⟩ := hV.refn (t := 131) (n := 80) ha0 ka0 21 rfl (by decide) rfl (by decide); rw [← em21, e9]; exact ⟨z1, z2, z3⟩
  obtain ⟨m23, xm23⟩ : ∃ z, z = mm 23 := ⟨_, rfl⟩
  have em23 : q.2.2.1 a0 23 = m23 := by rw [xm23]; exact em 23 (by decide)
  obtain ⟨hm23, km23, lm23⟩ : m23 ∈ L ∧ h.1 m23 = 133 ∧ h.2.1 m23 = 9 := by obtain ⟨r9, e9, z1, z2, z3⟩ := hV.refn (t := 133) (n := 9) ha0 ka0 23 rfl (by decide) rfl (by decide); rw [← em23, e9]; exact ⟨z1, z2, z3⟩
  obtain ⟨m24, xm24⟩ : ∃ z, z = mm 24 := ⟨_, rfl⟩
  have em24 : q.2.2.1 a0 24 = m24 := by rw [xm24]; exact em 24 (by decide)
  obtain ⟨hm24, km24, lm24⟩ : m24 ∈ L ∧ h.1 m24 = 134 ∧ h.2.1 m24 = 108 := by obtain ⟨r9, e9, z1, z2, z3⟩ := hV.refn (t := 134) (n := 108) ha0 ka0 24 rfl (by decide) rfl (by decide); rw [← em24, e9]; exact ⟨z1, z2, z3⟩
  obtain ⟨m25, xm25⟩ : ∃ z, z = mm 25 := ⟨_, rfl⟩
  have em25 : q.2.2.1 a0 25 = m25 := by rw [xm25]; exact em 25 (by decide)
  obtain ⟨hm25, km25, lm25⟩ : m25 ∈ L ∧ h.1 m25 = 135 ∧ h.2.1 m25 = 108 := by obtain ⟨r9, e9, z1, z2, z3⟩ := hV.refn (t := 135) (n := 108) ha0 ka0 25 rfl (by decide) rfl (by decide); rw [← em25, e9]; exact ⟨z1, z2, z3⟩
  obtain ⟨m26, xm26⟩ : ∃ z, z = mm 26 := ⟨_, rfl⟩
  have em26 : q.2.2.1 a0 26 = m26 := by rw [xm26]; exact em 26 (by decide)
  obtain ⟨hm26, km26, lm26⟩ : m26 ∈ L ∧ h.1 m26 = 136 ∧ h.2.1 m26 = 108 := by obtain ⟨r9, e9, z1, z2, z3⟩ := hV.refn (t := 136) (n := 108) ha0 ka0 26 rfl (by decide) rfl (by decide); rw [← em26, e9]; exact ⟨z1, z2, z3⟩
  obtain ⟨m27, xm27⟩ : ∃ z, z = mm 27 := ⟨_, rfl⟩
  have em27 : q.2.2.1 a0 27 = m27 := by rw [xm27]; exact em 27 (by decide)
  obtain ⟨hm27, km27, lm27⟩ : m27 ∈ L ∧ h.1 m27 = 137 ∧ h.2.1 m27 = 9 := by obtain ⟨r9, e9, z1, z2, z3⟩ := hV.refn (t := 137) (n := 9) ha0 ka0 27 rfl (by decide) rfl (by decide); rw [← em27, e9]; exact ⟨z1, z2, z3⟩
  obtain ⟨m28, xm28⟩ : ∃ z, z = mm 28 := ⟨_, rfl⟩
  have em28 : q.2.2.1 a0 28 = m28 := by rw [xm28]; exact em 28 (by decide)
  obtain ⟨hm28, km28, lm28⟩ : m28 ∈ L ∧ h.1 m28 = 138 ∧ h.2.1 m28 = 540 := by obtain ⟨r9, e9, z1, z2, z3⟩ := hV.refn (t := 138) (n := 540) ha0 ka0 28 rfl (by decide) rfl (by decide); rw [← em28, e9]; exact ⟨z1, z2, z3⟩
  obtain ⟨m29, xm29⟩ : ∃ z, z = mm 29 := ⟨_, rfl⟩
  have em29 : q.2.2.1 a0 29 = m29 := by rw [xm29]; exact em 29 (by decide)
  obtain ⟨hm29, km29, lm29⟩ : m29 ∈ L ∧ h.1 m29 = 139 ∧ h.2.1 m29 = 540 := by obtain ⟨r9, e9, z1, z2, z3⟩ := hV.refn (t := 139) (n := 540) ha0 ka0 29 rfl (by decide) rfl (by decide); rw [← em29, e9]; exact ⟨z1, z2, z3⟩
  obtain ⟨m30, xm30⟩ : ∃ z, z = mm 30 := ⟨_, rfl⟩
  have em30 : q.2.2.1 a0 30 = m30 := by rw [xm30]; exact em 30 (by decide)
  obtain ⟨hm30, km30, lm30⟩ : m30 ∈ L ∧ h.1 m30 = 140 ∧ h.2.1 m30 = 540 := by obtain ⟨r9, e9, z1, z2, z3⟩ := hV.refn (t := 140) (n := 540) ha0 ka0 30 rfl (by decide) rfl (by decide); rw [← em30, e9]; exact ⟨z1, z2, z3⟩
  obtain ⟨m34, xm34⟩ : ∃ z, z = mm 34 := ⟨_, rfl⟩
  have em34 : q.2.2.1 a0 34 = m34 := by rw [xm34]; exact em 34 (by decide)
  obtain ⟨hm34, km34, lm34⟩ : m34 ∈ L ∧ h.1 m34 = 144 ∧ h.2.1 m34 = 4 := by obtain ⟨r9, e9, z1, z2, z3⟩ := hV.refn (t := 144) (n := 4) ha0 ka0 34 rfl (by decide) rfl (by decide); rw [← em34, e9]; exact ⟨z1, z2, z3⟩
  obtain ⟨m35, xm35⟩ : ∃ z, z = mm 35 := ⟨_, rfl⟩
  have em35 : q.2.2.1 a0 35 = m35 := by rw [xm35]; exact em 35 (by decide)
  obtain ⟨hm35, km35, lm35⟩ : m35 ∈ L ∧ h.1 m35 = 245 ∧ h.2.1 m35 = 12 := by obtain ⟨r9, e9, z1, z2, z3⟩ := hV.refn (t := 245) (n := 12) ha0 ka0 35 rfl (by decide) rfl (by decide); rw [← em35, e9]; exact ⟨z1, z2, z3⟩
  obtain ⟨m40, xm40⟩ : ∃ z, z = mm 40 := ⟨_, rfl⟩
  have em40 : q.2.2.1 a0 40 = m40 := by rw [xm40]; exact em 40 (by decide)
  obtain ⟨hm40, km40, lm40⟩ : m40 ∈ L ∧ h.1 m40 = 150 ∧ h.2.1 m40 = 2400 := by obtain ⟨r9, e9, z1, z2, z3⟩ := hV.refn (t := 150) (n := 2400) ha0 ka0 40 rfl (by decide) rfl (by decide); rw [← em40, e9]; exact ⟨z1, z2, z3⟩
  obtain ⟨m41, xm41⟩ : ∃ z, z = mm 41 := ⟨_, rfl⟩
  have em41 : q.2.2.1 a0 41 = m41 := by rw [xm41]; exact em 41 (by decide)
  obtain ⟨hm41, km41, lm41⟩ : m41 ∈ L ∧ h.1 m41 = 151 ∧ h.2.1 m41 = 12 := by obtain ⟨r9, e9, z1, z2, z3⟩ := hV.refn (t := 151) (n := 12) ha0 ka0 41 rfl (by decide) rfl (by decide); rw [← em41, e9]; exact ⟨z1, z2, z3⟩
  obtain ⟨m42, xm42⟩ : ∃ z, z = mm 42 := ⟨_, rfl⟩
  have em42 : q.2.2.1 a0 42 = m42 := by rw [xm42]; exact em 42 (by decide)
  obtain ⟨hm42, km42, lm42⟩ : m42 ∈ L ∧ h.1 m42 = 152 ∧ h.2.1 m42 = 12 := by obtain ⟨r9, e9, z1, z2, z3⟩ := hV.refn (t := 152) (n := 12) ha0 ka0 42 rfl (by decide) rfl (by decide); rw [← em42, e9]; exact ⟨z1, z2, z3⟩
  obtain ⟨m43, xm43⟩ : ∃ z, z = mm 43 := ⟨_, rfl⟩
  have em43 : q.2.2.1 a0 43 = m43 := by rw [xm43]; exact em 43 (by decide)
  obtain ⟨hm43, km43, lm43⟩ : m43 ∈ L ∧ h.1 m43 = 153 ∧ h.2.1 m43 = 12 := by obtain ⟨r9, e9, z1, z2, z3⟩ := hV.refn (t := 153) (n := 12) ha0 ka0 43 rfl (by decide) rfl (by decide); rw [← em43, e9]; exact ⟨z1, z2, z3⟩
  obtain ⟨m44, xm44⟩ : ∃ z, z = mm 44 := ⟨_, rfl⟩
  have em44 : q.2.2.1 a0 44 = m44 := by rw [xm44]; exact em 44 (by decide)
  obtain ⟨hm44, km44, lm44⟩ : m44 ∈ L ∧ h.1 m44 = 154 ∧ h.2.1 m44 = 12 := by obtain ⟨r9, e9, z1, z2, z3⟩ := hV.refn (t := 154) (n := 12) ha0 ka0 44 rfl (by decide) rfl (by decide); rw [← em44, e9]; exact ⟨z1, z2, z3⟩
  obtain ⟨m46, xm46⟩ : ∃ z, z = mm 46 := ⟨_, rfl⟩
  have em46 : q.2.2.1 a0 46 = m46 := by rw [xm46]; exact em 46 (by decide)
  obtain ⟨hm46, km46, lm46⟩ : m46 ∈ L ∧ h.1 m46 = 156 ∧ h.2.1 m46 = 144 := by obtain ⟨r9, e9, z1, z2, z3⟩ := hV.refn (t := 156) (n := 144) ha0 ka0 46 rfl (by decide) rfl (by decide); rw [← em46, e9]; exact ⟨z1, z2, z3⟩
  obtain ⟨m47, xm47⟩ : ∃ z, z = mm 47 := ⟨_, rfl⟩
  have em47 : q.2.2.1 a0 47 = m47 := by rw [xm47]; exact em 47 (by decide)
  obtain ⟨hm47, km47, lm47⟩ : m47 ∈ L ∧ h.1 m47 = 157 ∧ h.2.1 m47 = 4096 := by obtain ⟨r9, e9, z1, z2, z3⟩ := hV.refn (t := 157) (n := 4096) ha0 ka0 47 rfl (by decide) rfl (by decide); rw [← em47, e9]; exact ⟨z1, z2, z3⟩
  obtain ⟨m48, xm48⟩ : ∃ z, z = mm 48 := ⟨_, rfl⟩
  have em48 : q.2.2.1 a0 48 = m48 := by rw [xm48]; exact em 48 (by decide)
  obtain ⟨hm48, km48, lm48⟩ : m48 ∈ L ∧ h.1 m48 = 158 ∧ h.2.1 m48 = 12 := by obtain ⟨r9, e9, z1, z2, z3⟩ := hV.refn (t := 158) (n := 12) ha0 ka0 48 rfl (by decide) rfl (by decide); rw [← em48, e9]; exact ⟨z1, z2, z3⟩
  have mF : mv_F m18 m19 q := by rw [xm18, xm19]; exact mF0
  have mU : mv_U m17 q := by rw [xm17]; exact mU0
  have mS : mv_S m23 m26 m28 m29 q := by rw [xm23, xm26, xm28, xm29]; exact mS0
  have mL : mv_L m40 m41 m44 a0 q := by rw [xm40, xm41, xm44]; exact mL0
  have hF : sx_fr h L (fun _ => True) q q := sx_fr.rf
  obtain ⟨htb, ktb, ltb⟩ : tb ∈ L ∧ h.1 tb = 300 ∧ h.2.1 tb = 440 := by obtain ⟨r9, e9, z1, z2, z3⟩ := hV.refn (t := 300) (n := 440) ht0 kt0 0 rfl (by decide) (by rw [lt0]; rfl) (by decide); rw [← etb, e9]; exact ⟨z1, z2, z3⟩
  obtain ⟨hfa, kfa, lfa⟩ : fa ∈ L ∧ h.1 fa = 403 ∧ h.2.1 fa = 12 := by obtain ⟨r9, e9, z1, z2, z3⟩ := hV.refn (t := 403) (n := 12) hx0 kx0 9 rfl (by decide) rfl (by decide); rw [← efa, e9]; exact ⟨z1, z2, z3⟩
  have hT : ty_T (q.2.2.2.1 tb) (q.2.2.2.1 m1) (q.1 t0 1).toInt.toNat := by rw [xm1]; exact hT0
  have hR : lc_R h fa m44 x0 q := by rw [xm44]; exact hR0
  have gx14 : (0 : Int) ≤ (q.1 x0 14).toInt ∧ (q.1 x0 14).toInt ≤ 12 := hV.int hx0 kx0 14
  have gt1 : (0 : Int) ≤ (q.1 t0 1).toInt ∧ (q.1 t0 1).toInt ≤ 440 := by have z9 := hV.int ht0 kt0 1; rw [etb, ltb] at z9; exact z9
  obtain ⟨huu, kuu⟩ : uu ∈ L ∧ h.1 uu = 9 := by obtain ⟨r9, e9, z1, z2⟩ := hV.ref (t := 9) hx0 kx0 11 rfl (by decide); rw [← euu, e9]; exact ⟨z1, z2⟩
  obtain ⟨hsu, ksu⟩ : su ∈ L ∧ h.1 su = 9 := by obtain ⟨r9, e9, z1, z2⟩ := hV.ref (t := 9) hx0 kx0 12 rfl (by decide); rw [← esu, e9]; exact ⟨z1, z2⟩
  have nuu_su : ¬ uu = su := hdz.1
  obtain ⟨uc, euc⟩ : ∃ z, q.2.2.1 uu 1 = z := ⟨_, rfl⟩
  obtain ⟨huc, kuc, luc⟩ : uc ∈ L ∧ h.1 uc = 101 ∧ h.2.1 uc = 3 := by obtain ⟨r9, e9, z1, z2, z3⟩ := hV.refn (t := 101) (n := 3) huu kuu 1 rfl (by decide) rfl (by decide); rw [← euc, e9]; exact ⟨z1, z2, z3⟩
  obtain ⟨un, eun⟩ : ∃ z, q.2.2.1 uu 2 = z := ⟨_, rfl⟩
  obtain ⟨hun, kun, lun⟩ : un ∈ L ∧ h.1 un = 202 ∧ h.2.1 un = 15 := by obtain ⟨r9, e9, z1, z2, z3⟩ := hV.refn (t := 202) (n := 15) huu kuu 2 rfl (by decide) rfl (by decide); rw [← eun, e9]; exact ⟨z1, z2, z3⟩
  obtain ⟨uf, euf⟩ : ∃ z, q.2.2.1 uu 3 = z := ⟨_, rfl⟩
  obtain ⟨huf, kuf, luf⟩ : uf ∈ L ∧ h.1 uf = 102 ∧ h.2.1 uf = 15 := by obtain ⟨r9, e9, z1, z2, z3⟩ := hV.refn (t := 102) (n := 15) huu kuu 3 rfl (by decide) rfl (by decide); rw [← euf, e9]; exact ⟨z1, z2, z3⟩
  obtain ⟨uw, euw⟩ : ∃ z, q.2.2.1 uu 4 = z := ⟨_, rfl⟩
  obtain ⟨huw, kuw, luw⟩ : uw ∈ L ∧ h.1 uw = 103 ∧ h.2.1 uw = 15 := by obtain ⟨r9, e9, z1, z2, z3⟩ := hV.refn (t := 103) (n := 15) huu kuu 4 rfl (by decide) rfl (by decide); rw [← euw, e9]; exact ⟨z1, z2, z3⟩
  have hu : lc_u8 (q.1 uu 6) (q.1 a0 20) (q.2.2.2.1 uc) (q.2.2.2.1 m18) (q.2.2.2.1 uf) (q.2.2.2.1 m19) (q.2.2.2.1 uw) (q.2.2.2.2 un) (q.2.2.2.2 m17) := by rw [← euc, ← euf, ← euw, ← eun, xm17, xm18, xm19]; exact hu0
  obtain ⟨ho0, ko0, lo0⟩ : o0 ∈ L ∧ h.1 o0 = 7 ∧ h.2.1 o0 = 2 := by obtain ⟨r9, e9, z1, z2, z3⟩ := hV.refn (t := 7) (n := 2) hx0 kx0 1 rfl (by decide) rfl (by decide); rw [← eo0, e9]; exact ⟨z1, z2, z3⟩
  obtain ⟨hob, kob, lob⟩ : ob ∈ L ∧ h.1 ob = 300 ∧ h.2.1 ob = 59 := by obtain ⟨r9, e9, z1, z2, z3⟩ := hV.refn (t := 300) (n := 59) ho0 ko0 0 rfl (by decide) (by rw [lo0]; rfl) (by decide); rw [← eob, e9]; exact ⟨z1, z2, z3⟩
  have nt0_o0 : ¬ t0 = o0 := fun z9 => absurd (z9 ▸ lt0 : h.2.1 o0 = 1) (by rw [lo0]; decide)
  have ntb_ob : ¬ tb = ob := fun z9 => absurd (z9 ▸ ltb : h.2.1 ob = 440) (by rw [lob]; decide)
  have hout : lc_o (q.1 o0 1) (q.1 a0 22) (q.2.2.2.1 ob) (q.2.2.2.1 m21) := by rw [xm21]; exact hout0
  refine wa_aload_n B dL_law_300 rfl 3 rfl ?_
  refine wa_aload_n B dL_law_301 rfl 4 rfl ?_
  refine wa_iload B dL_law_302 0 rfl ?_
  refine wa_iconst B 1 dL_law_304 (by decide) ?_
  refine wa_iadd B dL_law_305 (fun v_1 ev_1 => ?_)
  subst ev_1
  have t_2 : (i + 1).toInt = i.toInt + 1 := by have b0 := zx_bd i; exact zx_add (show (-2147483648 : Int) ≤ i.toInt + 1 by omega) (show i.toInt + 1 < (2147483648 : Int) by omega)
  refine wa_sld B hX hbl hbA (i := (i + 1)) (show 0 ≤ (i + 1).toInt by omega) (show (i + 1).toInt < (N : Int) by omega) dL_law_306 ?_
  refine wa_aload_n B dL_law_307 rfl 4 rfl ?_
  refine wa_iload B dL_law_308 0 rfl ?_
  refine wa_iconst B 2 dL_law_310 (by decide) ?_
  refine wa_iadd B dL_law_311 (fun v_3 ev_3 => ?_)
  subst ev_3
  have t_4 : (i + 2).toInt = i.toInt + 2 := by have b0 := zx_bd i; exact zx_add (show (-2147483648 : Int) ≤ i.toInt + 2 by omega) (show i.toInt + 2 < (2147483648 : Int) by omega)
  refine wa_sld B hX hbl hbA (i := (i + 2)) (show 0 ≤ (i + 2).toInt by omega) (show (i + 2).toInt < (N : Int) by omega) dL_law_312 ?_
  obtain ⟨Wf, Xf, hcc9, hrr9⟩ := lc_u8_n hu mF ((xs ((i + 1) : Int32).toNatClampNeg)) (hV.int huu kuu 6 : sx_in _ 0 3).2
  obtain ⟨T9, eT9⟩ : ∃ T, pw_all Wf Xf (q.2.2.2.1 uc ((xs ((i + 1) : Int32).toNatClampNeg)).toNatClampNeg).toInt.toNat ((xs ((i + 2) : Int32).toNatClampNeg)).toInt.toNat [] = T := ⟨_, rfl⟩
  obtain ⟨T8, eT8⟩ : ∃ T, pw_all Wf Xf (q.2.2.2.1 m18 ((xs ((i + 1) : Int32).toNatClampNeg)).toNatClampNeg).toInt.toNat ((xs ((i + 2) : Int32).toNatClampNeg)).toInt.toNat [] = T := ⟨_, rfl⟩
  refine wa_callVi B (x := (RX11, TX11, 16)) (As := [.int ((xs ((i + 1) : Int32).toNatClampNeg)), .int ((xs ((i + 2) : Int32).toNatClampNeg))]) (rest := []) (k_X11_write_c l dC dI h L hN q hV (a0 := x0) hx0 kx0 ((xs ((i + 1) : Int32).toNatClampNeg)) ((xs ((i + 2) : Int32).toNatClampNeg)) (t0 := t0) et0 (tb := tb) etb (fa := fa) efa (uu := uu) euu (o0 := o0) eo0 (ob := ob) eob (c0 := uc) euc (m0 := un) eun (w0 := uw) euw Wf Xf T9 hcc9 eT9) (cwV 2 B.1.2.2.2.2 gL_law_X11_write rfl rfl rfl (by decide +kernel) ⟨Nat.le_of_ble_eq_true rfl, Nat.le_of_ble_eq_true rfl⟩) hx0 kx0 (by decide) rfl rfl rfl (Nat.le_of_ble_eq_true rfl) dL_law_313 (fun r_6 q_5 w_7 => ?_)
  obtain ⟨hV_q_5, h2_q_5, hw_7⟩ := w_7
  have mN_q_5 : mv_N a0 q_5 := mv_N.eq (h2_q_5.I ha0 (show ¬ (a0 = o0 ∧ h.1 a0 = 7 ∨ a0 = ob ∧ h.1 a0 = 300) from (fun z => z.elim (fun z => absurd (z.2.symm.trans ka0) (by decide)) (fun z => absurd (z.2.symm.trans ka0) (by decide)))) 8) (h2_q_5.J ha0 (show ¬ (a0 = o0 ∧ h.1 a0 = 7 ∨ a0 = ob ∧ h.1 a0 = 300) from (fun z => z.elim (fun z => absurd (z.2.symm.trans ka0) (by decide)) (fun z => absurd (z.2.symm.trans ka0) (by decide)))) 11) mN
  have mF_q_5 : mv_F m18 m19 q_5 := mv_F.eq (h2_q_5.G hm18 (show ¬ (m18 = o0 ∧ h.1 m18 = 7 ∨ m18 = ob ∧ h.1 m18 = 300) from (fun z => z.elim (fun z => absurd (z.2.symm.trans km18) (by decide)) (fun z => absurd (z.2.symm.trans km18) (by decide)))) (by rw [km18]; decide)) (h2_q_5.G hm19 (show ¬ (m19 = o0 ∧ h.1 m19 = 7 ∨ m19 = ob ∧ h.1 m19 = 300) from (fun z => z.elim (fun z => absurd (z.2.symm.trans km19) (by decide)) (fun z => absurd (z.2.symm.trans km19) (by decide)))) (by rw [km19]; decide)) mF
  have mU_q_5 : mv_U m17 q_5 := mv_U.eq (h2_q_5.Lg hm17 (show ¬ (m17 = o0 ∧ h.1 m17 = 7 ∨ m17 = ob ∧ h.1 m17 = 300) from (fun z => z.elim (fun z => absurd (z.2.symm.trans km17) (by decide)) (fun z => absurd (z.2.symm.trans km17) (by decide)))) (by rw [km17]; decide)) mU
  have mS_q_5 : mv_S m23 m26 m28 m29 q_5 := mv_S.eq (h2_q_5.G hm23 (show ¬ (m23 = o0 ∧ h.1 m23 = 7 ∨ m23 = ob ∧ h.1 m23 = 300) from (fun z => z.elim (fun z => absurd (z.2.symm.trans km23) (by decide)) (fun z => absurd (z.2.symm.trans km23) (by decide)))) (by rw [km23]; decide)) (h2_q_5.G hm26 (show ¬ (m26 = o0 ∧ h.1 m26 = 7 ∨ m26 = ob ∧ h.1 m26 = 300) from (fun z => z.elim (fun z => absurd (z.2.symm.trans km26) (by decide)) (fun z => absurd (z.2.symm.trans km26) (by decide)))) (by rw [km26]; decide)) (h2_q_5.G hm28 (show ¬ (m28 = o0 ∧ h.1 m28 = 7 ∨ m28 = ob ∧ h.1 m28 = 300) from (fun z => z.elim (fun z => absurd (z.2.symm.trans km28) (by decide)) (fun z => absurd (z.2.symm.trans km28) (by decide)))) (by rw [km28]; decide)) (h2_q_5.G hm29 (show ¬ (m29 = o0 ∧ h.1 m29 = 7 ∨ m29 = ob ∧ h.1 m29 = 300) from (fun z => z.elim (fun z => absurd (z.2.symm.trans km29) (by decide)) (fun z => absurd (z.2.symm.trans km29) (by decide)))) (by rw [km29]; decide)) mS
  have mL_q_5 : mv_L m40 m41 m44 a0 q_5 := mv_L.eq (h2_q_5.G hm40 (show ¬ (m40 = o0 ∧ h.1 m40 = 7 ∨ m40 = ob ∧ h.1 m40 = 300) from (fun z => z.elim (fun z => absurd (z.2.symm.trans km40) (by decide)) (fun z => absurd (z.2.symm.trans km40) (by decide)))) (by rw [km40]; decide)) (h2_q_5.G hm41 (show ¬ (m41 = o0 ∧ h.1 m41 = 7 ∨ m41 = ob ∧ h.1 m41 = 300) from (fun z => z.elim (fun z => absurd (z.2.symm.trans km41) (by decide)) (fun z => absurd (z.2.symm.trans km41) (by decide)))) (by rw [km41]; decide)) (h2_q_5.G hm44 (show ¬ (m44 = o0 ∧ h.1 m44 = 7 ∨ m44 = ob ∧ h.1 m44 = 300) from (fun z => z.elim (fun z => absurd (z.2.symm.trans km44) (by decide)) (fun z => absurd (z.2.symm.trans km44) (by decide)))) (by rw [km44]; decide)) (h2_q_5.I ha0 (show ¬ (a0 = o0 ∧ h.1 a0 = 7 ∨ a0 = ob ∧ h.1 a0 = 300) from (fun z => z.elim (fun z => absurd (z.2.symm.trans ka0) (by decide)) (fun z => absurd (z.2.symm.trans ka0) (by decide)))) 45) mL
  have z_8 : q_5.1 x0 14 = q.1 x0 14 := h2_q_5.I hx0 (show ¬ (x0 = o0 ∧ h.1 x0 = 7 ∨ x0 = ob ∧ h.1 x0 = 300) from (fun z => z.elim (fun z => absurd (z.2.symm.trans kx0) (by decide)) (fun z => absurd (z.2.symm.trans kx0) (by decide)))) 14
  have z_9 : q_5.1 t0 1 = q.1 t0 1 := h2_q_5.I ht0 (show ¬ (t0 = o0 ∧ h.1 t0 = 7 ∨ t0 = ob ∧ h.1 t0 = 300) from (fun z => z.elim (fun z => absurd z.1 (by omega)) (fun z => absurd (z.2.symm.trans kt0) (by decide)))) 1
  have hB_q_5 := hw_7.2.2.2.2.1.trans esu
  refine wa_aload_n B dL_law_316 rfl 2 rfl ?_
  refine wa_aload_n B dL_law_317 rfl 4 rfl ?_
  refine wa_iload B dL_law_318 0 rfl ?_
  refine wa_iconst B 1 dL_law_320 (by decide) ?_
  refine wa_iadd B dL_law_321 (fun v_10 ev_10 => ?_)
  subst ev_10
  refine wa_sld B hX hbl hbA (i := (i + 1)) (show 0 ≤ (i + 1).toInt by omega) (show (i + 1).toInt < (N : Int) by omega) dL_law_322 ?_
  refine wa_aload_n B dL_law_323 rfl 4 rfl ?_
  refine wa_iload B dL_law_324 0 rfl ?_
  refine wa_iconst B 2 dL_law_326 (by decide) ?_
  refine wa_iadd B dL_law_327 (fun v_11 ev_11 => ?_)
  subst ev_11
  refine wa_sld B hX hbl hbA (i := (i + 2)) (show 0 ≤ (i + 2).toInt by omega) (show (i + 2).toInt < (N : Int) by omega) dL_law_328 ?_
  have z_12 : q_5.2.2.1 a0 17 = m17 := (h2_q_5.R ha0 (fun z9 => absurd z9.2 (by omega)) 17).trans (em17)
  have z_13 : q_5.2.2.1 a0 18 = m18 := (h2_q_5.R ha0 (fun z9 => absurd z9.2 (by omega)) 18).trans (em18)
  have z_14 : q_5.2.2.1 a0 19 = m19 := (h2_q_5.R ha0 (fun z9 => absurd z9.2 (by omega)) 19).trans (em19)
  have z_15 : q_5.2.2.1 a0 21 = m21 := (h2_q_5.R ha0 (fun z9 => absurd z9.2 (by omega)) 21).trans (em21)
  have z_16 : q_5.1 a0 22 = q.1 a0 22 := h2_q_5.I ha0 (show ¬ (a0 = o0 ∧ h.1 a0 = 7 ∨ a0 = ob ∧ h.1 a0 = 300) from (fun z => z.elim (fun z => absurd (z.2.symm.trans ka0) (by decide)) (fun z => absurd (z.2.symm.trans ka0) (by decide)))) 22
  have y_17 : (q_5.1 a0 22).toInt = (q.1 a0 22).toInt := by rw [z_16]
  have z_18 : q_5.1 a0 20 = q.1 a0 20 := h2_q_5.I ha0 (show ¬ (a0 = o0 ∧ h.1 a0 = 7 ∨ a0 = ob ∧ h.1 a0 = 300) from (fun z => z.elim (fun z => absurd (z.2.symm.trans ka0) (by decide)) (fun z => absurd (z.2.symm.trans ka0) (by decide)))) 20
  have y_19 : (q_5.1 a0 20).toInt = (q.1 a0 20).toInt := by rw [z_18]
  have z_20 : q_5.2.2.2.1 m18 = q.2.2.2.1 m18 := h2_q_5.G hm18 (show ¬ (m18 = o0 ∧ h.1 m18 = 7 ∨ m18 = ob ∧ h.1 m18 = 300) from (fun z => z.elim (fun z => absurd (z.2.symm.trans km18) (by decide)) (fun z => absurd (z.2.symm.trans km18) (by decide)))) (by rw [km18]; decide)
  have z_21 : q_5.2.2.2.1 m19 = q.2.2.2.1 m19 := h2_q_5.G hm19 (show ¬ (m19 = o0 ∧ h.1 m19 = 7 ∨ m19 = ob ∧ h.1 m19 = 300) from (fun z => z.elim (fun z => absurd (z.2.symm.trans km19) (by decide)) (fun z => absurd (z.2.symm.trans km19) (by decide)))) (by rw [km19]; decide)
  have z_22 : q_5.2.2.2.2 m17 = q.2.2.2.2 m17 := h2_q_5.Lg hm17 (show ¬ (m17 = o0 ∧ h.1 m17 = 7 ∨ m17 = ob ∧ h.1 m17 = 300) from (fun z => z.elim (fun z => absurd (z.2.symm.trans km17) (by decide)) (fun z => absurd (z.2.symm.trans km17) (by decide)))) (by rw [km17]; decide)
  have z_23 : q_5.2.2.2.1 m21 = q.2.2.2.1 m21 := h2_q_5.G hm21 (show ¬ (m21 = o0 ∧ h.1 m21 = 7 ∨ m21 = ob ∧ h.1 m21 = 300) from (fun z => z.elim (fun z => absurd (z.2.symm.trans km21) (by decide)) (fun z => absurd (z.2.symm.trans km21) (by decide)))) (by rw [km21]; decide)
  refine wa_callVi B (x := (RX12, TX12, 51)) (As := [.int ((xs ((i + 1) : Int32).toNatClampNeg)), .int ((xs ((i + 2) : Int32).toNatClampNeg))]) (rest := [.int r_6]) (k_X12_write_c l dC dI h L hN q_5 hV_q_5 (a0 := a0) ha0 ka0 ((xs ((i + 1) : Int32).toNatClampNeg)) ((xs ((i + 2) : Int32).toNatClampNeg)) (m17 := m17) z_12 (m18 := m18) z_13 (m19 := m19) z_14 (m21 := m21) z_15 Wf Xf T8 (by rw [z_18, z_20, z_21, z_22]; exact hrr9) (by rw [z_20]; exact eT8)) (cwV 2 B.1.2.2.2.2 gL_law_X12_write rfl rfl rfl (by decide +kernel) ⟨Nat.le_of_ble_eq_true rfl, Nat.le_of_ble_eq_true rfl⟩) ha0 ka0 (by decide) rfl rfl rfl (Nat.le_of_ble_eq_true rfl) dL_law_329 (fun r_25 q_24 w_26 => ?_)
  obtain ⟨hV_q_24, h2_q_24, h3_q_24, hw_26⟩ := w_26
  have mN_q_24 : mv_N a0 q_24 := mv_N.eq (h3_q_24.1 8 (by decide)) (h3_q_24.2 11 (by decide)) mN_q_5
  have mF_q_24 : mv_F m18 m19 q_24 := mv_F.eq (h2_q_24.G hm18 (show ¬ (h.1 m18 = 12 ∨ h.1 m18 = 131) from (fun z => z.elim (fun z => absurd (z.symm.trans km18) (by decide)) (fun z => absurd (z.symm.trans km18) (by decide)))) (by rw [km18]; decide)) (h2_q_24.G hm19 (show ¬ (h.1 m19 = 12 ∨ h.1 m19 = 131) from (fun z => z.elim (fun z => absurd (z.symm.trans km19) (by decide)) (fun z => absurd (z.symm.trans km19) (by decide)))) (by rw [km19]; decide)) mF_q_5
  have mU_q_24 : mv_U m17 q_24 := mv_U.eq (h2_q_24.Lg hm17 (show ¬ (h.1 m17 = 12 ∨ h.1 m17 = 131) from (fun z => z.elim (fun z => absurd (z.symm.trans km17) (by decide)) (fun z => absurd (z.symm.trans km17) (by decide)))) (by rw [km17]; decide)) mU_q_5
  have mS_q_24 : mv_S m23 m26 m28 m29 q_24 := mv_S.eq (h2_q_24.G hm23 (show ¬ (h.1 m23 = 12 ∨ h.1 m23 = 131) from (fun z => z.elim (fun z => absurd (z.symm.trans km23) (by decide)) (fun z => absurd (z.symm.trans km23) (by decide)))) (by rw [km23]; decide)) (h2_q_24.G hm26 (show ¬ (h.1 m26 = 12 ∨ h.1 m26 = 131) from (fun z => z.elim (fun z => absurd (z.symm.trans km26) (by decide)) (fun z => absurd (z.symm.trans km26) (by decide)))) (by rw [km26]; decide)) (h2_q_24.G hm28 (show ¬ (h.1 m28 = 12 ∨ h.1 m28 = 131) from (fun z => z.elim (fun z => absurd (z.symm.trans km28) (by decide)) (fun z => absurd (z.symm.trans km28) (by decide)))) (by rw [km28]; decide)) (h2_q_24.G hm29 (show ¬ (h.1 m29 = 12 ∨ h.1 m29 = 131) from (fun z => z.elim (fun z => absurd (z.symm.trans km29) (by decide)) (fun z => absurd (z.symm.trans km29) (by decide)))) (by rw [km29]; decide)) mS_q_5
  have mL_q_24 : mv_L m40 m41 m44 a0 q_24 := mv_L.eq (h2_q_24.G hm40 (show ¬ (h.1 m40 = 12 ∨ h.1 m40 = 131) from (fun z => z.elim (fun z => absurd (z.symm.trans km40) (by decide)) (fun z => absurd (z.symm.trans km40) (by decide)))) (by rw [km40]; decide)) (h2_q_24.G hm41 (show ¬ (h.1 m41 = 12 ∨ h.1 m41 = 131) from (fun z => z.elim (fun z => absurd (z.symm.trans km41) (by decide)) (fun z => absurd (z.symm.trans km41) (by decide)))) (by rw [km41]; decide)) (h2_q_24.G hm44 (show ¬ (h.1 m44 = 12 ∨ h.1 m44 = 131) from (fun z => z.elim (fun z => absurd (z.symm.trans km44) (by decide)) (fun z => absurd (z.symm.trans km44) (by decide)))) (by rw [km44]; decide)) (h3_q_24.1 45 (by decide)) mL_q_5
  have hwr9 := hw_26
  rw [z_18, z_20, z_16, z_23] at hwr9
  have hwr8 := lc_wr hu hw_7.2.2.2.2.2.2 hwr9 eT9 eT8 hout
  have rr9 := hwr8.1
  refine wa_icmp_eq B 775 dL_law_332 (by decide) (fun (t_27 : r_6.toInt = r_25.toInt) => ?_) (fun (t_27 : ¬ r_6.toInt = r_25.toInt) => ?_)
  · have z_28 : q_24.1 a0 2 = q.1 a0 2 := (h3_q_24.1 2 (by decide)).trans (h2_q_5.I ha0 (show ¬ (a0 = o0 ∧ h.1 a0 = 7 ∨ a0 = ob ∧ h.1 a0 = 300) from (fun z => z.elim (fun z => absurd (z.2.symm.trans ka0) (by decide)) (fun z => absurd (z.2.symm.trans ka0) (by decide)))) 2)
    have y_29 : (q_24.1 a0 2).toInt = (q.1 a0 2).toInt := by rw [z_28]
    have z_30 : q_24.1 a0 45 = q.1 a0 45 := (h3_q_24.1 45 (by decide)).trans (h2_q_5.I ha0 (show ¬ (a0 = o0 ∧ h.1 a0 = 7 ∨ a0 = ob ∧ h.1 a0 = 300) from (fun z => z.elim (fun z => absurd (z.2.symm.trans ka0) (by decide)) (fun z => absurd (z.2.symm.trans ka0) (by decide)))) 45)
    have y_31 : (q_24.1 a0 45).toInt = (q.1 a0 45).toInt := by rw [z_30]
    have z_32 : q_24.1 t0 1 = (q.1 t0 1) := (h2_q_24.I ht0 (show ¬ (h.1 t0 = 12 ∨ h.1 t0 = 131) from (fun z => z.elim (fun z => absurd (z.symm.trans kt0) (by decide)) (fun z => absurd (z.symm.trans kt0) (by decide)))) 1).trans (z_9)
    have y_33 : (q_24.1 t0 1).toInt = (q.1 t0 1).toInt := by rw [z_32]
    have z_34 : q_24.1 x0 14 = (q.1 x0 14) := (h2_q_24.I hx0 (show ¬ (h.1 x0 = 12 ∨ h.1 x0 = 131) from (fun z => z.elim (fun z => absurd (z.symm.trans kx0) (by decide)) (fun z => absurd (z.symm.trans kx0) (by decide)))) 14).trans (z_8)
    have y_35 : (q_24.1 x0 14).toInt = (q.1 x0 14).toInt := by rw [z_34]
    have z_36 : q_24.2.2.1 x0 0 = t0 := (h2_q_24.R hx0 (show ¬ ((h.1 x0 = 12 ∨ h.1 x0 = 131) ∧ (h.1 x0 = 8 ∨ h.1 x0 = 11)) from fun z9 => (show ¬ (h.1 x0 = 12 ∨ h.1 x0 = 131) from (fun z => z.elim (fun z => absurd (z.symm.trans kx0) (by decide)) (fun z => absurd (z.symm.trans kx0) (by decide)))) z9.1) 0).trans (hw_7.1)
    have z_37 : q_24.2.2.1 t0 0 = tb := (h2_q_24.R ht0 (fun z9 => absurd z9.2 (by omega)) 0).trans ((h2_q_5.R ht0 (fun z9 => absurd z9.2 (by omega)) 0).trans (etb))
    have z_38 : q_24.2.2.1 x0 9 = fa := (h2_q_24.R hx0 (show ¬ ((h.1 x0 = 12 ∨ h.1 x0 = 131) ∧ (h.1 x0 = 8 ∨ h.1 x0 = 11)) from fun z9 => (show ¬ (h.1 x0 = 12 ∨ h.1 x0 = 131) from (fun z => z.elim (fun z => absurd (z.symm.trans kx0) (by decide)) (fun z => absurd (z.symm.trans kx0) (by decide)))) z9.1) 9).trans (hw_7.2.2.2.2.2.1.1)
    have z_39 : q_24.2.2.2.1 tb = q.2.2.2.1 tb := (h2_q_24.G htb (show ¬ (h.1 tb = 12 ∨ h.1 tb = 131) from (fun z => z.elim (fun z => absurd (z.symm.trans ktb) (by decide)) (fun z => absurd (z.symm.trans ktb) (by decide)))) (by rw [ktb]; decide)).trans (h2_q_5.G htb (show ¬ (tb = o0 ∧ h.1 tb = 7 ∨ tb = ob ∧ h.1 tb = 300) from (fun z => z.elim (fun z => absurd (z.2.symm.trans ktb) (by decide)) (fun z => absurd z.1 (by omega)))) (by rw [ktb]; decide))
    have z_40 : q_24.2.2.2.1 m1 = q.2.2.2.1 m1 := (h2_q_24.G hm1 (show ¬ (h.1 m1 = 12 ∨ h.1 m1 = 131) from (fun z => z.elim (fun z => absurd (z.symm.trans km1) (by decide)) (fun z => absurd (z.symm.trans km1) (by decide)))) (by rw [km1]; decide)).trans (h2_q_5.G hm1 (show ¬ (m1 = o0 ∧ h.1 m1 = 7 ∨ m1 = ob ∧ h.1 m1 = 300) from (fun z => z.elim (fun z => absurd (z.2.symm.trans km1) (by decide)) (fun z => absurd (z.2.symm.trans km1) (by decide)))) (by rw [km1]; decide))
    have hT9 : ty_T (q_24.2.2.2.1 tb) (q_24.2.2.2.1 m1) (q_24.1 t0 1).toInt.toNat := by rw [z_39, z_40]; exact hT.le (by omega)
    have z_41 : q_24.2.2.2.1 m44 = q.2.2.2.1 m44 := (h2_q_24.G hm44 (show ¬ (h.1 m44 = 12 ∨ h.1 m44 = 131) from (fun z => z.elim (fun z => absurd (z.symm.trans km44) (by decide)) (fun z => absurd (z.symm.trans km44) (by decide)))) (by rw [km44]; decide)).trans (h2_q_5.G hm44 (show ¬ (m44 = o0 ∧ h.1 m44 = 7 ∨ m44 = ob ∧ h.1 m44 = 300) from (fun z => z.elim (fun z => absurd (z.2.symm.trans km44) (by decide)) (fun z => absurd (z.2.symm.trans km44) (by decide)))) (by rw [km44]; decide))
    have hR9 : lc_R h fa m44 x0 q_24 := by
      intro f hf
      obtain ⟨e9, ee9, he9, ke9⟩ := hV.elem (t := 0) hfa kfa (by decide) rfl (j := f) (by omega)
      rw [ee9, show q_24.1 e9 3 = q_5.1 e9 3 from h2_q_24.I he9 (show ¬ (h.1 e9 = 12 ∨ h.1 e9 = 131) from by omega) 3, show q_5.1 e9 3 = q.1 e9 3 from h2_q_5.I he9 (show ¬ (e9 = o0 ∧ h.1 e9 = 7 ∨ e9 = ob ∧ h.1 e9 = 300) from by omega) 3, ← ee9, z_41]
      exact hR f (by omega)
    have hR_uu : q_24.2.2.1 uu = q.2.2.1 uu := by rw [show q_24.2.2.1 uu = q_5.2.2.1 uu from h2_q_24.2 uu huu (fun z9 => absurd z9.2 (by rw [kuu]; decide)), show q_5.2.2.1 uu = q.2.2.1 uu from h2_q_5.2 uu huu (fun z9 => absurd z9.2 (by rw [kuu]; decide))]
    have hR_su : q_24.2.2.1 su = q.2.2.1 su := by rw [show q_24.2.2.1 su = q_5.2.2.1 su from h2_q_24.2 su hsu (fun z9 => absurd z9.2 (by rw [ksu]; decide)), show q_5.2.2.1 su = q.2.2.1 su from h2_q_5.2 su hsu (fun z9 => absurd z9.2 (by rw [ksu]; decide))]
    have hout9 : lc_o (q_24.1 o0 1) (q_24.1 a0 22) (q_24.2.2.2.1 ob) (q_24.2.2.2.1 (mm 21)) := by rw [← xm21, show q_24.1 o0 1 = q_5.1 o0 1 from h2_q_24.I ho0 (show ¬ (h.1 o0 = 12 ∨ h.1 o0 = 131) from (fun z => z.elim (fun z => absurd (z.symm.trans ko0) (by decide)) (fun z => absurd (z.symm.trans ko0) (by decide)))) 1, show q_24.2.2.2.1 ob = q_5.2.2.2.1 ob from h2_q_24.G hob (show ¬ (h.1 ob = 12 ∨ h.1 ob = 131) from (fun z => z.elim (fun z => absurd (z.symm.trans kob) (by decide)) (fun z => absurd (z.symm.trans kob) (by decide)))) (by rw [kob]; decide)]; exact hwr8.2
    have z_42 : q_24.2.2.1 x0 1 = o0 := (h2_q_24.R hx0 (show ¬ ((h.1 x0 = 12 ∨ h.1 x0 = 131) ∧ (h.1 x0 = 8 ∨ h.1 x0 = 11)) from fun z9 => (show ¬ (h.1 x0 = 12 ∨ h.1 x0 = 131) from (fun z => z.elim (fun z => absurd (z.symm.trans kx0) (by decide)) (fun z => absurd (z.symm.trans kx0) (by decide)))) z9.1) 1).trans (hw_7.2.2.2.2.2.1.2)
    have z_43 : q_24.2.2.1 o0 0 = ob := (h2_q_24.R ho0 (fun z9 => absurd z9.2 (by omega)) 0).trans ((h2_q_5.R ho0 (fun z9 => absurd z9.2 (by omega)) 0).trans (eob))
    have z_44 : q_24.1 uu 6 = q.1 uu 6 := (h2_q_24.I huu (show ¬ (h.1 uu = 12 ∨ h.1 uu = 131) from (fun z => z.elim (fun z => absurd (z.symm.trans kuu) (by decide)) (fun z => absurd (z.symm.trans kuu) (by decide)))) 6).trans (h2_q_5.I huu (show ¬ (uu = o0 ∧ h.1 uu = 7 ∨ uu = ob ∧ h.1 uu = 300) from (fun z => z.elim (fun z => absurd (z.2.symm.trans kuu) (by decide)) (fun z => absurd (z.2.symm.trans kuu) (by decide)))) 6)
    have z_45 : q_24.1 a0 20 = (q.1 a0 20) := (h3_q_24.1 20 (by decide)).trans (z_18)
    have z_46 : q_24.2.2.2.1 uc = q.2.2.2.1 uc := (h2_q_24.G huc (show ¬ (h.1 uc = 12 ∨ h.1 uc = 131) from (fun z => z.elim (fun z => absurd (z.symm.trans kuc) (by decide)) (fun z => absurd (z.symm.trans kuc) (by decide)))) (by rw [kuc]; decide)).trans (h2_q_5.G huc (show ¬ (uc = o0 ∧ h.1 uc = 7 ∨ uc = ob ∧ h.1 uc = 300) from (fun z => z.elim (fun z => absurd (z.2.symm.trans kuc) (by decide)) (fun z => absurd (z.2.symm.trans kuc) (by decide)))) (by rw [kuc]; decide))
    have z_47 : q_24.2.2.2.1 m18 = (q.2.2.2.1 m18) := (h2_q_24.G hm18 (show ¬ (h.1 m18 = 12 ∨ h.1 m18 = 131) from (fun z => z.elim (fun z => absurd (z.symm.trans km18) (by decide)) (fun z => absurd (z.symm.trans km18) (by decide)))) (by rw [km18]; decide)).trans (z_20)
    have z_48 : q_24.2.2.2.1 uf = q.2.2.2.1 uf := (h2_q_24.G huf (show ¬ (h.1 uf = 12 ∨ h.1 uf = 131) from (fun z => z.elim (fun z => absurd (z.symm.trans kuf) (by decide)) (fun z => absurd (z.symm.trans kuf) (by decide)))) (by rw [kuf]; decide)).trans (h2_q_5.G huf (show ¬ (uf = o0 ∧ h.1 uf = 7 ∨ uf = ob ∧ h.1 uf = 300) from (fun z => z.elim (fun z => absurd (z.2.symm.trans kuf) (by decide)) (fun z => absurd (z.2.symm.trans kuf) (by decide)))) (by rw [kuf]; decide))
    have z_49 : q_24.2.2.2.1 m19 = (q.2.2.2.1 m19) := (h2_q_24.G hm19 (show ¬ (h.1 m19 = 12 ∨ h.1 m19 = 131) from (fun z => z.elim (fun z => absurd (z.symm.trans km19) (by decide)) (fun z => absurd (z.symm.trans km19) (by decide)))) (by rw [km19]; decide)).trans (z_21)
    have z_50 : q_24.2.2.2.1 uw = q.2.2.2.1 uw := (h2_q_24.G huw (show ¬ (h.1 uw = 12 ∨ h.1 uw = 131) from (fun z => z.elim (fun z => absurd (z.symm.trans kuw) (by decide)) (fun z => absurd (z.symm.trans kuw) (by decide)))) (by rw [kuw]; decide)).trans (h2_q_5.G huw (show ¬ (uw = o0 ∧ h.1 uw = 7 ∨ uw = ob ∧ h.1 uw = 300) from (fun z => z.elim (fun z => absurd (z.2.symm.trans kuw) (by decide)) (fun z => absurd (z.2.symm.trans kuw) (by decide)))) (by rw [kuw]; decide))
    have z_51 : q_24.2.2.2.2 un = q.2.2.2.2 un := (h2_q_24.Lg hun (show ¬ (h.1 un = 12 ∨ h.1 un = 131) from (fun z => z.elim (fun z => absurd (z.symm.trans kun) (by decide)) (fun z => absurd (z.symm.trans kun) (by decide)))) (by rw [kun]; decide)).trans (h2_q_5.Lg hun (show ¬ (un = o0 ∧ h.1 un = 7 ∨ un = ob ∧ h.1 un = 300) from (fun z => z.elim (fun z => absurd (z.2.symm.trans kun) (by decide)) (fun z => absurd (z.2.symm.trans kun) (by decide)))) (by rw [kun]; decide))
    have z_52 : q_24.2.2.2.2 m17 = (q.2.2.2.2 m17) := (h2_q_24.Lg hm17 (show ¬ (h.1 m17 = 12 ∨ h.1 m17 = 131) from (fun z => z.elim (fun z => absurd (z.symm.trans km17) (by decide)) (fun z => absurd (z.symm.trans km17) (by decide)))) (by rw [km17]; decide)).trans (z_22)
    have hu9 : lc_uq8 q_24 a0 uu (mm 17) (mm 18) (mm 19) := by unfold lc_uq8; rw [← xm17, ← xm18, ← xm19, hR_uu, euc, euf, euw, eun, z_44, z_45, z_46, z_47, z_48, z_49, z_50, z_51, z_52]; exact hu
    have z_53 : q_24.2.2.1 x0 11 = uu := (h2_q_24.R hx0 (show ¬ ((h.1 x0 = 12 ∨ h.1 x0 = 131) ∧ (h.1 x0 = 8 ∨ h.1 x0 = 11)) from fun z9 => (show ¬ (h.1 x0 = 12 ∨ h.1 x0 = 131) from (fun z => z.elim (fun z => absurd (z.symm.trans kx0) (by decide)) (fun z => absurd (z.symm.trans kx0) (by decide)))) z9.1) 11).trans (hw_7.2.2.2.1)
    have z_54 : q_24.2.2.1 x0 12 = su := (h2_q_24.R hx0 (show ¬ ((h.1 x0 = 12 ∨ h.1 x0 = 131) ∧ (h.1 x0 = 8 ∨ h.1 x0 = 11)) from fun z9 => (show ¬ (h.1 x0 = 12 ∨ h.1 x0 = 131) from (fun z => z.elim (fun z => absurd (z.symm.trans kx0) (by decide)) (fun z => absurd (z.symm.trans kx0) (by decide)))) z9.1) 12).trans (hB_q_5)
    exact hcont _ _ (Or.inl rfl) ⟨⟨⟨hV_q_24, mN_q_24, by rw [← xm18, ← xm19]; exact mF_q_24, by rw [← xm17]; exact mU_q_24, by rw [← xm23, ← xm26, ← xm28, ← xm29]; exact mS_q_24, by rw [← xm40, ← xm41, ← xm44]; exact mL_q_24, z_36, fun k hk => by rw [show q_24.2.2.1 a0 = q_5.2.2.1 a0 from h2_q_24.2 a0 ha0 (fun z9 => absurd z9.2 (by omega)), show q_5.2.2.1 a0 = q.2.2.1 a0 from h2_q_5.2 a0 ha0 (fun z9 => absurd z9.2 (by omega))]; exact em k hk, by omega, by omega⟩, z_37, z_38, by rw [← xm1]; exact hT9, by rw [← xm44]; exact hR9⟩, uu, su, o0, ob, z_53, z_54, hdz.eq hR_uu hR_su, hu9, ⟨z_42, z_43⟩, hout9⟩
  · exfalso
    omega
